theorem e_isClassD {n j : Nat} {sup : Nat → Nat} {fc : Nat → Int32} {M : Mm} (hT : TOk n sup fc) (h : TRe n sup fc M) (hj : j < 2 ^ 31) : P_D_isClass (nI j) M = if 16 ≤ j ∧ j < 16 + n then 1 else 0 := by
  have hn := hT.2.1
  have hn2 := hT.1
  have e : (16 : Int32) + nI n - 1 = nI (15 + n) := by
    rw [show (16 : Int32) = nI 16 from rfl, nI_add, show (1 : Int32) = nI 1 from rfl, pk_sub (by omega)]
    congr 1
    omega
  unfold P_D_isClass P_D_in
  rw [h.1, e, lt_v]
  by_cases c1 : 16 ≤ j
  · rw [if_neg (show ¬ nI j < 16 from nI_nlt (b := 16) c1 hj)]
    by_cases c2 : j < 16 + n
    · rw [if_neg (nI_nlt (by omega) (by omega)), if_pos ⟨c1, c2⟩]
    · rw [if_pos (nI_lt (by omega) hj), if_neg (fun z => c2 z.2)]
  · rw [if_pos (show nI j < 16 from nI_lt (b := 16) (by omega) (by decide)), if_neg (fun z => c1 z.1)]
theorem rfN_v {n p x : Nat} (hp : p ≤ 3) (hx : x = 12 ∨ (16 ≤ x ∧ x < 16 + n)) (hn : n ≤ 10) : rfN n (64 * p + x) = decide (¬ (x = 12 ∧ p = 0)) := by
  have hx64 : x < 64 := by omega
  have e1 : (64 * p + x) % 64 = x := by omega
  unfold rfN
  rw [e1]
  rcases hx with rfl | ⟨h1, h2⟩
  · rcases Nat.eq_zero_or_pos p with rfl | h0
    · simp
    · simp [show 64 * p + 12 < 256 by omega, show 64 ≤ 64 * p + 12 by omega, show ¬ p = 0 by omega]
  · simp [show 64 * p + x < 256 by omega, h1, h2, show ¬ x = 12 by omega]
theorem e_gD70 {n p q x y : Nat} {sup : Nat → Nat} {fc : Nat → Int32} {M : Mm} (hT : TOk n sup fc) (h : TRe n sup fc M) (hp : p ≤ 3) (hq : q ≤ 3) (hpq : p = 0 ∨ q = 0) (hne : ¬ 64 * p + x = 64 * q + y) (hx : x = 12 ∨ (16 ≤ x ∧ x < 16 + n)) (hy : y = 12 ∨ (16 ≤ y ∧ y < 16 + n)) : F_D_goesFor_b70 (nI (64 * p + x)) (nI (64 * q + y)) M = some (if gv sup fc p x q y then 1 else 0, M) := by
  have hn := hT.2.1
  unfold F_D_goesFor_b70
  simp only [lt_v, e_isRefD hT h]
  rw [rf_nI (by omega), rf_nI (by omega), rfN_v hp hx hn, rfN_v hq hy hn, e_isClassD hT h (by omega), e_isClassD hT h (by omega)]
  unfold gv
  by_cases A : x = 12 ∧ p = 0
  · rw [if_pos (show (x = 12 ∧ p ≤ q) ∨ (y = 12 ∧ q ≤ p) from Or.inl ⟨A.1, by omega⟩)]
    simp [A]
  · by_cases B : y = 12 ∧ q = 0
    · rw [if_pos (show (x = 12 ∧ p ≤ q) ∨ (y = 12 ∧ q ≤ p) from Or.inr ⟨B.1, by omega⟩)]
      simp [A, B]
    · have h1 : decide (¬ (x = 12 ∧ p = 0)) = true := decide_eq_true A
      have h2 : decide (¬ (y = 12 ∧ q = 0)) = true := decide_eq_true B
      rw [h1, h2, if_neg (show ¬ ((x = 12 ∧ p ≤ q) ∨ (y = 12 ∧ q ≤ p)) by omega)]
      simp only [if_true, show ¬ (1 : Int32) = 0 by decide, if_false]
      rw [if_neg (nI_ne (by omega) (by omega) hne)]
      by_cases C : y = 16 ∧ q ≤ p
      · rw [if_pos (show nI (64 * q + y) = 16 from eqN (k := 16) rfl (by omega)), if_pos C]
        rfl
      · rw [if_neg (show ¬ nI (64 * q + y) = 16 from neN (k := 16) rfl (by omega) (by decide) (by omega)), if_neg C]
        by_cases E : p = q
        · have p0 : p = 0 := by omega
          have q0 : q = 0 := by omega
          subst p0
          subst q0
          have ex : nI (64 * 0 + x) - 16 = nI (x - 16) := by
            rw [show (16 : Int32) = nI 16 from rfl, pk_sub (by omega)]
            congr 1
            omega
          have ey : nI (64 * 0 + y) - 16 = nI (y - 16) := by
            rw [show (16 : Int32) = nI 16 from rfl, pk_sub (by omega)]
            congr 1
            omega
          rw [if_pos (show 16 ≤ 64 * 0 + x ∧ 64 * 0 + x < 16 + n by omega), if_pos (show 16 ≤ 64 * 0 + y ∧ 64 * 0 + y < 16 + n by omega), if_neg (by decide), if_neg (by decide), ex, ey, bnd_nI (by omega) (by decide), nI_clamp (by omega), h.2.2.2 _ (by omega), if_pos rfl]
          by_cases F : fc (y - 16) = 0
          · rw [if_pos F, e_isBelowD hT h (by omega) (by omega), bd_some]
            cases bl sup (x - 16) (y - 16) <;> simp [F]
          · rw [if_neg F]
            simp [F]
        · rw [if_neg E]
          by_cases G1 : 1 ≤ p
          · rw [if_neg (show ¬ (16 ≤ 64 * p + x ∧ 64 * p + x < 16 + n) by omega), if_pos rfl]
            rfl
          · rw [if_neg (show ¬ (16 ≤ 64 * q + y ∧ 64 * q + y < 16 + n) by omega), if_pos rfl]
            by_cases G2 : 16 ≤ 64 * p + x ∧ 64 * p + x < 16 + n
            · rw [if_pos G2, if_neg (by decide)]
              rfl
            · rw [if_neg G2, if_pos rfl]
              rfl
theorem inD {v a b : Int32} {M : Mm} : P_D_in v a b M = if v < a then 0 else if b < v then 0 else 1 := rfl
theorem e_gD23 {n x y : Nat} {sup : Nat → Nat} {fc : Nat → Int32} {M : Mm} (hT : TOk n sup fc) (h : TRe n sup fc M) (hx : x = 12 ∨ (16 ≤ x ∧ x < 16 + n)) (hy : y = 12 ∨ (16 ≤ y ∧ y < 16 + n)) : ∀ (p q f : Nat), p ≤ 3 → q ≤ 3 → ¬ 64 * p + x = 64 * q + y → p < f → F_D_goesFor_b23 f (nI (64 * p + x)) (nI (64 * q + y)) M = some (if gv sup fc p x q y then 1 else 0, M) := by
  have hn := hT.2.1
  intro p
  induction p with
  | zero =>
    intro q f hp hq hne hf
    cases f with
    | zero => omega
    | succ f =>
      have e := e_gD70 hT h (p := 0) (q := q) (by omega) (by omega) (Or.inl rfl) hne hx hy
      rw [F_D_goesFor_b23, if_neg (nI_ne (by omega) (by omega) hne)]
      by_cases c1 : nI (64 * q + y) = 16
      · rw [if_pos c1]
        exact e
      · rw [if_neg c1, lt_v, inD, if_pos (show nI (64 * 0 + x) < 64 from nI_lt (b := 64) (by omega) (by decide)), if_pos rfl]
        exact e
  | succ p ih =>
    intro q f hp hq hne hf
    cases f with
    | zero => omega
    | succ f =>
      rw [F_D_goesFor_b23, if_neg (nI_ne (by omega) (by omega) hne)]
      cases q with
      | zero =>
        have e := e_gD70 hT h (p := p + 1) (q := 0) (by omega) (by omega) (Or.inr rfl) hne hx hy
        by_cases c1 : nI (64 * 0 + y) = 16
        · rw [if_pos c1]
          exact e
        · rw [if_neg c1, lt_v, lt_v, inD, inD, if_neg (show ¬ nI (64 * (p + 1) + x) < 64 from nI_nlt (b := 64) (by omega) (by omega)), if_neg (show ¬ (255 : Int32) < nI (64 * (p + 1) + x) from nI_nlt (a := 255) (by omega) (by decide)), if_neg (by decide), if_pos (show nI (64 * 0 + y) < 64 from nI_lt (b := 64) (by omega) (by decide)), if_pos rfl]
          exact e
      | succ q =>
        rw [if_neg (show ¬ nI (64 * (q + 1) + y) = 16 from neN (k := 16) rfl (by omega) (by decide) (by omega)), lt_v, lt_v, inD, inD, if_neg (show ¬ nI (64 * (p + 1) + x) < 64 from nI_nlt (b := 64) (by omega) (by omega)), if_neg (show ¬ (255 : Int32) < nI (64 * (p + 1) + x) from nI_nlt (a := 255) (by omega) (by decide)), if_neg (by decide), if_neg (show ¬ nI (64 * (q + 1) + y) < 64 from nI_nlt (b := 64) (by omega) (by omega)), if_neg (show ¬ (255 : Int32) < nI (64 * (q + 1) + y) from nI_nlt (a := 255) (by omega) (by decide)), if_neg (by decide), lt_v, lt_v, m64 (by omega), m64 (by omega), Nat.add_sub_cancel, Nat.add_sub_cancel, ih q f (by omega) (by omega) (by omega) (by omega), gv_s]
/-- no strip of DIMENSIONS makes it a REF -/
def dead (n : Nat) (v : Int32) : Prop := rf n v = false ∧ ∀ i : Nat, i < 256 → 64 ≤ i → v = nI i → ¬ (i % 64 = 12 ∨ (16 ≤ i % 64 ∧ i % 64 < 16 + n))
theorem dead_of {n : Nat} {v : Int32} (h : rf n v = false) : dead n v := by
  refine ⟨h, ?_⟩
  rintro i h1 h2 rfl h3
  rw [rf_nI (by omega)] at h
  unfold rfN at h
  rcases h3 with q | q
  · simp [h1, h2, q] at h
  · simp [h1, q] at h
theorem dead_s {n : Nat} {v : Int32} (h : dead n v) (h1 : ¬ v < 64) (h2 : ¬ 255 < v) : ∃ i, 64 ≤ i ∧ i < 256 ∧ v = nI i ∧ v + -64 = nI (i - 64) ∧ dead n (v + -64) := by
  have hv : ¬ v < 0 := fun q => h1 (by
    rw [Int32.lt_iff_toInt_lt] at q ⊢
    exact Int.lt_trans q (by decide))
  obtain ⟨i, hi, rfl⟩ := nI_of hv
  have a1 : 64 ≤ i := by
    rcases Nat.lt_or_ge i 64 with q | q
    · exact absurd (nI_lt (b := 64) q (by decide)) h1
    · exact q
  have a2 : i < 256 := by
    rcases Nat.lt_or_ge 255 i with q | q
    · exact absurd (nI_lt (a := 255) q hi) h2
    · omega
  have e : nI i + -64 = nI (i - 64) := by
    have := m64 (p := i / 64) (x := i % 64) (by omega)
    rw [← split64] at this
    rw [this]
    congr 1
    omega
  have h3 := h.2 i a2 a1 rfl
  refine ⟨i, a1, a2, rfl, e, ?_⟩
  rw [e]
  refine ⟨?_, ?_⟩
  · rw [rf_nI (by omega)]
    unfold rfN
    have e2 : (i - 64) % 64 = i % 64 := by omega
    rw [e2]
    have b1 : ¬ i % 64 = 12 := fun q => h3 (Or.inl q)
    have b2 : ¬ (16 ≤ i % 64 ∧ i % 64 < 16 + n) := fun q => h3 (Or.inr q)
    simp only [b1, decide_false, Bool.false_and, Bool.false_or]
    rw [← Bool.decide_and, decide_eq_false b2, Bool.and_false]
  · intro j j1 j2 ej j3
    have := (nI_eq (by omega) (by omega)).mp ej
    subst this
    rw [show (i - 64) % 64 = i % 64 by omega] at j3
    exact h3 j3
theorem e_gDead {n : Nat} {sup : Nat → Nat} {fc : Nat → Int32} {M : Mm} (hT : TOk n sup fc) (h : TRe n sup fc M) : ∀ (m f : Nat) (v w : Int32), (∀ i, i < 256 → v = nI i → i < 64 * (m + 1)) → m < f → (dead n v ∨ dead n w) → F_D_goesFor_b23 f v w M = some (0, M) := by
  have b70 : ∀ v w : Int32, (dead n v ∨ dead n w) → F_D_goesFor_b70 v w M = some (0, M) := by
    intro v w hd
    unfold F_D_goesFor_b70
    simp only [lt_v, e_isRefD hT h]
    rcases hd with q | q
    · simp [q.1]
    · simp only [q.1, Bool.false_eq_true, if_false, if_true]
      split <;> rfl
  intro m
  induction m with
  | zero =>
    intro f v w hm hf hd
    cases f with
    | zero => omega
    | succ f =>
      have e := b70 v w hd
      rw [F_D_goesFor_b23]
      by_cases c1 : v = w
      · rw [if_pos c1]
        exact e
      · rw [if_neg c1]
        by_cases c2 : w = 16
        · rw [if_pos c2]
          exact e
        · rw [if_neg c2, lt_v, inD]
          by_cases c3 : v < 64
          · rw [if_pos c3, if_pos rfl]
            exact e
          · rw [if_neg c3]
            by_cases c4 : (255 : Int32) < v
            · rw [if_pos c4, if_pos rfl]
              exact e
            · exfalso
              have hv : ¬ v < 0 := fun q => c3 (by
                rw [Int32.lt_iff_toInt_lt] at q ⊢
                exact Int.lt_trans q (by decide))
              obtain ⟨i, hi, rfl⟩ := nI_of hv
              have a2 : i < 256 := by
                rcases Nat.lt_or_ge 255 i with q | q
                · exact absurd (nI_lt (a := 255) q hi) c4
                · omega
              exact c3 (nI_lt (b := 64) (by have := hm i a2 rfl; omega) (by decide))
  | succ m ih =>
    intro f v w hm hf hd
    cases f with
    | zero => omega
    | succ f =>
      have e := b70 v w hd
      rw [F_D_goesFor_b23]
      by_cases c1 : v = w
      · rw [if_pos c1]
        exact e
      · rw [if_neg c1]
        by_cases c2 : w = 16
        · rw [if_pos c2]
          exact e
        · rw [if_neg c2, lt_v, inD]
          by_cases c3 : v < 64
          · rw [if_pos c3, if_pos rfl]
            exact e
          · rw [if_neg c3]
            by_cases c4 : (255 : Int32) < v
            · rw [if_pos c4, if_pos rfl]
              exact e
            · rw [if_neg c4, if_neg (by decide), lt_v, inD]
              by_cases c5 : w < 64
              · rw [if_pos c5, if_pos rfl]
                exact e
              · rw [if_neg c5]
                by_cases c6 : (255 : Int32) < w
                · rw [if_pos c6, if_pos rfl]
                  exact e
                · rw [if_neg c6, if_neg (by decide), lt_v, lt_v]
                  have hv : ¬ v < 0 := fun q => c3 (by
                    rw [Int32.lt_iff_toInt_lt] at q ⊢
                    exact Int.lt_trans q (by decide))
                  obtain ⟨i, hi, ei⟩ := nI_of hv
                  have a1 : 64 ≤ i := by
                    rcases Nat.lt_or_ge i 64 with q | q
                    · exact absurd (by rw [ei]; exact nI_lt (b := 64) q (by decide)) c3
                    · exact q
                  have a2 : i < 256 := by
                    rcases Nat.lt_or_ge 255 i with q | q
                    · exact absurd (by rw [ei]; exact nI_lt (a := 255) q hi) c4
                    · omega
                  have e3 : v + -64 = nI (i - 64) := by
                    have := m64 (p := i / 64) (x := i % 64) (by omega)
                    rw [← split64] at this
                    rw [ei, this]
                    congr 1
                    omega
                  refine ih f _ _ (fun j j1 j2 => ?_) (by omega) ?_
                  · rw [e3] at j2
                    have := (nI_eq (by omega) (by omega)).mp j2
                    have := hm i a2 ei
                    omega
                  · rcases hd with q | q
                    · obtain ⟨_, _, _, _, _, z⟩ := dead_s q c3 c4
                      exact Or.inl z
                    · obtain ⟨_, _, _, _, _, z⟩ := dead_s q c5 c6
                      exact Or.inr z
theorem e_goesD {n : Nat} {sup : Nat → Nat} {fc : Nat → Int32} {M : Mm} (hT : TOk n sup fc) (h : TRe n sup fc M) (a b : Int32) : F_D_goesFor a b M = some (if gs n sup fc a b then 1 else 0, M) := by
  unfold F_D_goesFor gs
  simp only [lt_v, e_isRefD hT h]
  by_cases hab : a = b
  · simp [hab]
  · rw [if_neg hab, if_neg hab]
    by_cases ha5 : a = 5
    · rw [if_pos ha5, if_pos ha5]
      cases hb : rf n b
      · rfl
      · rfl
    · rw [if_neg ha5, if_neg ha5]
      by_cases hb : rf n b = true
      · by_cases ha : rf n a = true
        · obtain ⟨i, hi, rfl, hi3, hix⟩ := rf_pos ha
          obtain ⟨j, hj, rfl, hj3, hjx⟩ := rf_pos hb
          have hij : ¬ i = j := fun q => hab (by rw [q])
          have e := e_gD23 hT h (x := i % 64) (y := j % 64) (by omega) (by omega) (i / 64) (j / 64) fuel (by omega) (by omega) (by omega) (by show i / 64 < 100000; omega)
          rw [← split64, ← split64] at e
          rw [if_pos hb, if_pos ha, nI_clamp (by omega), nI_clamp (by omega)]
          exact e
        · rw [if_pos hb, if_neg ha, e_gDead hT h 3 fuel a b (fun i h1 _ => by omega) (by decide) (Or.inl (dead_of (by simpa using ha)))]
          rfl
      · rw [if_neg hb, e_gDead hT h 3 fuel a b (fun i h1 _ => by omega) (by decide) (Or.inr (dead_of (by simpa using hb)))]
        rfl
