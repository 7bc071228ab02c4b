/-- a flag that tells p -/
def fg (v : Int32) (p : Prop) : Prop := (v = 1 ∧ p) ∨ (v = 0 ∧ ¬ p)
theorem fg.zo {v : Int32} {p : Prop} (h : fg v p) : zo v := by
  rcases h with h | h
  · exact Or.inr h.1
  · exact Or.inl h.1
theorem fg.cg {v : Int32} {p q : Prop} (h : fg v p) (e : p ↔ q) : fg v q := by
  rcases h with h | h
  · exact Or.inl ⟨h.1, e.mp h.2⟩
  · exact Or.inr ⟨h.1, fun z => h.2 (e.mpr z)⟩
theorem fg.y {p : Prop} (h : p) : fg 1 p := Or.inl ⟨rfl, h⟩
theorem fg.n {p : Prop} (h : ¬ p) : fg 0 p := Or.inr ⟨rfl, h⟩
theorem fg.z {v : Int32} {p : Prop} (h : fg v p) : v = 0 ↔ ¬ p := by
  rcases h with h | h
  · rw [h.1]
    exact ⟨fun z => absurd z (by decide), fun z => absurd h.2 z⟩
  · exact ⟨fun _ => h.2, fun _ => h.1⟩
theorem fg.z1 {v : Int32} {p : Prop} (h : fg v p) : v = 1 ↔ p := by
  rcases h with h | h
  · exact ⟨fun _ => h.2, fun _ => h.1⟩
  · rw [h.1]
    exact ⟨fun z => absurd z (by decide), fun z => absurd z h.2⟩
/-- one more step of 'is there one below j' -/
theorem fg.st {v : Int32} {p : Prop} {Q : Nat → Prop} {j : Nat} (h : fg v (p ∨ ∃ k, k < j ∧ Q k)) (hq : ¬ Q j) : fg v (p ∨ ∃ k, k < j + 1 ∧ Q k) := by
  refine h.cg ⟨?_, ?_⟩
  · rintro (z | ⟨k, h1, h2⟩)
    · exact Or.inl z
    · exact Or.inr ⟨k, by omega, h2⟩
  · rintro (z | ⟨k, h1, h2⟩)
    · exact Or.inl z
    · refine Or.inr ⟨k, ?_, h2⟩
      have : ¬ k = j := fun e => hq (e ▸ h2)
      omega
theorem fg.st1 {p : Prop} {Q : Nat → Prop} {j : Nat} (hq : Q j) : fg 1 (p ∨ ∃ k, k < j + 1 ∧ Q k) := fg.y (Or.inr ⟨j, by omega, hq⟩)
theorem fg.s0 {v : Int32} {p : Prop} {Q : Nat → Prop} (h : fg v p) : fg v (p ∨ ∃ k, k < 0 ∧ Q k) := h.cg ⟨Or.inl, fun z => z.elim id (fun ⟨k, h1, _⟩ => absurd h1 (Nat.not_lt_zero k))⟩
abbrev jnF (n : Nat) (sup : Nat → Nat) (fc : Nat → Int32) (f g : Fr) : Fr := (fun j => jn n sup fc (fl f j) (fl g j), fun j => jn n sup fc (fs f j) (fs g j), fd f, fb f &&& fb g, fun b => ft f b ||| ft g b)
abbrev ch1 (f g : Fr) : Prop := ¬ fb f &&& fb g = fb f
abbrev ch2 (f g : Fr) (b : Nat) : Prop := bq (fb f &&& fb g) b = true ∧ ¬ ft f b ||| ft g b = ft f b
abbrev ch3 (n : Nat) (sup : Nat → Nat) (fc : Nat → Int32) (f g : Fr) (j : Nat) : Prop := ¬ jn n sup fc (fl f j) (fl g j) = fl f j
abbrev ch4 (n : Nat) (sup : Nat → Nat) (fc : Nat → Int32) (f g : Fr) (j : Nat) : Prop := ¬ jn n sup fc (fs f j) (fs g j) = fs f j
def chg (n : Nat) (sup : Nat → Nat) (fc : Nat → Int32) (f g : Fr) : Prop := ((ch1 f g ∨ ∃ b, b < 48 ∧ ch2 f g b) ∨ ∃ j, j < 12 ∧ ch3 n sup fc f g j) ∨ ∃ j, j < fd f ∧ ch4 n sup fc f g j
theorem e_absSubs {i o : Nat} {f g : Fr} {M0 : Mm} (hio : ¬ o = i) (hf : Cf M0 i f) (hg : Cf M0 o g) : ∀ n j M v, 48 < j + n → j ≤ 48 → KF i M0 M → (∀ t k, ¬ t = 22 → M.1 t i k = M0.1 t i k) → M.2 19 i 3 = fb f &&& fb g → (∀ b, b < 48 → M.1 22 i b = if bq (fb f &&& fb g) b then (if b < j then ft f b ||| ft g b else ft f b) else (if b < j then 0 else if bq (fb f) b then ft f b else 0)) → fg v (ch1 f g ∨ ∃ b, b < j ∧ ch2 f g b) → ∃ v' M', F_R_absorbSubs_b37 n i o (fb f) v (nI j) M = some (v', M') ∧ fg v' (ch1 f g ∨ ∃ b, b < 48 ∧ ch2 f g b) ∧ Cf M' i (fl f, fs f, fd f, fb f &&& fb g, fun b => ft f b ||| ft g b) ∧ KF i M0 M' := by
  obtain ⟨h1, h2, h3, h4, h5, h6, h7⟩ := hf
  obtain ⟨g1, g2, g3, g4, g5, g6, g7⟩ := hg
  have h63 : bq (fb f) 63 = false := h6 63 (by omega)
  have n6 : ∀ b, bq (fb f) b = false → bq (fb f &&& fb g) b = false := fun b q => by rw [bq_and, q]; rfl
  have fin : ∀ M, KF i M0 M → (∀ t k, ¬ t = 22 → M.1 t i k = M0.1 t i k) → M.2 19 i 3 = fb f &&& fb g → (∀ b, b < 48 → M.1 22 i b = if bq (fb f &&& fb g) b then ft f b ||| ft g b else 0) → Cf M i (fl f, fs f, fd f, fb f &&& fb g, fun b => ft f b ||| ft g b) := by
    intro M k1 k2 k3 k4
    refine ⟨h1, ?_, fun a ha => ?_, fun a ha => ?_, k3, fun b hb => n6 b (h6 b hb), k4⟩
    · rw [k2 19 2 (by omega)]
      exact h2
    · rw [k2 20 a (by omega)]
      exact h3 a ha
    · rw [k2 21 a (by omega)]
      exact h4 a ha
  intro n
  induction n with
  | zero =>
    intro j M v q1 q2
    omega
  | succ n ih =>
    intro j M v q1 q2 k1 k2 k3 k4 kv
    rw [F_R_absorbSubs_b37]
    by_cases c : j = 48
    · subst c
      rw [if_pos (show (48 : Int32) ≤ nI 48 by decide), bnz_ok kv.zo]
      refine ⟨v, M, rfl, kv, fin M k1 k2 k3 (fun b hb => ?_), k1⟩
      rw [k4 b hb, if_pos hb, if_pos hb]
    · rw [if_neg (show ¬ (48 : Int32) ≤ nI j from nI_ge (b := 48) (by omega) (by decide))]
      by_cases c2 : ∀ k, j ≤ k → k < 64 → bq (fb f) k = false
      · rw [if_pos ((shr0 (by omega) h63).mpr c2), bnz_ok kv.zo]
        refine ⟨v, M, rfl, kv.cg ⟨?_, ?_⟩, fin M k1 k2 k3 (fun b hb => ?_), k1⟩
        · rintro (z | ⟨k, z1, z2⟩)
          · exact Or.inl z
          · exact Or.inr ⟨k, by omega, z2⟩
        · rintro (z | ⟨k, z1, z2⟩)
          · exact Or.inl z
          · refine Or.inr ⟨k, ?_, z2⟩
            by_cases w : k < j
            · exact w
            · have := n6 k (c2 k (by omega) (by omega))
              have z3 := z2.1
              rw [this] at z3
              cases z3
        · rw [k4 b hb]
          by_cases q : b < j
          · rw [if_pos q, if_pos q]
          · have w := c2 b (by omega) (by omega)
            rw [n6 b w, w]
            simp
      · rw [if_neg (fun z => c2 ((shr0 (by omega) h63).mp z)), lt_v]
        have e1 : P_R_isIn i (nI j) M = if bq (fb f &&& fb g) j then 1 else 0 := by
          unfold P_R_isIn
          rw [k3]
          have e := bq_t0 (x := fb f &&& fb g) (b := j) (by omega)
          cases q : bq (fb f &&& fb g) j
          · rw [if_pos (e.mpr q)]
            rfl
          · rw [if_neg (fun z => by rw [e.mp z] at q; cases q)]
            rfl
        have go : ∀ v' w, fg v' (ch1 f g ∨ ∃ b, b < j + 1 ∧ ch2 f g b) → w = (if bq (fb f &&& fb g) j then ft f j ||| ft g j else 0) → ∃ v2 M', F_R_absorbSubs_b98 (F_R_absorbSubs_b37 n) i o (fb f) v' (nI j) w M = some (v2, M') ∧ fg v2 (ch1 f g ∨ ∃ b, b < 48 ∧ ch2 f g b) ∧ Cf M' i (fl f, fs f, fd f, fb f &&& fb g, fun b => ft f b ||| ft g b) ∧ KF i M0 M' := by
          intro v' w hv hw
          rw [F_R_absorbSubs_b98, bnd_nI (by omega) (by decide), lt_v, nI_clamp (by omega), lt_v, nI_1]
          refine ih (j + 1) _ v' (by omega) (by omega) (k1.tr (KF.sI (by omega))) (fun t k ht => ?_) k3 (fun b hb => ?_) hv
          · rw [sI1, if_neg (fun z => ht z.1)]
            exact k2 t k ht
          · rw [sI1]
            by_cases q2 : b = j
            · subst q2
              rw [if_pos ⟨rfl, rfl, rfl⟩, hw]
              simp
            · rw [if_neg (fun z => q2 z.2.2), k4 b hb]
              by_cases q3 : b < j
              · rw [if_pos q3, if_pos q3, if_pos (show b < j + 1 by omega), if_pos (show b < j + 1 by omega)]
              · rw [if_neg q3, if_neg q3, if_neg (show ¬ b < j + 1 by omega), if_neg (show ¬ b < j + 1 by omega)]
        cases q : bq (fb f &&& fb g) j
        · have e2 : P_R_isIn i (nI j) M = 0 := by rw [e1, q]; rfl
          have nq : ¬ ch2 f g j := fun z => by
            have z1 := z.1
            rw [q] at z1
            cases z1
          have er : M.1 22 i j = if bq (fb f) j then ft f j else 0 := by
            rw [k4 j (by omega), q]
            simp
          rw [e2, if_pos rfl, F_R_absorbSubs_b81, bnd_nI (by omega) (by decide), nI_clamp (by omega), er]
          rw [q] at go
          cases q4 : bq (fb f) j
          · rw [if_pos (by simp)]
            exact go v 0 (kv.st nq) rfl
          · rw [show (if true = true then ft f j else 0) = ft f j from rfl]
            have c1 : ch1 f g := fun z => by
              rw [z, q4] at q
              cases q
            by_cases q5 : 0 = ft f j
            · rw [if_pos q5]
              exact go v 0 (kv.st nq) rfl
            · rw [if_neg q5]
              exact go 1 0 (fg.y (Or.inl c1)) rfl
        · have e2 : P_R_isIn i (nI j) M = 1 := by rw [e1, q]; rfl
          have qg : bq (fb g) j = true := by
            rw [bq_and] at q
            simp at q
            exact q.2
          have eg : M.1 22 o j = ft g j := by
            rw [k1.1 22 o j (fun z => hio z.2.2), g7 j (by omega), qg, if_pos rfl]
          have ef : M.1 22 i j = ft f j := by
            rw [k4 j (by omega), q, if_pos rfl, if_neg (Nat.lt_irrefl j)]
          rw [e2, if_neg (by decide), bnd_nI (by omega) (by decide), bnd_nI (by omega) (by decide), F_R_absorbSubs_b81, bnd_nI (by omega) (by decide), nI_clamp (by omega), eg, ef]
          rw [q] at go
          by_cases q5 : ft f j ||| ft g j = ft f j
          · rw [if_pos q5]
            exact go v _ (kv.st (fun z => z.2 q5)) rfl
          · rw [if_neg q5]
            exact go 1 _ (fg.st1 ⟨q, q5⟩) rfl
theorem e_abs68 {n0 : Nat} {sup : Nat → Nat} {fc : Nat → Int32} {i o : Nat} {f g : Fr} {M0 : Mm} {p : Prop} {h : Fr} (hT : TOk n0 sup fc) (hC : TCl n0 sup fc M0) (hio : ¬ o = i) (hg : Cf M0 o g) (hd : fd f = fd g) (hfd : fd f ≤ 12) (e2 : fd h = fd f) (e3 : h.2.2.2 = (fb f &&& fb g, fun b => ft f b ||| ft g b)) (e1 : fs h = fs f) (e0 : fl h = fun j => jn n0 sup fc (fl f j) (fl g j)) : ∀ n j M v, fd f < j + n → j ≤ fd f → KF i M0 M → Cf M i (fl h, fun k => if k < j then jn n0 sup fc (fs f k) (fs g k) else fs f k, fd f, fb f &&& fb g, fun b => ft f b ||| ft g b) → fg v (p ∨ ∃ k, k < j ∧ ch4 n0 sup fc f g k) → ∃ v' M', F_R_absorb_b68 n i o v (nI j) M = some (v', M') ∧ fg v' (p ∨ ∃ k, k < fd f ∧ ch4 n0 sup fc f g k) ∧ Cf M' i (jnF n0 sup fc f g) ∧ KF i M0 M' := by
  intro n
  induction n with
  | zero =>
    intro j M v q1 q2
    omega
  | succ n ih =>
    intro j M v q1 q2 k1 k2 kv
    have k2' := k2
    obtain ⟨c1, c2, c3, c4, c5, c6, c7⟩ := k2
    have c2' : M.1 19 i 2 = nI (fd f) := c2
    rw [F_R_absorb_b68, c2']
    by_cases c : j = fd f
    · rw [c] at kv k2'
      rw [c, if_pos (nI_le (Nat.le_refl _) (by omega)), bnz_ok kv.zo]
      refine ⟨v, M, rfl, kv, ?_, k1⟩
      refine ⟨hfd, c2, fun a ha => ?_, fun a ha => ?_, c5, c6, c7⟩
      · have := c3 a ha
        rw [this]
        show fl h a = _
        rw [e0]
      · have ha' : a < fd f := ha
        have : M.1 21 i a = if a < fd f then jn n0 sup fc (fs f a) (fs g a) else fs f a := k2'.2.2.2.1 a ha'
        rw [this, if_pos ha']
    · have hj : j < fd f := by omega
      have r1 : M.1 21 i j = fs f j := by
        have : M.1 21 i j = if j < j then jn n0 sup fc (fs f j) (fs g j) else fs f j := c4 j hj
        rw [this, if_neg (Nat.lt_irrefl j)]
      have r2 : M.1 21 o j = fs g j := by
        rw [k1.1 21 o j (fun z => hio z.2.2)]
        exact hg.2.2.2.1 j (by omega)
      have hC' : TCl n0 sup fc M := TCl_cg hC (fun t a k h1 h2 => k1.1 t a k (by omega))
      rw [if_neg (nI_ge hj (by omega)), bnd_nI (by omega) (by decide), lt_v, bnd_nI (by omega) (by decide), nI_clamp (by omega), r1, r2, e_joinedC hT hC', bd_some, bnd_nI (by omega) (by decide), lt_v, bnd_nI (by omega) (by decide)]
      have r3 : (sI M 21 i j (jn n0 sup fc (fs f j) (fs g j))).1 21 i j = jn n0 sup fc (fs f j) (fs g j) := by simp [sI1]
      rw [r3]
      have go : ∀ v', fg v' (p ∨ ∃ k, k < j + 1 ∧ ch4 n0 sup fc f g k) → ∃ v2 M', F_R_absorb_b120 (F_R_absorb_b68 n) i o v' (nI j) (sI M 21 i j (jn n0 sup fc (fs f j) (fs g j))) = some (v2, M') ∧ fg v2 (p ∨ ∃ k, k < fd f ∧ ch4 n0 sup fc f g k) ∧ Cf M' i (jnF n0 sup fc f g) ∧ KF i M0 M' := by
        intro v' hv
        rw [F_R_absorb_b120, lt_v, nI_1]
        refine ih (j + 1) _ v' (by omega) (by omega) (k1.tr (KF.sI (by omega))) ?_ hv
        refine ⟨c1, ?_, fun a ha => ?_, fun a ha => ?_, c5, c6, fun b hb => ?_⟩
        · rw [sI1, if_neg (by omega)]
          exact c2
        · rw [sI1, if_neg (by omega)]
          exact c3 a ha
        · rw [sI1]
          show _ = if a < j + 1 then _ else _
          by_cases w : a = j
          · subst w
            rw [if_pos ⟨rfl, rfl, rfl⟩, if_pos (by omega)]
          · rw [if_neg (fun z => w z.2.2), c4 a ha]
            show (if a < j then _ else _) = _
            by_cases w2 : a < j
            · rw [if_pos w2, if_pos (show a < j + 1 by omega)]
            · rw [if_neg w2, if_neg (show ¬ a < j + 1 by omega)]
        · rw [sI1, if_neg (by omega)]
          exact c7 b hb
      by_cases w : jn n0 sup fc (fs f j) (fs g j) = fs f j
      · rw [if_pos w]
        exact go v (kv.st (fun z => z w))
      · rw [if_neg w]
        exact go 1 (fg.st1 w)
theorem e_abs9 {n0 : Nat} {sup : Nat → Nat} {fc : Nat → Int32} {i o : Nat} {f g : Fr} {M0 : Mm} {p : Prop} (hT : TOk n0 sup fc) (hC : TCl n0 sup fc M0) (hio : ¬ o = i) (hg : Cf M0 o g) (hd : fd f = fd g) (hfd : fd f ≤ 12) : ∀ n j M v, 12 < j + n → j ≤ 12 → KF i M0 M → Cf M i (fun k => if k < j then jn n0 sup fc (fl f k) (fl g k) else fl f k, fs f, fd f, fb f &&& fb g, fun b => ft f b ||| ft g b) → fg v (p ∨ ∃ k, k < j ∧ ch3 n0 sup fc f g k) → ∃ v' M', F_R_absorb_b9 n i o v (nI j) M = some (v', M') ∧ fg v' ((p ∨ ∃ k, k < 12 ∧ ch3 n0 sup fc f g k) ∨ ∃ k, k < fd f ∧ ch4 n0 sup fc f g k) ∧ Cf M' i (jnF n0 sup fc f g) ∧ KF i M0 M' := by
  intro n
  induction n with
  | zero =>
    intro j M v q1 q2
    omega
  | succ n ih =>
    intro j M v q1 q2 k1 k2 kv
    obtain ⟨c1, c2, c3, c4, c5, c6, c7⟩ := k2
    rw [F_R_absorb_b9]
    by_cases c : j = 12
    · subst c
      rw [if_pos (show (12 : Int32) ≤ nI 12 by decide)]
      refine e_abs68 (h := (fun j => jn n0 sup fc (fl f j) (fl g j), fs f, fd f, fb f &&& fb g, fun b => ft f b ||| ft g b)) hT hC hio hg hd hfd rfl rfl rfl rfl fuel 0 M v (by show fd f < 0 + 100000; omega) (by omega) k1 ?_ kv.s0
      refine ⟨c1, c2, fun a ha => ?_, fun a ha => ?_, c5, c6, c7⟩
      · have : M.1 20 i a = if a < 12 then jn n0 sup fc (fl f a) (fl g a) else fl f a := c3 a ha
        rw [this, if_pos ha]
      · have : M.1 21 i a = fs f a := c4 a ha
        rw [this]
        show _ = if a < 0 then jn n0 sup fc (fs f a) (fs g a) else fs f a
        rw [if_neg (Nat.not_lt_zero a)]
    · have hj : j < 12 := by omega
      have r1 : M.1 20 i j = fl f j := by
        have : M.1 20 i j = if j < j then jn n0 sup fc (fl f j) (fl g j) else fl f j := c3 j hj
        rw [this, if_neg (Nat.lt_irrefl j)]
      have r2 : M.1 20 o j = fl g j := by
        rw [k1.1 20 o j (fun z => hio z.2.2)]
        exact hg.2.2.1 j (by omega)
      have hC' : TCl n0 sup fc M := TCl_cg hC (fun t a k h1 h2 => k1.1 t a k (by omega))
      rw [if_neg (show ¬ (12 : Int32) ≤ nI j from nI_ge (b := 12) hj (by decide)), bnd_nI (by omega) (by decide), lt_v, bnd_nI (by omega) (by decide), nI_clamp (by omega), r1, r2, e_joinedC hT hC', bd_some, bnd_nI (by omega) (by decide), lt_v, bnd_nI (by omega) (by decide)]
      have r3 : (sI M 20 i j (jn n0 sup fc (fl f j) (fl g j))).1 20 i j = jn n0 sup fc (fl f j) (fl g j) := by simp [sI1]
      rw [r3]
      have go : ∀ v', fg v' (p ∨ ∃ k, k < j + 1 ∧ ch3 n0 sup fc f g k) → ∃ v2 M', F_R_absorb_b59 (F_R_absorb_b9 n) i o v' (nI j) (sI M 20 i j (jn n0 sup fc (fl f j) (fl g j))) = some (v2, M') ∧ fg v2 ((p ∨ ∃ k, k < 12 ∧ ch3 n0 sup fc f g k) ∨ ∃ k, k < fd f ∧ ch4 n0 sup fc f g k) ∧ Cf M' i (jnF n0 sup fc f g) ∧ KF i M0 M' := by
        intro v' hv
        rw [F_R_absorb_b59, lt_v, nI_1]
        refine ih (j + 1) _ v' (by omega) (by omega) (k1.tr (KF.sI (by omega))) ?_ hv
        refine ⟨c1, ?_, fun a ha => ?_, fun a ha => ?_, c5, c6, fun b hb => ?_⟩
        · rw [sI1, if_neg (by omega)]
          exact c2
        · rw [sI1]
          show _ = if a < j + 1 then _ else _
          by_cases w : a = j
          · subst w
            rw [if_pos ⟨rfl, rfl, rfl⟩, if_pos (by omega)]
          · rw [if_neg (fun z => w z.2.2), c3 a ha]
            show (if a < j then _ else _) = _
            by_cases w2 : a < j
            · rw [if_pos w2, if_pos (show a < j + 1 by omega)]
            · rw [if_neg w2, if_neg (show ¬ a < j + 1 by omega)]
        · rw [sI1, if_neg (by omega)]
          exact c4 a ha
        · rw [sI1, if_neg (by omega)]
          exact c7 b hb
      by_cases w : jn n0 sup fc (fl f j) (fl g j) = fl f j
      · rw [if_pos w]
        exact go v (kv.st (fun z => z w))
      · rw [if_neg w]
        exact go 1 (fg.st1 w)
theorem e_absorb {n0 : Nat} {sup : Nat → Nat} {fc : Nat → Int32} {i o : Nat} {f g : Fr} {M : Mm} (hT : TOk n0 sup fc) (hC : TCl n0 sup fc M) (hio : ¬ o = i) (hf : Cf M i f) (hg : Cf M o g) (hd : fd f = fd g) : ∃ v M', F_R_absorb i o M = some (v, M') ∧ fg v (chg n0 sup fc f g) ∧ Cf M' i (jnF n0 sup fc f g) ∧ KF i M M' := by
  have a1 : ∃ v M', F_R_absorbSubs i o M = some (v, M') ∧ fg v (ch1 f g ∨ ∃ b, b < 48 ∧ ch2 f g b) ∧ Cf M' i (fl f, fs f, fd f, fb f &&& fb g, fun b => ft f b ||| ft g b) ∧ KF i M M' := by
    have hf' := hf
    obtain ⟨h1, h2, h3, h4, h5, h6, h7⟩ := hf
    unfold F_R_absorbSubs F_R_absorbSubs_b32
    rw [lt_v, lt_v, h5, hg.2.2.2.2.1]
    have r : (sL M 19 i 3 (fb f &&& fb g)).2 19 i 3 = fb f &&& fb g := by simp [sL2]
    rw [r]
    have go : ∀ v, fg v (ch1 f g) → ∃ v' M', F_R_absorbSubs_b37 fuel i o (fb f) v 0 (sL M 19 i 3 (fb f &&& fb g)) = some (v', M') ∧ fg v' (ch1 f g ∨ ∃ b, b < 48 ∧ ch2 f g b) ∧ Cf M' i (fl f, fs f, fd f, fb f &&& fb g, fun b => ft f b ||| ft g b) ∧ KF i M M' := by
      intro v hv
      refine e_absSubs hio hf' hg fuel 0 _ v (by show 48 < 0 + 100000; omega) (by omega) KF.sL (fun _ _ _ => rfl) r (fun b hb => ?_) hv.s0
      rw [sL1, h7 b hb]
      simp only [Nat.not_lt_zero, if_false, bq_and]
      cases bq (fb f) b <;> cases bq (fb g) b <;> simp
    by_cases c : fb f &&& fb g = fb f
    · rw [if_pos (cmp0.mpr c)]
      exact go 0 (fg.n (fun z => z c))
    · rw [if_neg (fun z => c (cmp0.mp z))]
      exact go 1 (fg.y c)
  obtain ⟨v, M1, b1, b2, b3, b4⟩ := a1
  unfold F_R_absorb
  rw [b1, bd_some]
  have hC' : TCl n0 sup fc M1 := TCl_cg hC (fun t a k h1 h2 => b4.1 t a k (by omega))
  obtain ⟨v2, M2, d1, d2, d3, d4⟩ := e_abs9 (f := f) (g := g) (i := i) (M0 := M1) hT hC' hio (hg.kp b4 hio) hd hf.1 fuel 0 M1 v (by show 12 < 0 + 100000; omega) (by omega) KF.rf (by
    obtain ⟨c1, c2, c3, c4, c5, c6, c7⟩ := b3
    refine ⟨c1, c2, fun a ha => ?_, c4, c5, c6, c7⟩
    show _ = if a < 0 then jn n0 sup fc (fl f a) (fl g a) else fl f a
    rw [if_neg (Nat.not_lt_zero a)]
    exact c3 a ha) b2.s0
  exact ⟨v2, M2, d1, d2, d3, b4.tr d4⟩
