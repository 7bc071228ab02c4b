/-! What the going keeps, whatever it finds: types of STATES, room, CHANGED only where there is a STATE. -/
def AOk (P : MT) (A : AS) : Prop := ∀ k, k < 48 → (ah A k = true → TK (af A k) ∧ wt (af A k) ≤ pS P) ∧ (ac A k = true → ah A k = true) ∧ (an A k = 0 ∨ ah A k = true)
theorem wid_nI {j : Nat} (h : j < 2 ^ 31) (h3 : ¬ j = 3) (h4 : ¬ j = 4) : wid (nI j) = 1 := by
  unfold wid
  rw [if_neg]
  rintro (q | q)
  · exact neN (k := 3) rfl h (by decide) h3 q
  · exact neN (k := 4) rfl h (by decide) h4 q
theorem jv_b {n p x q y : Nat} {sup : Nat → Nat} {fc : Nat → Int32} (hn : n ≤ 10) (hp : p ≤ 3) (hq : q ≤ 3) (hx : x < 16 + n) : ∃ j, 16 ≤ j ∧ j < 256 ∧ jv sup fc p x q y = nI j := by
  unfold jv
  have hl := lcd_le (fun d => bl sup (x - 16) d && bl sup (y - 16) d) (x - 16)
  have hl2 : lca sup (x - 16) (y - 16) ≤ x - 16 := hl
  split
  · split
    · exact ⟨_, by omega, by omega, rfl⟩
    · exact ⟨_, by omega, by omega, rfl⟩
  · split
    · exact ⟨_, by omega, by omega, rfl⟩
    · exact ⟨_, by omega, by omega, rfl⟩
theorem rf_wid {n : Nat} {v : Int32} (h : rf n v = true) : wid v = 1 := by
  obtain ⟨i, h1, rfl, h3, h4⟩ := rf_pos h
  exact wid_nI (by omega) (by omega) (by omega)
theorem jn_tw {n : Nat} {sup : Nat → Nat} {fc : Nat → Int32} {a b : Int32} (hT : TOk n sup fc) (ha : tok a) (hb : tok b) : tok (jn n sup fc a b) ∧ wid (jn n sup fc a b) ≤ wid a := by
  have wa := wid_1 a
  unfold jn
  by_cases c1 : a = b
  · rw [if_pos c1]
    exact ⟨ha, Nat.le_refl _⟩
  rw [if_neg c1]
  by_cases c2 : a = 5 ∧ rf n b = true
  · rw [if_pos c2, rf_wid c2.2]
    exact ⟨hb, wa.1⟩
  rw [if_neg c2]
  by_cases c3 : b = 5 ∧ rf n a = true
  · rw [if_pos c3]
    exact ⟨ha, Nat.le_refl _⟩
  rw [if_neg c3]
  by_cases c4 : rf n a = true ∧ rf n b = true
  · rw [if_pos c4]
    obtain ⟨i, i1, rfl, i3, i4⟩ := rf_pos c4.1
    obtain ⟨k, k1, rfl, k3, k4⟩ := rf_pos c4.2
    rw [nI_clamp (by omega), nI_clamp (by omega)]
    obtain ⟨j, j1, j2, j3⟩ := jv_b (n := n) (p := i / 64) (x := i % 64) (q := k / 64) (y := k % 64) (sup := sup) (fc := fc) hT.2.1 i3 k3 (by omega)
    rw [j3, wid_nI (j := j) (by omega) (by omega) (by omega)]
    exact ⟨tokN j2, wa.1⟩
  · rw [if_neg c4]
    exact ⟨tokN (j := 0) (by decide), wa.1⟩
theorem wsum_lew {f g : Nat → Int32} : ∀ n, (∀ j, j < n → wid (g j) ≤ wid (f j)) → wsum g n ≤ wsum f n := by
  intro n
  induction n with
  | zero => exact fun _ => Nat.le_refl _
  | succ n ih =>
    intro h
    have h1 := ih (fun j hj => h j (by omega))
    have h2 := h n (by omega)
    show wsum g n + wid (g n) ≤ wsum f n + wid (f n)
    omega
theorem TK_jnF {n : Nat} {sup : Nat → Nat} {fc : Nat → Int32} {h f : Fr} (hT : TOk n sup fc) (th : TK h) (tf : TK f) (hd : fd h = fd f) : TK (jnF n sup fc h f) ∧ wt (jnF n sup fc h f) ≤ wt h := by
  refine ⟨⟨fun j hj => (jn_tw hT (th.1 j hj) (tf.1 j hj)).1, fun j hj => ?_⟩, ?_⟩
  · have hj' : j < fd h := hj
    exact (jn_tw hT (th.2 j hj') (tf.2 j (by omega))).1
  · show wsum (fun j => jn n sup fc (fs h j) (fs f j)) (fd h) ≤ wsum (fs h) (fd h)
    exact wsum_lew _ (fun j hj => (jn_tw hT (th.2 j hj) (tf.2 j (by omega))).2)
theorem ah_mt {n : Nat} {sup : Nat → Nat} {fc : Nat → Int32} {A : AS} {g k : Nat} {f : Fr} (h : ah A k = true) : ah (mtA n sup fc A g f) k = true := by
  unfold mtA
  split
  · split
    · exact h
    · exact h
  · show sg (ah A) g true k = true
    by_cases c : k = g
    · rw [c, sg_s]
    · rw [sg_n c]
      exact h
theorem ah_mtg {n : Nat} {sup : Nat → Nat} {fc : Nat → Int32} {A : AS} {g : Nat} {f : Fr} : ah (mtA n sup fc A g f) g = true := by
  by_cases c : ah A g = true
  · exact ah_mt c
  · unfold mtA
    rw [if_neg c]
    exact sg_s
theorem ah_go {n : Nat} {sup : Nat → Nat} {fc : Nat → Int32} {P : MT} {A : AS} {k0 g k : Nat} {f : Fr} (h : ah A k = true) : ah (goA n sup fc P A k0 g f) k = true := by
  unfold goA
  split
  · split
    · exact h
    · exact ah_mt h
  · exact h
theorem AOk_mt {n : Nat} {sup : Nat → Nat} {fc : Nat → Int32} {P : MT} {A : AS} {g : Nat} {f : Fr} (hT : TOk n sup fc) (h : AOk P A) (tk : TK f) (hw : wt f ≤ pS P) : AOk P (mtA n sup fc A g f) := by
  unfold mtA
  by_cases c : ah A g = true
  · rw [if_pos c]
    by_cases c2 : fd (af A g) = fd f
    · rw [if_pos c2]
      intro k hk
      obtain ⟨h1, h2, h3⟩ := h k hk
      refine ⟨fun q => ?_, fun q => ?_, h3⟩
      · show TK (sg (af A) g _ k) ∧ wt (sg (af A) g _ k) ≤ pS P
        by_cases z : k = g
        · subst z
          rw [sg_s]
          obtain ⟨t1, t2⟩ := h1 c
          obtain ⟨j1, j2⟩ := TK_jnF (n := n) (sup := sup) (fc := fc) hT t1 tk c2
          exact ⟨j1, Nat.le_trans j2 t2⟩
        · rw [sg_n z]
          exact h1 q
      · show ah A k = true
        by_cases z : k = g
        · rw [z]
          exact c
        · refine h2 ?_
          have q' : (if pB (chg n sup fc (af A g) f) = true then sg (ac A) g true else ac A) k = true := q
          split at q'
          · rw [sg_n z] at q'
            exact q'
          · exact q'
    · rw [if_neg c2]
      exact h
  · rw [if_neg c]
    intro k hk
    obtain ⟨h1, h2, h3⟩ := h k hk
    show (sg (ah A) g true k = true → TK (sg (af A) g f k) ∧ wt (sg (af A) g f k) ≤ pS P) ∧ (sg (ac A) g true k = true → sg (ah A) g true k = true) ∧ (an A k = 0 ∨ sg (ah A) g true k = true)
    by_cases z : k = g
    · subst z
      rw [sg_s, sg_s, sg_s]
      exact ⟨fun _ => ⟨tk, hw⟩, fun _ => rfl, Or.inr rfl⟩
    · rw [sg_n z, sg_n z, sg_n z]
      exact ⟨h1, h2, h3⟩
theorem AOk_go {n : Nat} {sup : Nat → Nat} {fc : Nat → Int32} {P : MT} {A : AS} {k g : Nat} {f : Fr} (hT : TOk n sup fc) (h : AOk P A) (tk : TK f) (hw : wt f ≤ pS P) : AOk P (goA n sup fc P A k g f) := by
  unfold goA
  split
  · split
    · exact h
    · exact AOk_mt hT h tk hw
  · exact h
theorem mtE_9 (A : AS) (g : Nat) (f : Fr) : mtE A g f ≤ 9 := by
  rcases mtE_2 A g f with h | h <;> omega
theorem goE_9 {P : MT} {A : AS} {k g : Nat} {f : Fr} : goE P A k g f ≤ 9 := by
  unfold goE
  have := mtE_9 A g f
  split
  · split <;> omega
  · omega
theorem nI9 {e : Nat} (h : e ≤ 9) : nI e = 0 ↔ e = 0 := nI_eqz (by omega)
theorem AOk_c {P : MT} {A : AS} {k : Nat} {b : Bool} (h : AOk P A) (hb : b = true → ah A k = true) : AOk P (ah A, sg (ac A) k b, an A, af A) := by
  intro j hj
  obtain ⟨h1, h2, h3⟩ := h j hj
  refine ⟨h1, fun q => ?_, h3⟩
  have q' : sg (ac A) k b j = true := q
  show ah A j = true
  by_cases z : j = k
  · rw [z, sg_s] at q'
    rw [z]
    exact hb q'
  · rw [sg_n z] at q'
    exact h2 q'
theorem AOk_n {P : MT} {A : AS} {k : Nat} {x : Int64} (h : AOk P A) (hb : ah A k = true) : AOk P (ah A, ac A, sg (an A) k x, af A) := by
  intro j hj
  obtain ⟨h1, h2, h3⟩ := h j hj
  refine ⟨h1, h2, ?_⟩
  show sg (an A) k x j = 0 ∨ ah A j = true
  by_cases z : j = k
  · rw [z]
    exact Or.inr hb
  · rw [sg_n z]
    exact h3
/-- what THE METHOD is when its FORM is right -/
def GP (n : Nat) (sup : Nat → Nat) (fc : Nat → Int32) (P : MT) : Prop := TOk n sup fc ∧ MOk P ∧ SBk P ∧ (∀ k, k < pm P → ∃ o, o ≤ 30 ∧ P.2 0 k = nI o ∧ FO P o (P.2 1 k) (P.2 2 k)) ∧ (∀ h, h < ph P → ∃ g c, g < pm P ∧ c < 10 ∧ P.2 5 h = nI g ∧ P.2 6 h = nI c) ∧ (argL P (pg P)).1 ≤ pL P ∧ 0 < pm P ∧ (∃ M, TRe n sup fc M ∧ DMe P M) ∧ ∃ M, TCl n sup fc M ∧ CMe P M
theorem TK_ctc {f : Fr} {c : Nat} (h : TK f) (hc : c < 10) : TK (ctc f ((16 : Int32) + nI c)) ∧ wt (ctc f ((16 : Int32) + nI c)) = 1 := by
  rw [show (16 : Int32) = nI 16 from rfl, nI_add]
  refine ⟨⟨h.1, fun j _ => tokN (by omega)⟩, ?_⟩
  show 0 + wid (nI (16 + c)) = 1
  rw [wid_nI (by omega) (by omega) (by omega)]
theorem TK_cmb {h t : Fr} {b : Nat} (hh : TK h) (ht : TK t) : TK (cmb h t b) ∧ wt (cmb h t b) ≤ wt h := by
  have r : ∀ v : Int32, tok v → tok (if v = 2000 + nI b then 0 else v) := fun v hv => by
    split
    · exact tokN (j := 0) (by decide)
    · exact hv
  refine ⟨⟨fun j hj => r _ ?_, fun j hj => r _ (hh.2 j hj)⟩, ?_⟩
  · show tok (if bt (ft h b) j then fl h j else fl t j)
    split
    · exact hh.1 j hj
    · exact ht.1 j hj
  · show wsum (fun j => if fs h j = 2000 + nI b then 0 else fs h j) (fd h) ≤ wsum (fs h) (fd h)
    refine wsum_lew _ (fun j _ => ?_)
    have := wid_1 (fs h j)
    show wid (if fs h j = 2000 + nI b then 0 else fs h j) ≤ wid (fs h j)
    split
    · rw [show wid 0 = 1 from wid_nI (j := 0) (by decide) (by decide) (by decide)]
      exact this.1
    · exact Nat.le_refl _
theorem argL_tok {P : MT} (hO : MOk P) : ∀ k, k ≤ pg P → ∀ j, tok ((argL P k).2 j) := by
  intro k
  induction k with
  | zero => exact fun _ j => tokN (j := 0) (by decide)
  | succ k ih =>
    intro hk j
    have h7 := hO.2.2.2.2.2.2.1 k (by omega)
    obtain ⟨i, i1, i2, i3⟩ := h7
    have := ih (by omega) j
    show tok (upd (argL P k).2 (argL P k).1 (P.2 7 k) j)
    by_cases q : j = (argL P k).1
    · rw [q, pk_us, i3]
      exact tokN i2
    · rw [pk_un q]
      exact this
theorem TK_st0 {P : MT} (hO : MOk P) : TK (st0 P) ∧ wt (st0 P) = 0 := ⟨⟨fun j _ => argL_tok hO (pg P) (Nat.le_refl _) j, fun j hj => absurd hj (Nat.not_lt_zero j)⟩, rfl⟩
