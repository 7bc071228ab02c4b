theorem e_b90 {n p q x y : Nat} {sup : Nat → Nat} {fc : Nat → Int32} {M : Mm} (hT : TOk n sup fc) (h : TRe n sup fc M) (hp : p ≤ 3) (hq : q ≤ 3) (hx : (x = 12 ∧ 1 ≤ p) ∨ (16 ≤ x ∧ x < 16 + n)) (hy : (y = 12 ∧ 1 ≤ q) ∨ (16 ≤ y ∧ y < 16 + n)) : F_D_joined_b90 (nI p) (nI q) (nI x) (nI y) (nI (min p q)) M = some (jv sup fc p x q y, M) := by
  have hn := hT.2.1
  have hs := hT.2.2.1
  have hx64 : x < 64 := by omega
  have hy64 : y < 64 := by omega
  have hm : ∀ k, (64 : Int32) * nI k + 16 = nI (64 * k + 16) := fun k => by
    rw [show (16 : Int32) = nI 16 from rfl, nI64]
  have b190 : ¬ (p = q ∧ x ≠ 12 ∧ y ≠ 12) → F_D_joined_b190 (nI p) (nI q) (nI x) (nI y) (nI (min p q)) M = some (jv sup fc p x q y, M) := by
    intro hne
    unfold F_D_joined_b190 F_D_joined_b203 F_D_joined_b217 F_D_joined_b220 jv
    rw [if_neg hne]
    simp only [lt_v]
    have m1 : ∀ k, 1 ≤ k → nI k + -1 = nI (k - 1) := fun k hk => by
      have := pk_m1 (k - 1)
      rw [show k - 1 + 1 = k by omega] at this
      exact this
    by_cases A : x = 12 ∧ p ≤ q
    · have e1 : min p q = p := Nat.min_eq_left A.2
      have c1 : nI x = 12 := eqN (k := 12) rfl A.1
      rw [if_pos c1, e1, if_pos rfl, m1 p (by omega), hm, if_pos (Or.inl A)]
    · have c1 : ¬ (nI x = 12 ∧ nI p = nI (min p q)) := fun z => A ⟨by
          have := (nI_eq (a := x) (b := 12) (by omega) (by decide)).mp z.1
          exact this, by
          have := (nI_eq (a := p) (b := min p q) (by omega) (by omega)).mp z.2
          omega⟩
      have e2 : (if nI x = 12 then if nI p = nI (min p q) then some (64 * (nI (min p q) + -1) + 16, M) else if nI y = 12 then if nI q = nI (min p q) then some (64 * (nI (min p q) + -1) + 16, M) else some (64 * nI (min p q) + 16, M) else some (64 * nI (min p q) + 16, M) else if nI y = 12 then if nI q = nI (min p q) then some (64 * (nI (min p q) + -1) + 16, M) else some (64 * nI (min p q) + 16, M) else some (64 * nI (min p q) + 16, M)) = (if nI y = 12 then if nI q = nI (min p q) then some (64 * (nI (min p q) + -1) + 16, M) else some (64 * nI (min p q) + 16, M) else some (64 * nI (min p q) + 16, M)) := by
        by_cases z1 : nI x = 12
        · rw [if_pos z1, if_neg (fun z2 => c1 ⟨z1, z2⟩)]
        · rw [if_neg z1]
      rw [e2]
      by_cases B : y = 12 ∧ q ≤ p
      · have e1 : min p q = q := Nat.min_eq_right B.2
        have c2 : nI y = 12 := eqN (k := 12) rfl B.1
        rw [if_pos c2, e1, if_pos rfl, m1 q (by omega), hm, if_pos (Or.inr B)]
      · rw [if_neg (show ¬ (x = 12 ∧ p ≤ q ∨ y = 12 ∧ q ≤ p) from fun z => z.elim A B)]
        by_cases z1 : nI y = 12
        · have hy12 := (nI_eq (a := y) (b := 12) (by omega) (by decide)).mp z1
          rw [if_pos z1, if_neg (nI_ne (by omega) (by omega) (by omega)), hm]
        · rw [if_neg z1, hm]
  unfold F_D_joined_b90
  by_cases C : p = q
  · rw [if_pos (by rw [C])]
    by_cases X : x = 12
    · rw [if_pos (show nI x = 12 from eqN (k := 12) rfl X)]
      exact b190 (fun z => z.2.1 X)
    · rw [if_neg (show ¬ nI x = 12 from neN (k := 12) rfl (by omega) (by decide) X)]
      by_cases Y : y = 12
      · rw [if_pos (show nI y = 12 from eqN (k := 12) rfl Y)]
        exact b190 (fun z => z.2.2 Y)
      · rw [if_neg (show ¬ nI y = 12 from neN (k := 12) rfl (by omega) (by decide) Y)]
        have ex : nI x - 16 = nI (x - 16) := by
          rw [show (16 : Int32) = nI 16 from rfl, pk_sub (by omega)]
        have ey : nI y - 16 = nI (y - 16) := by
          rw [show (16 : Int32) = nI 16 from rfl, pk_sub (by omega)]
        have ey2 : nI y = nI (16 + (y - 16)) := by
          congr 1
          omega
        rw [ex, ey, bnd_nI (by omega) (by decide), nI_clamp (by omega), nI_clamp (by omega), h.2.2.2 _ (by omega), h.2.2.2 _ (by omega)]
        unfold F_D_joined_b138 jv
        rw [if_pos (show p = q ∧ x ≠ 12 ∧ y ≠ 12 from ⟨C, X, Y⟩)]
        by_cases D1 : fc (x - 16) = 0
        · rw [if_pos D1, bnd_nI (by omega) (by decide)]
          by_cases D2 : fc (y - 16) = 0
          · rw [if_pos D2, if_pos (⟨D1, D2⟩ : fc (x - 16) = 0 ∧ fc (y - 16) = 0), lt_v, ey2, e_climb hT h (x := x - 16) (by omega) (by omega) (x - 16) (Nat.le_refl _) (bl_rf hs (by omega)) (fun d h1 h2 => by omega) fuel (by show x - 16 < 100000; omega), hm, nI_add]
          · rw [if_neg D2, if_neg (fun z => D2 z.2), hm]
        · rw [if_neg D1, if_neg (fun z => D1 z.1), hm]
  · rw [if_neg (nI_ne (by omega) (by omega) C)]
    exact b190 (fun z => C z.1)
theorem e_joinedD {n : Nat} {sup : Nat → Nat} {fc : Nat → Int32} {M : Mm} (hT : TOk n sup fc) (h : TRe n sup fc M) (a b : Int32) : F_D_joined a b M = some (jn n sup fc a b, M) := by
  have r5 : rf n 5 = false := by
    show rfN n 5 = false
    simp [rfN]
  unfold F_D_joined F_D_joined_b22 F_D_joined_b37 jn
  simp only [lt_v, e_isRefD hT h]
  by_cases hab : a = b
  · rw [if_pos hab, if_pos hab]
  · rw [if_neg hab, if_neg hab]
    by_cases ha : rf n a = true
    · have na : ¬ a = 5 := fun q => by rw [q, r5] at ha; cases ha
      by_cases hb : rf n b = true
      · have nb : ¬ b = 5 := fun q => by rw [q, r5] at hb; cases hb
        obtain ⟨i, hi, rfl, hi3, hix⟩ := rf_pos ha
        obtain ⟨j, hj, rfl, hj3, hjx⟩ := rf_pos hb
        have e := e_b90 hT h hi3 hj3 hix hjx
        simp only [ha, hb, na, nb, if_true, if_false, and_true, and_self, show ¬ (1 : Int32) = 0 by decide]
        rw [nI_clamp (by omega), nI_clamp (by omega)]
        have d1 : nI i / 64 = nI (i / 64) := pk_div (d := 64) (by omega) (by decide) (by decide)
        have d2 : nI j / 64 = nI (j / 64) := pk_div (d := 64) (by omega) (by decide) (by decide)
        have d3 : nI i - nI i / 64 * 64 = nI (i % 64) := pk_rem (d := 64) (by omega) (by decide) (by decide)
        have d4 : nI j - nI j / 64 * 64 = nI (j % 64) := pk_rem (d := 64) (by omega) (by decide) (by decide)
        rw [d3, d4, d1, d2]
        by_cases hle : j / 64 ≤ i / 64
        · rw [if_pos (nI_le hle (by omega))]
          rw [Nat.min_eq_right hle] at e
          exact e
        · rw [if_neg (nI_ge (by omega) (by omega))]
          rw [Nat.min_eq_left (by omega)] at e
          exact e
      · by_cases hb5 : b = 5
        · subst hb5
          simp [ha, r5, na]
        · simp [ha, hb, na, hb5]
    · by_cases hb : rf n b = true
      · have nb : ¬ b = 5 := fun q => by rw [q, r5] at hb; cases hb
        by_cases ha5 : a = 5
        · subst ha5
          simp [hb, r5]
        · simp [ha, hb, ha5, nb]
      · by_cases ha5 : a = 5
        · subst ha5
          by_cases hb5 : b = 5
          · exact absurd hb5.symm hab
          · simp [hb, r5, hb5]
        · by_cases hb5 : b = 5
          · subst hb5
            simp [ha, ha5, r5]
          · simp [ha, hb, ha5, hb5]
