/-! JOINED: class and reference give the same. -/
def jv (sup : Nat → Nat) (fc : Nat → Int32) (p x q y : Nat) : Int32 :=
  if p = q ∧ x ≠ 12 ∧ y ≠ 12 then (if fc (x - 16) = 0 ∧ fc (y - 16) = 0 then nI (64 * p + 16 + lca sup (x - 16) (y - 16)) else nI (64 * p + 16))
  else if (x = 12 ∧ p ≤ q) ∨ (y = 12 ∧ q ≤ p) then nI (64 * (min p q - 1) + 16) else nI (64 * min p q + 16)
def jn (n : Nat) (sup : Nat → Nat) (fc : Nat → Int32) (a b : Int32) : Int32 :=
  if a = b then a else if a = 5 ∧ rf n b = true then b else if b = 5 ∧ rf n a = true then a
  else if rf n a = true ∧ rf n b = true then jv sup fc (a.toNatClampNeg / 64) (a.toNatClampNeg % 64) (b.toNatClampNeg / 64) (b.toNatClampNeg % 64) else 0
theorem rf_pos {n : Nat} {v : Int32} (h : rf n v = true) : ∃ i, i < 256 ∧ v = nI i ∧ i / 64 ≤ 3 ∧ ((i % 64 = 12 ∧ 1 ≤ i / 64) ∨ (16 ≤ i % 64 ∧ i % 64 < 16 + n)) := by
  by_cases hv : v < 0
  · rw [rf_neg hv] at h
    cases h
  · obtain ⟨j, hj, rfl⟩ := nI_of hv
    rw [rf_nI hj] at h
    unfold rfN at h
    simp only [Bool.and_eq_true, Bool.or_eq_true, decide_eq_true_eq] at h
    obtain ⟨h1, h2⟩ := h
    refine ⟨j, h1, rfl, by omega, ?_⟩
    rcases h2 with q | q
    · exact Or.inl ⟨q.1, by omega⟩
    · exact Or.inr q
theorem sub64 {p k x : Nat} (h : k ≤ p) : nI (64 * p + x) - 64 * nI k = nI (64 * (p - k) + x) := by
  rw [show (64 : Int32) = nI 64 from rfl, pk_mul, pk_sub (by omega)]
  congr 1
  omega
theorem nI64 {k r : Nat} : (64 : Int32) * nI k + nI r = nI (64 * k + r) := by
  rw [show (64 : Int32) = nI 64 from rfl, pk_mul, nI_add]
theorem nI_e {a b : Nat} (ha : a < 2 ^ 31) (hb : b < 2 ^ 31) (h : a = b) : nI a = nI b := by rw [h]
theorem nI_ne {a b : Nat} (ha : a < 2 ^ 31) (hb : b < 2 ^ 31) (h : ¬ a = b) : ¬ nI a = nI b := fun q => h ((nI_eq ha hb).mp q)
theorem eqN {a k : Nat} {K : Int32} (hK : K = nI k) (h : a = k) : nI a = K := by rw [h, hK]
theorem neN {a k : Nat} {K : Int32} (hK : K = nI k) (ha : a < 2 ^ 31) (hk : k < 2 ^ 31) (h : ¬ a = k) : ¬ nI a = K := by
  rw [hK]
  exact nI_ne ha hk h
theorem e_b80 {n p q x y : Nat} {sup : Nat → Nat} {fc : Nat → Int32} {M : Mm} (hT : TOk n sup fc) (h : TCl n sup fc M) (hp : p ≤ 3) (hq : q ≤ 3) (hx : (x = 12 ∧ 1 ≤ p) ∨ (16 ≤ x ∧ x < 16 + n)) (hy : (y = 12 ∧ 1 ≤ q) ∨ (16 ≤ y ∧ y < 16 + n)) : F_T_joined_b80 (nI (64 * p + x)) (nI (64 * q + y)) (nI p) (nI q) (nI (min p q)) M = some (jv sup fc p x q y, M) := by
  have hn := hT.2.1
  unfold F_T_joined_b80 F_T_joined_b106
  rw [sub64 (Nat.min_le_left p q), sub64 (Nat.min_le_right p q)]
  have hm : ∀ k, 1 ≤ k → (64 : Int32) * (nI k - 1) + 16 = nI (64 * (k - 1) + 16) := fun k hk => by
    rw [show (1 : Int32) = nI 1 from rfl, pk_sub hk, show (16 : Int32) = nI 16 from rfl, nI64]
  unfold jv
  by_cases A : x = 12 ∧ p ≤ q
  · have e1 : min p q = p := Nat.min_eq_left A.2
    have c1 : nI (64 * (p - min p q) + x) = 12 := eqN (k := 12) rfl (by omega)
    rw [if_pos c1, hm _ (by omega), if_neg (fun z => z.2.1 A.1), if_pos (Or.inl A)]
  · have c1 : ¬ nI (64 * (p - min p q) + x) = 12 := neN (k := 12) rfl (by omega) (by decide) (by omega)
    rw [if_neg c1]
    by_cases B : y = 12 ∧ q ≤ p
    · have e1 : min p q = q := Nat.min_eq_right B.2
      have c2 : nI (64 * (q - min p q) + y) = 12 := eqN (k := 12) rfl (by omega)
      rw [if_pos c2, hm _ (by omega), if_neg (fun z => z.2.2 B.1), if_pos (Or.inr B)]
    · have c2 : ¬ nI (64 * (q - min p q) + y) = 12 := neN (k := 12) rfl (by omega) (by decide) (by omega)
      rw [if_neg c2]
      by_cases C : p = q
      · subst C
        have hx2 : 16 ≤ x ∧ x < 16 + n := by omega
        have hy2 : 16 ≤ y ∧ y < 16 + n := by omega
        have ex : 64 * (p - min p p) + x = 16 + (x - 16) := by omega
        have ey : 64 * (p - min p p) + y = 16 + (y - 16) := by omega
        rw [if_pos rfl, ex, ey, e_joinedClassesC hT h (by omega) (by omega), bd_some, if_pos (show p = p ∧ x ≠ 12 ∧ y ≠ 12 from ⟨rfl, by omega, by omega⟩), Nat.min_self]
        by_cases D : fc (x - 16) = 0 ∧ fc (y - 16) = 0
        · rw [if_pos D, if_pos D, show (16 : Int32) = nI 16 from rfl, nI_add, nI64, Nat.add_assoc]
        · rw [if_neg D, if_neg D, show (16 : Int32) = nI 16 from rfl, nI64]
      · rw [if_neg (nI_ne (by omega) (by omega) C), if_neg (fun z => C z.1), if_neg (by omega), show (16 : Int32) = nI 16 from rfl, nI64]
theorem split64 {i : Nat} : nI i = nI (64 * (i / 64) + i % 64) := by
  congr 1
  omega
theorem e_joinedC {n : Nat} {sup : Nat → Nat} {fc : Nat → Int32} {M : Mm} (hT : TOk n sup fc) (h : TCl n sup fc M) (a b : Int32) : F_T_joined a b M = some (jn n sup fc a b, M) := by
  have r5 : rf n 5 = false := by
    show rfN n 5 = false
    simp [rfN]
  unfold F_T_joined F_T_joined_b31 F_T_joined_b43 jn
  simp only [lt_v, e_isRefC hT h]
  by_cases hab : a = b
  · rw [if_pos hab, if_pos hab]
  · rw [if_neg hab, if_neg hab]
    by_cases ha : rf n a = true
    · have na : ¬ a = 5 := fun q => by rw [q, r5] at ha; cases ha
      by_cases hb : rf n b = true
      · have nb : ¬ b = 5 := fun q => by rw [q, r5] at hb; cases hb
        obtain ⟨i, hi, rfl, hi3, hix⟩ := rf_pos ha
        obtain ⟨j, hj, rfl, hj3, hjx⟩ := rf_pos hb
        have e := e_b80 hT h hi3 hj3 hix hjx
        rw [← split64, ← split64] at e
        simp only [ha, hb, na, nb, if_true, if_false, and_true, and_self, show ¬ (1 : Int32) = 0 by decide]
        rw [nI_clamp (by omega), nI_clamp (by omega), pk_shrN (by omega) _ 6 (by decide), pk_shrN (by omega) _ 6 (by decide)]
        show (if nI (j / 64) ≤ nI (i / 64) then F_T_joined_b80 (nI i) (nI j) (nI (i / 64)) (nI (j / 64)) (nI (j / 64)) M else F_T_joined_b80 (nI i) (nI j) (nI (i / 64)) (nI (j / 64)) (nI (i / 64)) M) = _
        by_cases hle : j / 64 ≤ i / 64
        · rw [if_pos (nI_le hle (by omega))]
          rw [Nat.min_eq_right hle] at e
          exact e
        · rw [if_neg (nI_ge (by omega) (by omega))]
          rw [Nat.min_eq_left (by omega)] at e
          exact e
      · by_cases hb5 : b = 5
        · subst hb5
          simp [ha, r5, na]
        · simp [ha, hb, na, hb5]
    · by_cases hb : rf n b = true
      · have nb : ¬ b = 5 := fun q => by rw [q, r5] at hb; cases hb
        by_cases ha5 : a = 5
        · subst ha5
          simp [hb, r5]
        · simp [ha, hb, ha5]
      · simp [ha, hb]
