/-! GOES FOR: class and reference give the same. -/
def gv (sup : Nat → Nat) (fc : Nat → Int32) (p x q y : Nat) : Bool :=
  if (x = 12 ∧ p ≤ q) ∨ (y = 12 ∧ q ≤ p) then false else if y = 16 ∧ q ≤ p then true else if p = q then (decide (fc (y - 16) ≠ 0) || bl sup (x - 16) (y - 16)) else false
def gs (n : Nat) (sup : Nat → Nat) (fc : Nat → Int32) (a b : Int32) : Bool :=
  if a = b then true else if rf n b = true then (if a = 5 then true else if rf n a = true then gv sup fc (a.toNatClampNeg / 64) (a.toNatClampNeg % 64) (b.toNatClampNeg / 64) (b.toNatClampNeg % 64) else false) else false
theorem m64 {p x : Nat} (h : 1 ≤ p) : nI (64 * p + x) + -64 = nI (64 * (p - 1) + x) := by
  have e : nI (64 * (p - 1) + x) + nI 64 = nI (64 * p + x) := by
    rw [nI_add]
    congr 1
    omega
  rw [← e, Int32.add_assoc, show nI 64 + (-64 : Int32) = 0 by decide, Int32.add_zero]
theorem e_g71 {n p q x y : Nat} {sup : Nat → Nat} {fc : Nat → Int32} {M : Mm} (hT : TOk n sup fc) (h : TCl n sup fc M) (hp : p ≤ 3) (hq : q ≤ 3) (hpq : p = 0 ∨ q = 0) (hx : x = 12 ∨ (16 ≤ x ∧ x < 16 + n)) (hy : y = 12 ∨ (16 ≤ y ∧ y < 16 + n)) : F_T_goesFor_b71 (nI (64 * p + x)) (nI (64 * q + y)) M = some (if gv sup fc p x q y then 1 else 0, M) := by
  have hn := hT.2.1
  unfold F_T_goesFor_b71 gv
  by_cases A : x = 12 ∧ p ≤ q
  · rw [if_pos (show nI (64 * p + x) = 12 from eqN (k := 12) rfl (by omega)), if_pos (Or.inl A)]
    rfl
  · rw [if_neg (show ¬ nI (64 * p + x) = 12 from neN (k := 12) rfl (by omega) (by decide) (by omega))]
    by_cases B : y = 12 ∧ q ≤ p
    · rw [if_pos (show nI (64 * q + y) = 12 from eqN (k := 12) rfl (by omega)), if_pos (Or.inr B)]
      rfl
    · rw [if_neg (show ¬ nI (64 * q + y) = 12 from neN (k := 12) rfl (by omega) (by decide) (by omega)), if_neg (show ¬ (x = 12 ∧ p ≤ q ∨ y = 12 ∧ q ≤ p) from fun z => z.elim A B)]
      by_cases C : y = 16 ∧ q ≤ p
      · rw [if_pos (show nI (64 * q + y) = 16 from eqN (k := 16) rfl (by omega)), if_pos C]
        rfl
      · rw [if_neg (show ¬ nI (64 * q + y) = 16 from neN (k := 16) rfl (by omega) (by decide) (by omega)), if_neg C]
        by_cases E : p = q
        · have p0 : p = 0 := by omega
          have q0 : q = 0 := by omega
          subst p0
          subst q0
          have ex : nI (64 * 0 + x) - 16 = nI (x - 16) := by
            rw [show (16 : Int32) = nI 16 from rfl, pk_sub (by omega)]
            congr 1
            omega
          have ey : nI (64 * 0 + y) - 16 = nI (y - 16) := by
            rw [show (16 : Int32) = nI 16 from rfl, pk_sub (by omega)]
            congr 1
            omega
          rw [if_neg (show ¬ 64 ≤ nI (64 * 0 + x) from nI_ge (b := 64) (by omega) (by decide)), if_pos (show nI (64 * 0 + y) < 64 from nI_lt (b := 64) (by omega) (by decide)), ex, ey, bnd_nI (by omega) (by decide), nI_clamp (by omega), h.2.1 _ (by omega), if_pos rfl]
          by_cases F : fc (y - 16) = 0
          · rw [if_pos F, e_isBelowC hT h (by omega) (by omega), bd_some]
            cases bl sup (x - 16) (y - 16) <;> simp [F]
          · rw [if_neg F]
            simp [F]
        · rw [if_neg E]
          by_cases G1 : 1 ≤ p
          · rw [if_pos (show (64 : Int32) ≤ nI (64 * p + x) from nI_le (a := 64) (by omega) (by omega))]
            rfl
          · rw [if_neg (show ¬ (64 : Int32) ≤ nI (64 * p + x) from nI_ge (b := 64) (by omega) (by decide)), if_neg (show ¬ nI (64 * q + y) < 64 from nI_nlt (b := 64) (by omega) (by omega))]
            rfl
theorem gv_s {sup : Nat → Nat} {fc : Nat → Int32} {p x q y : Nat} : gv sup fc (p + 1) x (q + 1) y = gv sup fc p x q y := by
  unfold gv
  simp only [Nat.add_le_add_iff_right, Nat.add_right_cancel_iff]
theorem e_g40 {n x y : Nat} {sup : Nat → Nat} {fc : Nat → Int32} {M : Mm} (hT : TOk n sup fc) (h : TCl n sup fc M) (hx : x = 12 ∨ (16 ≤ x ∧ x < 16 + n)) (hy : y = 12 ∨ (16 ≤ y ∧ y < 16 + n)) : ∀ (p q t f : Nat), p + t ≤ 3 → q + t ≤ 3 → p < f → F_T_goesFor_b40 f (nI (64 * p + x)) (nI (64 * q + y)) (nI t) M = some (if gv sup fc p x q y then 1 else 0, M) := by
  have hn := hT.2.1
  intro p
  induction p with
  | zero =>
    intro q t f hp hq hf
    cases f with
    | zero => omega
    | succ f =>
      have e := e_g71 hT h (p := 0) (q := q) (by omega) (by omega) (Or.inl rfl) hx hy
      rw [F_T_goesFor_b40]
      by_cases c1 : (3 : Int32) ≤ nI t
      · rw [if_pos c1]
        exact e
      · rw [if_neg c1, if_pos (show nI (64 * 0 + x) < 64 from nI_lt (b := 64) (by omega) (by decide))]
        exact e
  | succ p ih =>
    intro q t f hp hq hf
    cases f with
    | zero => omega
    | succ f =>
      rw [F_T_goesFor_b40, if_neg (show ¬ (3 : Int32) ≤ nI t from nI_ge (b := 3) (by omega) (by decide)), if_neg (show ¬ nI (64 * (p + 1) + x) < 64 from nI_nlt (b := 64) (by omega) (by omega))]
      cases q with
      | zero =>
        rw [if_pos (show nI (64 * 0 + y) < 64 from nI_lt (b := 64) (by omega) (by decide))]
        exact e_g71 hT h (p := p + 1) (q := 0) (by omega) (by omega) (Or.inr rfl) hx hy
      | succ q =>
        rw [if_neg (show ¬ nI (64 * (q + 1) + y) < 64 from nI_nlt (b := 64) (by omega) (by omega)), lt_v, lt_v, lt_v, m64 (by omega), m64 (by omega), nI_1, Nat.add_sub_cancel, Nat.add_sub_cancel, ih q (t + 1) f (by omega) (by omega) (by omega), gv_s]
theorem e_goesC {n : Nat} {sup : Nat → Nat} {fc : Nat → Int32} {M : Mm} (hT : TOk n sup fc) (h : TCl n sup fc M) (a b : Int32) : F_T_goesFor a b M = some (if gs n sup fc a b then 1 else 0, M) := by
  have r5 : rf n 5 = false := by
    show rfN n 5 = false
    simp [rfN]
  unfold F_T_goesFor P_T_isRefOrNull gs
  simp only [lt_v, e_isRefC hT h]
  by_cases hab : a = b
  · simp [hab]
  · rw [if_neg hab, if_neg hab]
    by_cases hb : rf n b = true
    · by_cases ha5 : a = 5
      · simp [hb, ha5]
      · by_cases ha : rf n a = true
        · obtain ⟨i, hi, rfl, hi3, hix⟩ := rf_pos ha
          obtain ⟨j, hj, rfl, hj3, hjx⟩ := rf_pos hb
          have e := e_g40 hT h (x := i % 64) (y := j % 64) (by omega) (by omega) (i / 64) (j / 64) 0 fuel (by omega) (by omega) (by show i / 64 < 100000; omega)
          rw [← split64, ← split64] at e
          simp only [ha, hb, ha5, if_true, if_false, show ¬ (1 : Int32) = 0 by decide]
          rw [nI_clamp (by omega), nI_clamp (by omega)]
          exact e
        · simp [ha, hb, ha5]
    · by_cases ha5 : a = 5
      · simp [hb, ha5]
      · by_cases ha : rf n a = true
        · simp [ha, hb, ha5]
        · simp [ha, hb, ha5]
