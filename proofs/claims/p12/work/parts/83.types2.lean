/-! TYPES: JOINED and GOES FOR. -/
def lcd (P : Nat → Bool) : Nat → Nat
  | 0 => 0
  | c + 1 => if P (c + 1) then c + 1 else lcd P c
theorem lcd_eq {P : Nat → Bool} {c : Nat} (hP : P c = true ∨ c = 0) : ∀ x, c ≤ x → (∀ d, c < d → d ≤ x → P d = false) → lcd P x = c := by
  intro x
  induction x with
  | zero =>
    intro h _
    have : c = 0 := by omega
    subst this
    rfl
  | succ x ih =>
    intro h hno
    by_cases he : c = x + 1
    · subst he
      rcases hP with q | q
      · rw [lcd, if_pos q]
      · omega
    · rw [lcd, hno (x + 1) (by omega) (Nat.le_refl _)]
      simp only [Bool.false_eq_true, if_false]
      exact ih (by omega) (fun d h1 h2 => hno d h1 (by omega))
/-- the first CLASS from x up that y is BELOW -/
def lca (sup : Nat → Nat) (x y : Nat) : Nat := lcd (fun d => bl sup x d && bl sup y d) x
theorem lcd_le (P : Nat → Bool) : ∀ x, lcd P x ≤ x := by
  intro x
  induction x with
  | zero => exact Nat.le_refl _
  | succ x ih =>
    rw [lcd]
    split
    · exact Nat.le_refl _
    · omega
theorem e_lcaC {n x y : Nat} {sup : Nat → Nat} {fc : Nat → Int32} {M : Mm} (hT : TOk n sup fc) (h : TCl n sup fc M) (hx : x < n) (hy : y < n) : ∀ c, c ≤ x → ∀ f, c < f → F_T_joinedClasses_b53 f (M.1 2 0 x &&& M.1 2 0 y) (nI c) M = some (16 + nI (lcd (fun d => bl sup x d && bl sup y d) c), M) := by
  have hn := hT.2.1
  intro c
  induction c with
  | zero =>
    intro _ f hf
    cases f with
    | zero => omega
    | succ f =>
      rw [F_T_joinedClasses_b53, if_pos (by decide)]
      rfl
  | succ c ih =>
    intro hc f hf
    cases f with
    | zero => omega
    | succ f =>
      rw [F_T_joinedClasses_b53, if_neg (nI_nle (by omega) (by omega))]
      have e := bt_test (x := M.1 2 0 x &&& M.1 2 0 y) (d := c + 1) (by omega)
      rw [b_and, h.2.2 x hx (c + 1) (by omega), h.2.2 y hy (c + 1) (by omega)] at e
      rw [lcd]
      by_cases hb : (bl sup x (c + 1) && bl sup y (c + 1)) = true
      · rw [if_neg (fun q => by rw [e.mp q] at hb; cases hb), if_pos hb]
      · rw [if_pos (e.mpr (by simpa using hb)), lt_v, show nI (c + 1) + -1 = nI c from pk_m1 c, ih (by omega) f (by omega), if_neg hb]
theorem e_joinedClassesC {n x y : Nat} {sup : Nat → Nat} {fc : Nat → Int32} {M : Mm} (hT : TOk n sup fc) (h : TCl n sup fc M) (hx : x < n) (hy : y < n) : F_T_joinedClasses (nI (16 + x)) (nI (16 + y)) M = some (if fc x = 0 ∧ fc y = 0 then 16 + nI (lca sup x y) else 16, M) := by
  have hn := hT.2.1
  have e1 : ∀ z, nI (16 + z) - 16 = nI z := fun z => by
    rw [show (16 : Int32) = nI 16 from rfl, pk_sub (by omega)]
    congr 1
    omega
  unfold F_T_joinedClasses
  simp only [e1, lt_v]
  rw [bnd_nI (by omega) (by decide), nI_clamp (by omega), nI_clamp (by omega), h.2.1 x hx, h.2.1 y hy]
  by_cases h1 : fc x = 0
  · rw [if_pos h1, bnd_nI (by omega) (by decide)]
    by_cases h2 : fc y = 0
    · rw [if_pos h2, bnd_nI (by omega) (by decide), bnd_nI (by omega) (by decide), e_lcaC hT h hx hy x (Nat.le_refl _) fuel (by show x < 100000; omega), if_pos ⟨h1, h2⟩]
      rfl
    · rw [if_neg h2, if_neg (fun q => h2 q.2)]
  · rw [if_neg h1, if_neg (fun q => h1 q.1)]
theorem e_climb {n x y : Nat} {sup : Nat → Nat} {fc : Nat → Int32} {M : Mm} (hT : TOk n sup fc) (h : TRe n sup fc M) (hx : x < n) (hy : y < n) {m : Int32} : ∀ c, c ≤ x → bl sup x c = true → (∀ d, c < d → d ≤ x → (bl sup x d && bl sup y d) = false) → ∀ f, c < f → F_D_joined_b153 f m (nI (16 + y)) (nI c) M = some (64 * m + 16 + nI (lca sup x y), M) := by
  have hn := hT.2.1
  have hs := hT.2.2.1
  have e1 : nI (16 + y) - 16 = nI y := by
    rw [show (16 : Int32) = nI 16 from rfl, pk_sub (by omega)]
    congr 1
    omega
  intro c
  induction c using Nat.strongRecOn with
  | ind c ih =>
    intro hc hb hno f hf
    cases f with
    | zero => omega
    | succ f =>
      rw [F_D_joined_b153, e1, e_isBelowD hT h (by omega) hy, bd_some]
      by_cases hyc : bl sup y c = true
      · rw [hyc]
        have e2 : lca sup x y = c := lcd_eq (Or.inl (by simp [hb, hyc])) x hc hno
        rw [e2]
        rfl
      · have hyc' : bl sup y c = false := by simpa using hyc
        have h0 : 0 < c := by
          rcases Nat.eq_zero_or_pos c with rfl | q
          · exact absurd (bl_z hs y hy) hyc
          · exact q
        have h5 := hs c h0 (by omega)
        rw [hyc']
        simp only [Bool.false_eq_true, if_false, if_true]
        rw [bnd_nI (by omega) (by decide), lt_v, nI_clamp (by omega), h.2.2.1 c h0 (by omega)]
        have hcs : bl sup c (sup c) = true := by
          rw [bl_s hs h0 (by omega), bl_rf hs (by omega), Bool.or_true]
        have htr : ∀ z, z < n → bl sup z c = true → bl sup z (sup c) = true := by
          intro z
          induction z using Nat.strongRecOn with
          | ind z ihz =>
            intro hz hzc
            rcases Nat.eq_zero_or_pos z with rfl | z0
            · have := bl_le hs 0 hz hzc
              omega
            · by_cases e : z = c
              · subst e
                exact hcs
              · have := hs z z0 hz
                rw [bl_s hs z0 hz] at hzc ⊢
                rw [Bool.or_eq_true] at hzc ⊢
                rcases hzc with q | q
                · exact absurd (of_decide_eq_true q) e
                · exact Or.inr (ihz (sup z) this (by omega) q)
        refine ih (sup c) h5 (by omega) (htr x hx hb) (fun d h1 h2 => ?_) f (by omega)
        rcases Nat.lt_trichotomy d c with q | q | q
        · cases hd : bl sup x d
          · rfl
          · exfalso
            have e3 := bl_ch hs x hx hb hd q
            rw [bl_s hs h0 (by omega), Bool.or_eq_true] at e3
            rcases e3 with z | z
            · have := of_decide_eq_true z
              omega
            · have := bl_le hs (sup c) (by omega) z
              omega
        · subst q
          rw [hyc', Bool.and_false]
        · exact hno d q h2
