/-! TYPES: the class's tables and the reference's. -/
def blw (sup : Nat → Nat) : Nat → Nat → Nat → Bool
  | 0, c, d => decide (c = d)
  | f + 1, c, d => decide (c = d) || (decide (c ≠ 0) && blw sup f (sup c) d)
def bl (sup : Nat → Nat) (c d : Nat) : Bool := blw sup c c d
def TOk (n : Nat) (sup : Nat → Nat) (fc : Nat → Int32) : Prop := 2 ≤ n ∧ n ≤ 10 ∧ (∀ c, 0 < c → c < n → sup c < c) ∧ ∀ c, c < n → zo (fc c)
def TCl (n : Nat) (sup : Nat → Nat) (fc : Nat → Int32) (M : Mm) : Prop := M.1 1 0 2 = nI n ∧ (∀ c, c < n → M.1 3 0 c = fc c) ∧ ∀ c, c < n → ∀ d, d < 32 → bt (M.1 2 0 c) d = bl sup c d
def TRe (n : Nat) (sup : Nat → Nat) (fc : Nat → Int32) (M : Mm) : Prop := M.1 30 0 2 = nI n ∧ M.1 31 0 0 = -1 ∧ (∀ c, 0 < c → c < n → M.1 31 0 c = nI (sup c)) ∧ ∀ c, c < n → M.1 32 0 c = fc c
theorem blw_f {n d : Nat} {sup : Nat → Nat} (hs : ∀ c, 0 < c → c < n → sup c < c) : ∀ (f c : Nat), c < n → c ≤ f → blw sup f c d = blw sup c c d := by
  intro f
  induction f using Nat.strongRecOn with
  | ind f ih =>
    intro c hc hf
    cases f with
    | zero =>
      have : c = 0 := by omega
      subst this
      rfl
    | succ f =>
      cases c with
      | zero => simp [blw]
      | succ c =>
        have h1 := hs (c + 1) (by omega) hc
        rw [blw, blw, ih f (by omega) (sup (c + 1)) (by omega) (by omega), ih c (by omega) (sup (c + 1)) (by omega) (by omega)]
theorem bl_0 {sup : Nat → Nat} {d : Nat} : bl sup 0 d = decide (0 = d) := rfl
theorem bl_s {n c d : Nat} {sup : Nat → Nat} (hs : ∀ c, 0 < c → c < n → sup c < c) (h0 : 0 < c) (hc : c < n) : bl sup c d = (decide (c = d) || bl sup (sup c) d) := by
  have h1 := hs c h0 hc
  unfold bl
  cases c with
  | zero => omega
  | succ c =>
    rw [blw, blw_f hs c (sup (c + 1)) (by omega) (by omega)]
    simp
theorem bl_le {n d : Nat} {sup : Nat → Nat} (hs : ∀ c, 0 < c → c < n → sup c < c) : ∀ c, c < n → bl sup c d = true → d ≤ c := by
  intro c
  induction c using Nat.strongRecOn with
  | ind c ih =>
    intro hc h
    rcases Nat.eq_zero_or_pos c with rfl | h0
    · rw [bl_0] at h
      have := of_decide_eq_true h
      omega
    · rw [bl_s hs h0 hc, Bool.or_eq_true] at h
      rcases h with h | h
      · have := of_decide_eq_true h
        omega
      · have h1 := hs c h0 hc
        have := ih (sup c) h1 (by omega) h
        omega
theorem bl_rf {n c : Nat} {sup : Nat → Nat} (hs : ∀ c, 0 < c → c < n → sup c < c) (hc : c < n) : bl sup c c = true := by
  rcases Nat.eq_zero_or_pos c with rfl | h0
  · rfl
  · rw [bl_s hs h0 hc]
    simp
theorem bl_z {n : Nat} {sup : Nat → Nat} (hs : ∀ c, 0 < c → c < n → sup c < c) : ∀ c, c < n → bl sup c 0 = true := by
  intro c
  induction c using Nat.strongRecOn with
  | ind c ih =>
    intro hc
    rcases Nat.eq_zero_or_pos c with rfl | h0
    · rfl
    · have h1 := hs c h0 hc
      rw [bl_s hs h0 hc, ih (sup c) h1 (by omega), Bool.or_true]
/-- what is above x stands in one chain -/
theorem bl_ch {n d e : Nat} {sup : Nat → Nat} (hs : ∀ c, 0 < c → c < n → sup c < c) : ∀ x, x < n → bl sup x e = true → bl sup x d = true → d < e → bl sup e d = true := by
  intro x
  induction x using Nat.strongRecOn with
  | ind x ih =>
    intro hx he hd hlt
    rcases Nat.eq_zero_or_pos x with rfl | h0
    · have := bl_le hs 0 hx he
      omega
    · by_cases hxe : x = e
      · subst hxe
        exact hd
      · have h1 := hs x h0 hx
        have he' := he
        have hd' := hd
        rw [bl_s hs h0 hx, Bool.or_eq_true] at he hd
        have hxd : ¬ x = d := by
          have := bl_le hs x hx he'
          omega
        refine ih (sup x) h1 (by omega) ?_ ?_ hlt
        · rcases he with q | q
          · exact absurd (of_decide_eq_true q) hxe
          · exact q
        · rcases hd with q | q
          · exact absurd (of_decide_eq_true q) hxd
          · exact q
theorem e_below {n d : Nat} {sup : Nat → Nat} {fc : Nat → Int32} {M : Mm} (hT : TOk n sup fc) (h : TRe n sup fc M) (hd : d < 2 ^ 31) : ∀ c, c < n → ∀ f, c + 2 ≤ f → F_D_isBelow_b2 f (nI d) (nI c) M = some (if bl sup c d then 1 else 0, M) := by
  obtain ⟨hn2, hn, hs, hz⟩ := hT
  obtain ⟨h1, h2, h3, h4⟩ := h
  intro c
  induction c using Nat.strongRecOn with
  | ind c ih =>
    intro hc f hf
    cases f with
    | zero => omega
    | succ f =>
      rw [F_D_isBelow_b2, if_neg (nI_pos (by omega))]
      by_cases hcd : c = d
      · subst hcd
        rw [if_pos rfl, F_D_isBelow_b21, if_pos rfl, bl_rf hs hc]
        rfl
      · rw [if_neg (fun q => hcd ((nI_eq (by omega) hd).mp q)), bnd_nI (by omega) (by decide), lt_v, nI_clamp (by omega)]
        rcases Nat.eq_zero_or_pos c with rfl | h0
        · rw [h2, bl_0]
          cases f with
          | zero => omega
          | succ f =>
            rw [F_D_isBelow_b2, if_pos (by decide), F_D_isBelow_b21, if_neg (show ¬ (-1 : Int32) = nI d from fun q => nI_pos hd (q ▸ (by decide : (-1 : Int32) < 0)))]
            simp [hcd]
        · have h5 := hs c h0 hc
          rw [h3 c h0 hc, ih (sup c) h5 (by omega) f (by omega), bl_s hs h0 hc]
          simp [hcd]
theorem e_isBelowD {n c d : Nat} {sup : Nat → Nat} {fc : Nat → Int32} {M : Mm} (hT : TOk n sup fc) (h : TRe n sup fc M) (hd : d < 2 ^ 31) (hc : c < n) : F_D_isBelow (nI c) (nI d) M = some (if bl sup c d then 1 else 0, M) := by
  unfold F_D_isBelow
  exact e_below hT h hd c hc fuel (by have := hT.2.1; show c + 2 ≤ 100000; omega)
theorem e_isBelowC {n c d : Nat} {sup : Nat → Nat} {fc : Nat → Int32} {M : Mm} (hT : TOk n sup fc) (h : TCl n sup fc M) (hd : d < 32) (hc : c < n) : F_T_isBelow (nI c) (nI d) M = some (if bl sup c d then 1 else 0, M) := by
  obtain ⟨hn2, hn, hs, hz⟩ := hT
  obtain ⟨h1, h2, h3⟩ := h
  unfold F_T_isBelow
  rw [bnd_nI (by omega) (by decide), nI_clamp (by omega)]
  have e := bt_test (x := M.1 2 0 c) hd
  rw [h3 c hc d hd] at e
  by_cases hb : bl sup c d = true
  · rw [if_neg (fun q => by rw [e.mp q] at hb; cases hb), hb]
    rfl
  · rw [if_pos (e.mpr (by simpa using hb))]
    simp [hb]
def rfN (n j : Nat) : Bool := decide (j < 256) && ((decide (j % 64 = 12) && decide (64 ≤ j)) || (decide (16 ≤ j % 64) && decide (j % 64 < 16 + n)))
def rf (n : Nat) (v : Int32) : Bool := rfN n v.toNatClampNeg
theorem neg_clamp {v : Int32} (h : v < 0) : v.toNatClampNeg = 0 := by
  have h1 : v.toInt < 0 := Int32.lt_iff_toInt_lt.mp h
  show v.toInt.toNat = 0
  omega
theorem rf_neg {n : Nat} {v : Int32} (h : v < 0) : rf n v = false := by
  unfold rf rfN
  rw [neg_clamp h]
  simp
theorem rf_nI {n j : Nat} (hj : j < 2 ^ 31) : rf n (nI j) = rfN n j := by
  unfold rf
  rw [nI_clamp hj]
theorem rf_big {n j : Nat} (h : 256 ≤ j) : rfN n j = false := by
  unfold rfN
  simp [show ¬ j < 256 by omega]
theorem shr_neg {v : Int32} (h : v < 0) : v >>> ((6 : Int32) &&& 31) < 0 := by
  have h1 : v.toInt < 0 := Int32.lt_iff_toInt_lt.mp h
  rw [Int32.lt_iff_toInt_lt, pk_shr v _ 6 (by decide)]
  show v.toInt >>> 6 < 0
  rw [Int.shiftRight_eq_div_pow]
  omega
set_option maxRecDepth 100000 in
theorem refC_dec : ∀ n, n < 11 → ∀ j, j < 256 → (lt (nI j >>> ((6 : Int32) &&& 31) : Int32) fun n1 => (if n1 < 0 then (0 : Int32) else (if n1 ≤ 3 then lt (nI j &&& 63 : Int32) fun n4 => (if n4 = 12 then (if n1 ≤ 0 then 0 else 1) else (if n4 < 16 then 0 else (if ((16 : Int32) + nI n) ≤ n4 then 0 else 1))) else 0))) = if rfN n j then 1 else 0 := by decide +kernel
theorem e_isRefC {n : Nat} {sup : Nat → Nat} {fc : Nat → Int32} {M : Mm} (hT : TOk n sup fc) (h : TCl n sup fc M) (v : Int32) : P_T_isRef v M = if rf n v then 1 else 0 := by
  unfold P_T_isRef
  rw [h.1]
  by_cases hv : v < 0
  · rw [rf_neg hv, lt_v, if_pos (shr_neg hv)]
    rfl
  · obtain ⟨j, hj, rfl⟩ := nI_of hv
    rw [rf_nI hj]
    by_cases hb : j < 256
    · exact refC_dec n (by have := hT.2.1; omega) j hb
    · rw [rf_big (by omega), lt_v, pk_shrN hj _ 6 (by decide), if_neg (nI_pos (by omega)), if_neg (fun q => by have := (nI_leI (a := j / 2 ^ 6) (b := 3) (by omega) (by decide)).mp q; omega)]
      rfl
set_option maxRecDepth 100000 in
theorem refD_dec : ∀ n, n < 11 → 2 ≤ n → ∀ j, j < 256 → (if (if nI j < 16 then (0 : Int32) else if ((16 : Int32) + nI n - 1) < nI j then 0 else 1) = 0 then (if (if nI j < 64 then (0 : Int32) else if (255 : Int32) < nI j then 0 else 1) = 0 then (0 : Int32) else (if (nI j - nI j / 64 * 64) = 12 then 1 else (if (if (nI j - nI j / 64 * 64) < 16 then (0 : Int32) else if ((16 : Int32) + nI n - 1) < (nI j - nI j / 64 * 64) then 0 else 1) = 0 then 0 else 1))) else 1) = if rfN n j then 1 else 0 := by decide +kernel
theorem e_isRefD {n : Nat} {sup : Nat → Nat} {fc : Nat → Int32} {M : Mm} (hT : TOk n sup fc) (h : TRe n sup fc M) (v : Int32) : P_D_isRef v M = if rf n v then 1 else 0 := by
  have hn := hT.2.1
  have hn2 := hT.1
  unfold P_D_isRef P_D_isClass P_D_in
  simp only [lt_v]
  rw [h.1]
  by_cases hv : v < 0
  · rw [rf_neg hv]
    have h1 : v < 16 := by
      rw [Int32.lt_iff_toInt_lt] at hv ⊢
      exact Int.lt_trans hv (by decide)
    have h2 : v < 64 := by
      rw [Int32.lt_iff_toInt_lt] at hv ⊢
      exact Int.lt_trans hv (by decide)
    simp [h1, h2]
  · obtain ⟨j, hj, rfl⟩ := nI_of hv
    rw [rf_nI hj]
    by_cases hb : j < 256
    · exact refD_dec n (by omega) hn2 j hb
    · have e : (16 : Int32) + nI n - 1 = nI (15 + n) := by
        rw [show (16 : Int32) = nI 16 from rfl, nI_add, show (1 : Int32) = nI 1 from rfl, pk_sub (by omega)]
        congr 1
        omega
      have h1 : ¬ nI j < 16 := nI_nlt (a := j) (b := 16) (by omega) hj
      have h2 : (16 : Int32) + nI n - 1 < nI j := by
        rw [e]
        exact nI_lt (by omega) hj
      have h3 : ¬ nI j < 64 := nI_nlt (a := j) (b := 64) (by omega) hj
      have h4 : (255 : Int32) < nI j := nI_lt (a := 255) (by omega) hj
      rw [rf_big (by omega)]
      simp [h1, h2, h3, h4]
