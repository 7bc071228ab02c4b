/-! The relation between the class's memory and the reference's. -/
abbrev MT : Type := (Nat × Nat × Nat × Nat × Nat × Int32) × (Nat → Nat → Int32)
abbrev pm (P : MT) : Nat := P.1.1
abbrev ph (P : MT) : Nat := P.1.2.1
abbrev pg (P : MT) : Nat := P.1.2.2.1
abbrev pL (P : MT) : Nat := P.1.2.2.2.1
abbrev pS (P : MT) : Nat := P.1.2.2.2.2.1
abbrev pr (P : MT) : Int32 := P.1.2.2.2.2.2
theorem nI_m1 {j : Nat} (h : j < 2 ^ 31) : ¬ nI j = -1 := fun z => by
  have e : (nI j).toInt = (-1 : Int32).toInt := by rw [z]
  rw [nI_toInt h, show (-1 : Int32).toInt = -1 by decide] at e
  omega
def MOk (P : MT) : Prop := pm P ≤ 48 ∧ ph P ≤ 3 ∧ pg P ≤ 6 ∧ pL P ≤ 12 ∧ pS P ≤ 12 ∧ (∀ k, k < 48 → ∃ o, o ≤ 30 ∧ P.2 0 k = nI o) ∧ (∀ k, k < pg P → ∃ j, 1 ≤ j ∧ j < 256 ∧ P.2 7 k = nI j) ∧ ¬ pr P = -1
def CMe (P : MT) (M : Mm) : Prop := M.1 4 0 3 = nI (pm P) ∧ M.1 4 0 8 = nI (ph P) ∧ M.1 4 0 10 = nI (pg P) ∧ M.1 4 0 11 = pr P ∧ M.1 4 0 12 = nI (pL P) ∧ M.1 4 0 13 = nI (pS P) ∧ (∀ k, k < 48 → M.1 5 0 k = P.2 0 k ∧ M.1 6 0 k = P.2 1 k ∧ M.1 7 0 k = P.2 2 k) ∧ (∀ k, k < 3 → M.1 8 0 k = P.2 3 k ∧ M.1 9 0 k = P.2 4 k ∧ M.1 10 0 k = P.2 5 k ∧ M.1 11 0 k = P.2 6 k) ∧ ∀ k, k < 6 → M.1 12 0 k = P.2 7 k
def DMe (P : MT) (M : Mm) : Prop := M.1 30 0 11 = nI (pm P) ∧ M.1 30 0 12 = nI (ph P) ∧ M.1 30 0 13 = nI (pg P) ∧ M.1 30 0 14 = pr P ∧ M.1 30 0 15 = nI (pL P) ∧ M.1 30 0 16 = nI (pS P) ∧ (∀ k, k < 48 → M.1 33 0 k = P.2 0 k ∧ M.1 34 0 k = P.2 1 k ∧ M.1 35 0 k = P.2 2 k) ∧ (∀ k, k < 3 → M.1 36 0 k = P.2 3 k ∧ M.1 37 0 k = P.2 4 k ∧ M.1 38 0 k = P.2 5 k ∧ M.1 39 0 k = P.2 6 k) ∧ ∀ k, k < 6 → M.1 40 0 k = P.2 7 k
/-- a STATE as the class holds it (frame i) and as the reference does (INSTRUCTION g) -/
def FRel (Mc : Mm) (i : Nat) (Mr : Mm) (g : Nat) : Prop := ∃ d : Nat, d ≤ 12 ∧ Mc.1 19 i 2 = nI d ∧ Mr.1 45 0 g = nI d ∧ (∀ j, j < 12 → Mc.1 20 i j = Mr.1 43 0 (12 * g + j)) ∧ (∀ j, j < d → Mc.1 21 i j = Mr.1 44 0 (12 * g + j)) ∧ Mc.2 19 i 3 = Mr.2 47 0 g ∧ (∀ b, 48 ≤ b → bq (Mr.2 47 0 g) b = false) ∧ ∀ b, b < 48 → bq (Mr.2 47 0 g) b = true → Mc.1 22 i b = Mr.1 46 0 (48 * g + b)
/-- in a part: a STATE that the class holds has a depth that fits -/
def RF (Mc _Mr : Mm) : Prop := ∀ k, k < 48 → ¬ Mc.1 16 0 k = 0 → ∃ d, d ≤ 12 ∧ Mc.1 19 (k + 2) 2 = nI d
def Rel (Mc Mr : Mm) : Prop := (∃ n sup fc, TOk n sup fc ∧ TCl n sup fc Mc ∧ TRe n sup fc Mr) ∧ (∃ P, MOk P ∧ CMe P Mc ∧ DMe P Mr) ∧ RF Mc Mr
/-- only THE METHOD changed -/
def KM (Mc Mc' : Mm) : Prop := (∀ t i k, (t < 4 ∨ 12 < t) → Mc'.1 t i k = Mc.1 t i k) ∧ Mc'.2 = Mc.2
def KN (Mr Mr' : Mm) : Prop := (∀ k, (k < 11 ∨ 16 < k) → Mr'.1 30 0 k = Mr.1 30 0 k) ∧ (∀ t i k, (t < 30 ∨ t = 31 ∨ t = 32 ∨ 40 < t) → Mr'.1 t i k = Mr.1 t i k) ∧ Mr'.2 = Mr.2
theorem TCl_cg {n : Nat} {sup : Nat → Nat} {fc : Nat → Int32} {M M' : Mm} (h : TCl n sup fc M) (e : ∀ t i k, 0 < t → t < 4 → M'.1 t i k = M.1 t i k) : TCl n sup fc M' := by
  refine ⟨?_, fun c hc => ?_, fun c hc d hd => ?_⟩
  · rw [e 1 0 2 (by decide) (by decide)]
    exact h.1
  · rw [e 3 0 c (by decide) (by decide)]
    exact h.2.1 c hc
  · rw [e 2 0 c (by decide) (by decide)]
    exact h.2.2 c hc d hd
theorem TRe_cg {n : Nat} {sup : Nat → Nat} {fc : Nat → Int32} {M M' : Mm} (h : TRe n sup fc M) (e0 : M'.1 30 0 2 = M.1 30 0 2) (e : ∀ t i k, (t = 31 ∨ t = 32) → M'.1 t i k = M.1 t i k) : TRe n sup fc M' := by
  refine ⟨?_, ?_, fun c h0 hc => ?_, fun c hc => ?_⟩
  · rw [e0]
    exact h.1
  · rw [e 31 0 0 (Or.inl rfl)]
    exact h.2.1
  · rw [e 31 0 c (Or.inl rfl)]
    exact h.2.2.1 c h0 hc
  · rw [e 32 0 c (Or.inr rfl)]
    exact h.2.2.2 c hc
theorem FRel_cg {Mc Mc' Mr Mr' : Mm} {i g : Nat} (h : FRel Mc i Mr g) (e1 : ∀ t k, 19 ≤ t → Mc'.1 t i k = Mc.1 t i k) (e2 : Mc'.2 19 i 3 = Mc.2 19 i 3) (e3 : ∀ t k, 43 ≤ t → Mr'.1 t 0 k = Mr.1 t 0 k) (e4 : Mr'.2 47 0 g = Mr.2 47 0 g) : FRel Mc' i Mr' g := by
  obtain ⟨d, h1, h2, h3, h4, h5, h6, h7, h8⟩ := h
  refine ⟨d, h1, ?_, ?_, fun j hj => ?_, fun j hj => ?_, ?_, ?_, fun b hb hq => ?_⟩
  · rw [e1 19 2 (by decide)]
    exact h2
  · rw [e3 45 g (by decide)]
    exact h3
  · rw [e1 20 j (by decide), e3 43 _ (by decide)]
    exact h4 j hj
  · rw [e1 21 j (by decide), e3 44 _ (by decide)]
    exact h5 j hj
  · rw [e2, e4]
    exact h6
  · rw [e4]
    exact h7
  · rw [e4] at hq
    rw [e1 22 b (by decide), e3 46 _ (by decide)]
    exact h8 b hb hq
theorem RF_cg {Mc Mc' Mr Mr' : Mm} (h : RF Mc Mr) (hc : KM Mc Mc') (hr : KN Mr Mr') : RF Mc' Mr' := by
  have c := hc.1
  intro k hk z
  rw [c 16 0 k (by omega)] at z
  obtain ⟨d, d1, d2⟩ := h k hk z
  refine ⟨d, d1, ?_⟩
  rw [c 19 (k + 2) 2 (by omega)]
  exact d2
theorem Rel_m {Mc Mc' Mr Mr' : Mm} (h : Rel Mc Mr) (hc : KM Mc Mc') (hr : KN Mr Mr') {P : MT} (h1 : MOk P) (h2 : CMe P Mc') (h3 : DMe P Mr') : Rel Mc' Mr' := by
  obtain ⟨⟨n, sup, fc, t1, t2, t3⟩, -, f⟩ := h
  exact ⟨⟨n, sup, fc, t1, TCl_cg t2 (fun t i k _ ht => hc.1 t i k (by omega)), TRe_cg t3 (hr.1 2 (by omega)) (fun t i k ht => hr.2.1 t i k (by omega))⟩, ⟨P, h1, h2, h3⟩, RF_cg f hc hr⟩
def vl (n : Nat) (v : Int32) : Bool := (decide (¬ v < 1) && decide (v ≤ 4)) || rf n v
theorem e_isValueC {n : Nat} {sup : Nat → Nat} {fc : Nat → Int32} {M : Mm} (hT : TOk n sup fc) (h : TCl n sup fc M) (v : Int32) : P_T_isValue v M = if vl n v then 1 else 0 := by
  unfold P_T_isValue P_T_isValue_b10 vl
  simp only [lt_v, e_isRefC hT h]
  by_cases c1 : v < 1
  · cases rf n v <;> simp [c1]
  · by_cases c2 : v ≤ 4
    · simp [c1, c2]
    · cases rf n v <;> simp [c1, c2]
theorem nle4 {v a : Int32} : v ≤ a ↔ ¬ a < v := Int32.not_lt.symm
theorem e_isPlainD {n : Nat} {sup : Nat → Nat} {fc : Nat → Int32} {M : Mm} (hT : TOk n sup fc) (h : TRe n sup fc M) (v : Int32) : P_D_isPlain v M = if vl n v then 1 else 0 := by
  unfold P_D_isPlain vl
  simp only [lt_v, e_isRefD hT h, inD]
  by_cases c1 : v < 1
  · cases rf n v <;> simp [c1]
  · by_cases c2 : (4 : Int32) < v
    · have c3 : ¬ v ≤ 4 := fun q => nle4.mp q c2
      cases rf n v <;> simp [c1, c2, c3]
    · have c3 : v ≤ 4 := nle4.mpr c2
      simp [c1, c2, c3]
theorem vl_sm {n : Nat} {v : Int32} (h : vl n v = true) : ∃ j, 1 ≤ j ∧ j < 256 ∧ v = nI j := by
  unfold vl at h
  simp only [Bool.or_eq_true, Bool.and_eq_true, decide_eq_true_eq] at h
  rcases h with ⟨h1, h2⟩ | h
  · have h0 : ¬ v < 0 := fun q => h1 (by
      rw [Int32.lt_iff_toInt_lt] at q ⊢
      exact Int.lt_trans q (by decide))
    obtain ⟨j, hj, rfl⟩ := nI_of2 (M := 4) (n := 4) (by decide) h0 h2
    refine ⟨j, ?_, by omega, rfl⟩
    rcases Nat.eq_zero_or_pos j with rfl | q
    · exact absurd (by decide) h1
    · exact q
  · obtain ⟨i, h1, h2, h3, h4⟩ := rf_pos h
    exact ⟨i, by omega, h1, h2⟩
