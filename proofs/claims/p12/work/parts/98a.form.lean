/-! FORM: class and reference find the same. -/
theorem ite_cg {α : Type} {c : Prop} [Decidable c] {a a' b b' : α} (h1 : c → a = a') (h2 : ¬ c → b = b') : (if c then a else b) = if c then a' else b' := by
  by_cases h : c
  · rw [if_pos h, if_pos h, h1 h]
  · rw [if_neg h, if_neg h, h2 h]
theorem e_formed {n : Nat} {sup : Nat → Nat} {fc : Nat → Int32} {P : MT} {Mc Mr : Mm} (hT : TOk n sup fc) (hC : TCl n sup fc Mc) (hR : TRe n sup fc Mr) (hO : MOk P) (hP : CMe P Mc) (hD : DMe P Mr) (o a b : Int32) : P_O_isWellFormed o a b Mc = P_D_isFormed o a b Mr := by
  have hm := hO.1
  have hL := hO.2.2.2.1
  have hn := hT.2.1
  have l1 : ∀ v, P_M_hasLocal v Mc = P_D_in v 0 ((Mr.1 30 0 15) - 1) Mr := fun v => by
    rw [e_inN hD.2.2.2.2.1 (by omega)]
    exact e_hasI hP.2.2.2.2.1 (by omega)
  have l2 : ∀ v, P_M_hasInstruction v Mc = P_D_isGoal v Mr := fun v => by
    unfold P_D_isGoal
    rw [lt_v, e_inN hD.1 (by omega)]
    exact e_hasI hP.1 (by omega)
  have l3 : ∀ v, P_T_hasClass v Mc = P_D_in v 0 ((Mr.1 30 0 2) - 1) Mr := fun v => by
    rw [e_inN hR.1 (by omega)]
    exact e_hasI hC.1 (by omega)
  have l4 : ∀ v, P_T_isValue v Mc = P_D_isPlain v Mr := fun v => by
    rw [e_isValueC hT hC, e_isPlainD hT hR]
  have l5 : ∀ v, P_T_isRef v Mc = P_D_isRef v Mr := fun v => by
    rw [e_isRefC hT hC, e_isRefD hT hR]
  have l6 : ∀ v, P_O_isNumber v Mc = P_D_in v 1 4 Mr := fun v => rfl
  have l7 : ∀ v, P_T_isRow v Mc = (if P_D_isRef v Mr = 0 then 0 else (if v < 64 then 0 else 1)) := fun v => by
    unfold P_T_isRow
    rw [lt_v, l5]
    have z := e_isRefD hT hR v
    by_cases c : v < 64
    · rw [if_pos c]
      split <;> simp [c]
    · rw [if_neg c]
      split <;> simp [c]
  unfold P_O_isWellFormed P_D_isFormed
  simp only [lt_v, l1, l2, l3, l4, l5, l6, l7]
  refine ite_cg (fun _ => rfl) (fun _ => ?_)
  refine ite_cg (fun _ => rfl) (fun _ => ?_)
  refine ite_cg (fun _ => rfl) (fun _ => ?_)
  refine ite_cg (fun _ => rfl) (fun _ => ?_)
  refine ite_cg (fun _ => rfl) (fun _ => ?_)
  refine ite_cg (fun _ => rfl) (fun _ => ?_)
  refine ite_cg (fun _ => rfl) (fun _ => ?_)
  refine ite_cg (fun _ => rfl) (fun _ => ?_)
  refine ite_cg (fun _ => rfl) (fun _ => ?_)
  refine ite_cg (fun _ => rfl) (fun _ => ?_)
  refine ite_cg (fun _ => rfl) (fun _ => ?_)
  refine ite_cg (fun _ => rfl) (fun _ => ?_)
  refine ite_cg (fun _ => rfl) (fun _ => ?_)
  refine ite_cg (fun _ => rfl) (fun _ => ?_)
  refine ite_cg (fun _ => rfl) (fun _ => ?_)
  refine ite_cg (fun _ => rfl) (fun _ => ?_)
  refine ite_cg (fun _ => rfl) (fun _ => ?_)
  refine ite_cg (fun _ => rfl) (fun _ => ?_)
  refine ite_cg (fun _ => rfl) (fun _ => ?_)
  refine ite_cg (fun _ => rfl) (fun _ => ?_)
  refine ite_cg (fun _ => rfl) (fun _ => ?_)
  refine ite_cg (fun _ => rfl) (fun _ => ?_)
  refine ite_cg (fun _ => rfl) (fun _ => ?_)
  refine ite_cg (fun _ => rfl) (fun _ => ?_)
  refine ite_cg (fun _ => rfl) (fun _ => ?_)
  refine ite_cg (fun _ => ?_) (fun _ => rfl)
  refine ite_cg (fun _ => rfl) (fun _ => ?_)
  by_cases c : (192 : Int32) ≤ a
  · rw [if_pos c]
    split <;> simp [c]
  · rw [if_neg c]
    split <;> simp [c]
/-- what FORM says of an INSTRUCTION -/
def Fm (P : MT) (Mr : Mm) (k : Nat) : Prop := ¬ P_D_isFormed (P.2 0 k) (P.2 1 k) (P.2 2 k) Mr = 0
/-- what FORM says of a HANDLER -/
def Hg (n : Nat) (sup : Nat → Nat) (P : MT) (h : Nat) : Prop := ¬ P.2 3 h < 0 ∧ ¬ P.2 4 h ≤ P.2 3 h ∧ ¬ nI (pm P) < P.2 4 h ∧ gl (pm P) (P.2 5 h) = true ∧ gl n (P.2 6 h) = true ∧ bl sup (P.2 6 h).toNatClampNeg 1 = true
theorem e_handlerC {n : Nat} {sup : Nat → Nat} {fc : Nat → Int32} {P : MT} {Mc : Mm} {h : Nat} (hT : TOk n sup fc) (hC : TCl n sup fc Mc) (hO : MOk P) (hP : CMe P Mc) (hh : h < 3) : ∃ r, F_O_isHandlerWellFormed (nI h) Mc = some (r, Mc) ∧ fg r (Hg n sup P h) := by
  have hm := hO.1
  have hn := hT.2.1
  obtain ⟨p1, p2, p3, p4⟩ := hP.2.2.2.2.2.2.2.1 h hh
  unfold F_O_isHandlerWellFormed F_O_isHandlerWellFormed_b57 F_O_isHandlerWellFormed_b58 Hg
  rw [bnd_nI hh (by decide), bnd_nI hh (by decide), bnd_nI hh (by decide), bnd_nI hh (by decide), bnd_nI hh (by decide), bnd_nI hh (by decide), nI_clamp (by omega), p1, p2, p3, p4, hP.1, if_pos (rfl : (0 : Int32) = 0), if_neg (show ¬ (1 : Int32) = 0 by decide)]
  by_cases c1 : P.2 3 h < 0
  · rw [if_pos c1]
    exact ⟨0, rfl, fg.n (fun z => z.1 c1)⟩
  rw [if_neg c1]
  by_cases c2 : P.2 4 h ≤ P.2 3 h
  · rw [if_pos c2]
    exact ⟨0, rfl, fg.n (fun z => z.2.1 c2)⟩
  rw [if_neg c2]
  by_cases c3 : nI (pm P) < P.2 4 h
  · rw [if_pos c3]
    exact ⟨0, rfl, fg.n (fun z => z.2.2.1 c3)⟩
  rw [if_neg c3, lt_v, lt_v, lt_v, show P_M_hasInstruction (P.2 5 h) Mc = _ from e_hasI hP.1 (by omega), show P_T_hasClass (P.2 6 h) Mc = _ from e_hasI hC.1 (by omega)]
  by_cases c4 : gl (pm P) (P.2 5 h) = true
  · rw [if_pos c4, if_neg (by decide)]
    by_cases c5 : gl n (P.2 6 h) = true
    · rw [if_pos c5, if_neg (by decide)]
      obtain ⟨c, e1, e2, e3⟩ := gl_sm c5
      have e4 := e_isBelowC (c := c) (d := 1) hT hC (by omega) e1
      rw [e3, show F_T_isBelow (nI c) 1 Mc = _ from e4, bd_some, nI_clamp (by omega)]
      by_cases c6 : bl sup c 1 = true
      · rw [if_pos c6, if_neg (by decide)]
        exact ⟨1, rfl, fg.y ⟨c1, c2, c3, c4, by rw [← e3]; exact c5, c6⟩⟩
      · rw [if_neg c6, if_pos rfl]
        exact ⟨0, rfl, fg.n (fun z => c6 z.2.2.2.2.2)⟩
    · rw [if_neg c5, if_pos rfl]
      exact ⟨0, rfl, fg.n (fun z => c5 z.2.2.2.2.1)⟩
  · rw [if_neg c4, if_pos rfl]
    exact ⟨0, rfl, fg.n (fun z => c4 z.2.2.2.1)⟩
theorem e_handlerD {n : Nat} {sup : Nat → Nat} {fc : Nat → Int32} {P : MT} {Mr : Mm} {h : Nat} (m : Nat) (hT : TOk n sup fc) (hR : TRe n sup fc Mr) (hO : MOk P) (hD : DMe P Mr) (hh : h < 3) (hp : h < ph P) : (Hg n sup P h → F_D_form_b64 (m + 1) (nI h) Mr = F_D_form_b64 m (nI (h + 1)) Mr) ∧ (¬ Hg n sup P h → F_D_form_b64 (m + 1) (nI h) Mr = F_D_form_b155 (F_D_form_b64 m) (nI h) Mr) := by
  have hm := hO.1
  have hn := hT.2.1
  have hph := hO.2.1
  obtain ⟨p1, p2, p3, p4⟩ := hD.2.2.2.2.2.2.2.1 h hh
  rw [F_D_form_b64, hD.2.1, if_neg (nI_ge hp (by omega)), bnd_nI hh (by decide), bnd_nI hh (by decide), bnd_nI hh (by decide), bnd_nI hh (by decide), bnd_nI hh (by decide), bnd_nI hh (by decide), bnd_nI hh (by decide), nI_clamp (by omega), p1, p2, p3, p4, hD.1]
  unfold Hg
  by_cases c1 : P.2 3 h < 0
  · rw [if_pos c1]
    exact ⟨fun z => absurd c1 z.1, fun _ => rfl⟩
  rw [if_neg c1]
  by_cases c2 : P.2 4 h ≤ P.2 3 h
  · rw [if_pos c2]
    exact ⟨fun z => absurd c2 z.2.1, fun _ => rfl⟩
  rw [if_neg c2]
  by_cases c3 : nI (pm P) < P.2 4 h
  · rw [if_pos c3]
    exact ⟨fun z => absurd c3 z.2.2.1, fun _ => rfl⟩
  have e5 : P_D_isGoal (P.2 5 h) Mr = if gl (pm P) (P.2 5 h) then 1 else 0 := by
    unfold P_D_isGoal
    rw [lt_v, e_inN hD.1 (by omega)]
  have e6 : P_D_in (P.2 6 h) 0 (Mr.1 30 0 2 - 1) Mr = if gl n (P.2 6 h) then 1 else 0 := e_inN hR.1 (by omega)
  rw [if_neg c3, lt_v, lt_v, e5, e6]
  by_cases c4 : gl (pm P) (P.2 5 h) = true
  · rw [if_pos c4, if_neg (by decide)]
    by_cases c5 : gl n (P.2 6 h) = true
    · rw [if_pos c5, if_neg (by decide)]
      obtain ⟨c, e1, e2, e3⟩ := gl_sm c5
      have e4 := e_isBelowD (c := c) (d := 1) hT hR (by omega) e1
      rw [e3, show F_D_isBelow (nI c) 1 Mr = _ from e4, bd_some, nI_clamp (by omega)]
      by_cases c6 : bl sup c 1 = true
      · rw [if_pos c6, if_neg (by decide), F_D_form_b164, lt_v, nI_1]
        exact ⟨fun _ => rfl, fun z => absurd ⟨c1, c2, c3, c4, by rw [← e3]; exact c5, c6⟩ z⟩
      · rw [if_neg c6, if_pos rfl]
        exact ⟨fun z => absurd z.2.2.2.2.2 c6, fun _ => rfl⟩
    · rw [if_neg c5, if_pos rfl]
      exact ⟨fun z => absurd z.2.2.2.2.1 c5, fun _ => rfl⟩
  · rw [if_neg c4, if_pos rfl]
    exact ⟨fun z => absurd z.2.2.2.1 c4, fun _ => rfl⟩
theorem e_args {P : MT} {M : Mm} (hO : MOk P) (hD : DMe P M) : ∀ n k, pg P < k + n → k ≤ pg P → F_D_form_b174 n (nI (argL P k).1) (nI k) M = if (argL P (pg P)).1 ≤ pL P then some M else bv (F_D_fail 1 200 M) (fun M10 => some M10) := by
  have hg := hO.2.2.1
  have hL := hO.2.2.2.1
  have b12 : ∀ k, k ≤ 6 → (argL P k).1 ≤ 2 * k := by
    intro k
    induction k with
    | zero => exact fun _ => Nat.le_refl _
    | succ k ih =>
      intro hk
      have := ih (by omega)
      have w := (wid_1 (P.2 7 k)).2
      show (argL P k).1 + wid (P.2 7 k) ≤ 2 * (k + 1)
      omega
  intro n
  induction n with
  | zero =>
    intro k q1 q2
    omega
  | succ n ih =>
    intro k q1 q2
    rw [F_D_form_b174, hD.2.2.1]
    by_cases c : k = pg P
    · have b := b12 k (by omega)
      rw [c] at b
      rw [c, if_pos (nI_le (Nat.le_refl _) (by omega)), hD.2.2.2.2.1]
      by_cases c2 : (argL P (pg P)).1 ≤ pL P
      · rw [if_pos (nI_le c2 (by omega)), if_pos c2]
      · rw [if_neg (nI_ge (by omega) (by omega)), if_neg c2]
    · rw [if_neg (nI_ge (by omega) (by omega)), bnd_nI (by omega) (by decide), lt_v, nI_clamp (by omega), hD.2.2.2.2.2.2.2.2 k (by omega), e_wideD]
      have e : ∀ x : Int32, x = nI (wid (P.2 7 k)) → F_D_form_b200 (F_D_form_b174 n) (nI k) (nI (argL P k).1) x M = F_D_form_b174 n (nI (argL P (k + 1)).1) (nI (k + 1)) M := by
        intro x hx
        rw [F_D_form_b200, lt_v, lt_v, hx, nI_add, nI_1]
        rfl
      by_cases c3 : P.2 7 k = 3 ∨ P.2 7 k = 4
      · rw [if_pos c3, if_neg (by decide), e 2 (by rw [wid2.mpr c3]; rfl)]
        exact ih (k + 1) (by omega) (by omega)
      · have w1 : wid (P.2 7 k) = 1 := by
          have := wid_1 (P.2 7 k)
          have w2 : ¬ wid (P.2 7 k) = 2 := fun z => c3 (wid2.mp z)
          omega
        rw [if_neg c3, if_pos rfl, e 1 (by rw [w1]; rfl)]
        exact ih (k + 1) (by omega) (by omega)
theorem e_argsC {P : MT} {M : Mm} (hO : MOk P) (hP : CMe P M) : ∀ n k, pg P < k + n → k ≤ pg P → F_O_haveArgumentsRoom_b4 n (nI (argL P k).1) (nI k) M = if (argL P (pg P)).1 ≤ pL P then some (1, M) else some (0, M) := by
  have hg := hO.2.2.1
  have hL := hO.2.2.2.1
  have b12 : ∀ k, k ≤ 6 → (argL P k).1 ≤ 2 * k := by
    intro k
    induction k with
    | zero => exact fun _ => Nat.le_refl _
    | succ k ih =>
      intro hk
      have := ih (by omega)
      have w := (wid_1 (P.2 7 k)).2
      show (argL P k).1 + wid (P.2 7 k) ≤ 2 * (k + 1)
      omega
  intro n
  induction n with
  | zero =>
    intro k q1 q2
    omega
  | succ n ih =>
    intro k q1 q2
    rw [F_O_haveArgumentsRoom_b4, hP.2.2.1]
    by_cases c : k = pg P
    · have b := b12 k (by omega)
      rw [c] at b
      rw [c, if_pos (nI_le (Nat.le_refl _) (by omega)), hP.2.2.2.2.1]
      by_cases c2 : (argL P (pg P)).1 ≤ pL P
      · rw [if_neg (nI_nlt c2 (by omega)), if_pos c2]
      · rw [if_pos (nI_lt (by omega) (by omega)), if_neg c2]
    · rw [if_neg (nI_ge (by omega) (by omega)), bnd_nI (by omega) (by decide), lt_v, lt_v, lt_v, nI_clamp (by omega), hP.2.2.2.2.2.2.2.2 k (by omega), e_width, nI_add, nI_1]
      exact ih (k + 1) (by omega) (by omega)
/-- once something was found, the reference goes on and finds nothing more -/
theorem e_past64 {n : Nat} {sup : Nat → Nat} {fc : Nat → Int32} {P : MT} {M : Mm} (hT : TOk n sup fc) (hR : TRe n sup fc M) (hO : MOk P) (hD : DMe P M) (hf : ¬ M.1 30 0 34 ≤ 0) : ∀ m h, ph P < h + m → h ≤ ph P → F_D_form_b64 m (nI h) M = some M := by
  have hph := hO.2.1
  have hg := hO.2.2.1
  intro m
  induction m with
  | zero =>
    intro h q1 q2
    omega
  | succ m ih =>
    intro h q1 q2
    by_cases c : h = ph P
    · rw [F_D_form_b64, hD.2.1, c, if_pos (nI_le (Nat.le_refl _) (by omega))]
      have e := e_args hO hD fuel 0 (by show pg P < 0 + 100000; omega) (by omega)
      rw [show F_D_form_b174 fuel 0 0 M = _ from e, e_fail1 hf, bv_some]
      split <;> rfl
    · obtain ⟨a1, a2⟩ := e_handlerD m hT hR hO hD (show h < 3 by omega) (by omega)
      by_cases c2 : Hg n sup P h
      · rw [a1 c2]
        exact ih (h + 1) (by omega) (by omega)
      · rw [a2 c2, F_D_form_b155, e_fail1 hf, bv_some, F_D_form_b164, lt_v, nI_1]
        exact ih (h + 1) (by omega) (by omega)
theorem e_past15 {n : Nat} {sup : Nat → Nat} {fc : Nat → Int32} {P : MT} {M : Mm} (hT : TOk n sup fc) (hR : TRe n sup fc M) (hO : MOk P) (hD : DMe P M) (hf : ¬ M.1 30 0 34 ≤ 0) : ∀ m k, pm P < k + m → k ≤ pm P → F_D_form_b15 m (nI k) M = some M := by
  have hph := hO.2.1
  have hm := hO.1
  intro m
  induction m with
  | zero =>
    intro h q1 q2
    omega
  | succ m ih =>
    intro h q1 q2
    rw [F_D_form_b15, hD.1]
    by_cases c : h = pm P
    · rw [c, if_pos (nI_le (Nat.le_refl _) (by omega))]
      exact e_past64 hT hR hO hD hf fuel 0 (by show ph P < 0 + 100000; omega) (by omega)
    · rw [if_neg (nI_ge (by omega) (by omega)), bnd_nI (by omega) (by decide), bnd_nI (by omega) (by decide), bnd_nI (by omega) (by decide), lt_v, e_fail1 hf, bv_some, F_D_form_b56, lt_v, nI_1, ih (h + 1) (by omega) (by omega)]
      split <;> rfl
def Fo (Mc Mr : Mm) (oc : Option (Int32 × Mm)) (od : Option Mm) (Q : Prop) : Prop := (∃ p : Nat, p ≤ 200 ∧ oc = some (nI p, Mc) ∧ od = some (sI (sI Mr 30 0 34 1) 30 0 35 (nI p))) ∨ (oc = some (-1, Mc) ∧ od = some Mr ∧ Q)
abbrev Sff (t k : Nat) : Prop := t = 30 ∧ (k = 34 ∨ k = 35)
theorem kff {M : Mm} {v w : Int32} : KX Sff No2 M (sI (sI M 30 0 34 v) 30 0 35 w) := kx_i (kx_i KX.rf (by omega)) (by omega)
theorem pff {M : Mm} {w : Int32} : ¬ (sI (sI M 30 0 34 1) 30 0 35 w).1 30 0 34 ≤ 0 := by
  rw [sI1, if_neg (by omega), sI1, if_pos ⟨rfl, rfl, rfl⟩]
  decide
theorem fo69 {n : Nat} {sup : Nat → Nat} {fc : Nat → Int32} {P : MT} {Mc Mr : Mm} (hT : TOk n sup fc) (hC : TCl n sup fc Mc) (hR : TRe n sup fc Mr) (hO : MOk P) (hP : CMe P Mc) (hD : DMe P Mr) (h0 : Mr.1 30 0 34 = 0) : ∀ m h, ph P < h + m → h ≤ ph P → (∀ i, i < h → Hg n sup P i) → Fo Mc Mr (F_O_findFault_b69 m (nI h) Mc) (F_D_form_b64 m (nI h) Mr) ((∀ i, i < ph P → Hg n sup P i) ∧ (argL P (pg P)).1 ≤ pL P) := by
  have hph := hO.2.1
  have hg := hO.2.2.1
  intro m
  induction m with
  | zero =>
    intro h q1 q2
    omega
  | succ m ih =>
    intro h q1 q2 q3
    by_cases c : h = ph P
    · rw [F_O_findFault_b69, F_D_form_b64, hP.2.1, hD.2.1, c, if_pos (nI_le (Nat.le_refl _) (by omega)), if_pos (nI_le (Nat.le_refl _) (by omega))]
      rw [c] at q3
      have e := e_args hO hD fuel 0 (by show pg P < 0 + 100000; omega) (by omega)
      have e' := e_argsC hO hP fuel 0 (by show pg P < 0 + 100000; omega) (by omega)
      unfold F_O_haveArgumentsRoom
      rw [show F_D_form_b174 fuel 0 0 Mr = _ from e, show F_O_haveArgumentsRoom_b4 fuel 0 0 Mc = _ from e', e_fail h0, bv_some]
      by_cases c2 : (argL P (pg P)).1 ≤ pL P
      · rw [if_pos c2, if_pos c2, bd_some, if_neg (by decide)]
        exact Or.inr ⟨rfl, rfl, q3, c2⟩
      · rw [if_neg c2, if_neg c2, bd_some, if_pos rfl]
        exact Or.inl ⟨200, by omega, rfl, rfl⟩
    · obtain ⟨a1, a2⟩ := e_handlerD m hT hR hO hD (show h < 3 by omega) (by omega)
      obtain ⟨r, b1, b2⟩ := e_handlerC hT hC hO hP (show h < 3 by omega)
      rw [F_O_findFault_b69, hP.2.1, if_neg (nI_ge (show h < ph P by omega) (by omega)), b1, bd_some]
      by_cases c2 : Hg n sup P h
      · rw [a1 c2, if_neg (fun z => b2.z.mp z c2), lt_v, nI_1]
        refine ih (h + 1) (by omega) (by omega) (fun i hi => ?_)
        by_cases w : i = h
        · rw [w]
          exact c2
        · exact q3 i (by omega)
      · rw [a2 c2, if_pos (b2.z.mpr c2), F_D_form_b155, e_fail h0, bv_some, F_D_form_b164, lt_v, nI_1, show (100 : Int32) + nI h = nI (100 + h) by rw [show (100 : Int32) = nI 100 from rfl, nI_add]]
        refine Or.inl ⟨100 + h, by omega, rfl, ?_⟩
        exact e_past64 hT (TRe_kx hR kff (fun t c q z => by omega)) hO (DMe_kx hD kff (fun t c q z => by omega)) pff m (h + 1) (by omega) (by omega)
theorem fo14 {n : Nat} {sup : Nat → Nat} {fc : Nat → Int32} {P : MT} {Mc Mr : Mm} (hT : TOk n sup fc) (hC : TCl n sup fc Mc) (hR : TRe n sup fc Mr) (hO : MOk P) (hP : CMe P Mc) (hD : DMe P Mr) (h0 : Mr.1 30 0 34 = 0) : ∀ m k, pm P < k + m → k ≤ pm P → (∀ i, i < k → Fm P Mr i) → Fo Mc Mr (F_O_findFault_b14 m (nI k) Mc) (F_D_form_b15 m (nI k) Mr) ((∀ i, i < pm P → Fm P Mr i) ∧ (∀ i, i < ph P → Hg n sup P i) ∧ (argL P (pg P)).1 ≤ pL P) := by
  have hph := hO.2.1
  have hm := hO.1
  intro m
  induction m with
  | zero =>
    intro h q1 q2
    omega
  | succ m ih =>
    intro h q1 q2 q3
    rw [F_O_findFault_b14, F_D_form_b15, hP.1, hD.1]
    simp only [lt_v]
    by_cases c : h = pm P
    · rw [c] at q3
      rw [c, if_pos (nI_le (Nat.le_refl _) (by omega)), if_pos (nI_le (Nat.le_refl _) (by omega))]
      rcases fo69 hT hC hR hO hP hD h0 fuel 0 (by show ph P < 0 + 100000; omega) (by omega) (fun i hi => absurd hi (Nat.not_lt_zero i)) with z | z
      · exact Or.inl z
      · exact Or.inr ⟨z.1, z.2.1, q3, z.2.2⟩
    · obtain ⟨p1, p2, p3⟩ := hP.2.2.2.2.2.2.1 h (by omega)
      obtain ⟨d1, d2, d3⟩ := hD.2.2.2.2.2.2.1 h (by omega)
      rw [if_neg (nI_ge (show h < pm P by omega) (by omega)), if_neg (nI_ge (show h < pm P by omega) (by omega)), bnd_nI (by omega) (by decide), bnd_nI (by omega) (by decide), bnd_nI (by omega) (by decide), bnd_nI (by omega) (by decide), bnd_nI (by omega) (by decide), bnd_nI (by omega) (by decide), nI_clamp (by omega), p1, p2, p3, d1, d2, d3, e_formed hT hC hR hO hP hD]
      by_cases c2 : P_D_isFormed (P.2 0 h) (P.2 1 h) (P.2 2 h) Mr = 0
      · rw [if_pos c2, if_pos c2, e_fail h0, bv_some, F_D_form_b56, lt_v, nI_1]
        refine Or.inl ⟨h, by omega, rfl, ?_⟩
        exact e_past15 hT (TRe_kx hR kff (fun t c q z => by omega)) hO (DMe_kx hD kff (fun t c q z => by omega)) pff m (h + 1) (by omega) (by omega)
      · rw [if_neg c2, if_neg c2, F_D_form_b56, lt_v, nI_1]
        refine ih (h + 1) (by omega) (by omega) (fun i hi => ?_)
        by_cases w : i = h
        · rw [w]
          exact c2
        · exact q3 i (by omega)
theorem fo_all {n : Nat} {sup : Nat → Nat} {fc : Nat → Int32} {P : MT} {Mc Mr : Mm} (hT : TOk n sup fc) (hC : TCl n sup fc Mc) (hR : TRe n sup fc Mr) (hO : MOk P) (hP : CMe P Mc) (hD : DMe P Mr) (h0 : Mr.1 30 0 34 = 0) : Fo Mc Mr (F_O_findFault Mc) (F_D_form Mr) (0 < pm P ∧ (∀ i, i < pm P → Fm P Mr i) ∧ (∀ i, i < ph P → Hg n sup P i) ∧ (argL P (pg P)).1 ≤ pL P) := by
  have hm := hO.1
  unfold F_O_findFault F_D_form F_D_form_b13
  rw [hP.1, hD.1]
  by_cases c : pm P = 0
  · rw [if_pos (by rw [c]; rfl), if_pos (by rw [c]; rfl), e_fail h0, bv_some]
    refine Or.inl ⟨0, by omega, rfl, ?_⟩
    exact e_past15 hT (TRe_kx hR kff (fun t c q z => by omega)) hO (DMe_kx hD kff (fun t c q z => by omega)) pff fuel 0 (by show pm P < 0 + 100000; omega) (by omega)
  · rw [if_neg (fun z => c ((nI_eqz (by omega)).mp z)), if_neg (fun z => c ((nI_eqz (by omega)).mp z))]
    rcases fo14 hT hC hR hO hP hD h0 fuel 0 (by show pm P < 0 + 100000; omega) (by omega) (fun i hi => absurd hi (Nat.not_lt_zero i)) with z | z
    · exact Or.inl z
    · exact Or.inr ⟨z.1, z.2.1, by omega, z.2.2⟩
