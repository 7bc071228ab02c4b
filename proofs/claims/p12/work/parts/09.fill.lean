theorem nf_lt (t : Nat) : nf t < 2 ^ 31 := by
  by_cases h : t < 55
  · have h2 : ∀ t, t < 55 → nf t < 2 ^ 31 := by decide +kernel
    exact h2 t h
  · have : nf t = 0 := by
      unfold nf
      rw [List.getD_eq_getElem?_getD, List.getElem?_eq_none (by simp only [List.length_cons, List.length_nil]; omega)]
      rfl
    rw [this]
    decide
def F_fillI (t i : Nat) (v : Int32) (M : Mm) : Mm := sA M t i (fun k => if k < nf t then v else M.1 t i k)
def F_fillJ (t i : Nat) (v : Int64) (M : Mm) : Mm := sB M t i (fun k => if k < nf t then v else M.2 t i k)
theorem fill_stepI {M : Mm} {t i j : Nat} {v : Int32} : sI (sA M t i (fun k => if k < j then v else M.1 t i k)) t i j v = sA M t i (fun k => if k < j + 1 then v else M.1 t i k) := by
  unfold sI sA
  refine Prod.ext ?_ rfl
  funext a b c
  show (if a = t ∧ b = i ∧ c = j then v else if a = t ∧ b = i then (if c < j then v else M.1 t i c) else M.1 a b c) = (if a = t ∧ b = i then (if c < j + 1 then v else M.1 t i c) else M.1 a b c)
  by_cases h1 : a = t ∧ b = i
  · obtain ⟨rfl, rfl⟩ := h1
    by_cases h2 : c = j
    · subst h2
      simp
    · by_cases h3 : c < j
      · simp [h2, h3, show c < j + 1 by omega]
      · simp [h2, h3, show ¬ c < j + 1 by omega]
  · rw [if_neg (fun q => h1 ⟨q.1, q.2.1⟩), if_neg h1, if_neg h1]
theorem fill_stepJ {M : Mm} {t i j : Nat} {v : Int64} : sL (sB M t i (fun k => if k < j then v else M.2 t i k)) t i j v = sB M t i (fun k => if k < j + 1 then v else M.2 t i k) := by
  unfold sL sB
  refine Prod.ext rfl ?_
  funext a b c
  show (if a = t ∧ b = i ∧ c = j then v else if a = t ∧ b = i then (if c < j then v else M.2 t i c) else M.2 a b c) = (if a = t ∧ b = i then (if c < j + 1 then v else M.2 t i c) else M.2 a b c)
  by_cases h1 : a = t ∧ b = i
  · obtain ⟨rfl, rfl⟩ := h1
    by_cases h2 : c = j
    · subst h2
      simp
    · by_cases h3 : c < j
      · simp [h2, h3, show c < j + 1 by omega]
      · simp [h2, h3, show ¬ c < j + 1 by omega]
  · rw [if_neg (fun q => h1 ⟨q.1, q.2.1⟩), if_neg h1, if_neg h1]
theorem fill_0I {M : Mm} {t i : Nat} {v : Int32} : sA M t i (fun k => if k < 0 then v else M.1 t i k) = M := by
  unfold sA
  refine Prod.ext ?_ rfl
  funext a b c
  show (if a = t ∧ b = i then (if c < 0 then v else M.1 t i c) else M.1 a b c) = M.1 a b c
  by_cases h1 : a = t ∧ b = i
  · obtain ⟨rfl, rfl⟩ := h1
    simp
  · rw [if_neg h1]
theorem fill_0J {M : Mm} {t i : Nat} {v : Int64} : sB M t i (fun k => if k < 0 then v else M.2 t i k) = M := by
  unfold sB
  refine Prod.ext rfl ?_
  funext a b c
  show (if a = t ∧ b = i then (if c < 0 then v else M.2 t i c) else M.2 a b c) = M.2 a b c
  by_cases h1 : a = t ∧ b = i
  · obtain ⟨rfl, rfl⟩ := h1
    simp
  · rw [if_neg h1]
set_option maxHeartbeats 4000000 in
set_option maxRecDepth 100000 in
theorem w_fillI {Z : ZT} {X : XT} {S : Nat → Bool} (hL : Lay Z S) {t i : Nat} (hS : S t = true) (hi : i < cnt t) (hck : ck t = 1) {v : Int32} {M : Mm} (h : Ok Z X "java/util/Arrays" c_JA_fillI ws_JA_fillI 4 { frames := 0, cells := 0, slots := 0, locals := 0 }) (hQ : FinV Z X (F_fillI t i v M)) : ∀ (n j : Nat), nf t - j < n → j ≤ nf t → G Z X (sA M t i (fun k => if k < j then v else M.1 t i k)) 5 [(0, .ref (za Z t i)), (1, .int v), (2, .int (nI j)), (3, .int (nI (nf t)))] [] := by
  have hb := nf_lt t
  intro n
  induction n with
  | zero =>
    intro j h1
    omega
  | succ n ih =>
    intro j h1 hj
    refine g_iload_n h d_JA_fillI_5 rfl rfl ?_
    refine g_iload_n h d_JA_fillI_6 rfl rfl ?_
    refine g_icmp_ge (tgt := 20) h d_JA_fillI_7 (by decide) (fun c => ?_) (fun c => ?_)
    · have e : j = nf t := by
        rcases Nat.lt_or_ge j (nf t) with q | q
        · exact absurd c (nI_ge q hb)
        · omega
      rw [e]
      exact g_vret h hQ d_JA_fillI_20 rfl
    · have hlt : j < nf t := by
        rcases Nat.lt_or_ge j (nf t) with q | q
        · exact q
        · exact absurd (nI_le q (by omega)) c
      refine g_aload_n h d_JA_fillI_10 rfl rfl ?_
      refine g_iload_n h d_JA_fillI_11 rfl rfl ?_
      refine g_iload_n h d_JA_fillI_12 rfl rfl ?_
      refine g_iast h hL hS hi hck rfl (vp_in_nI hlt hb) d_JA_fillI_13 ?_
      rw [nI_clamp (by omega), fill_stepI]
      refine g_iinc (n' := 1) (lw := fun y => [(2, .int y), (0, .ref (za Z t i)), (1, .int v), (3, .int (nI (nf t)))]) h d_JA_fillI_14 rfl (by decide) (by decide) (fun _ => rfl) (fun y ey => ?_)
      refine g_goto (tgt := 5) h d_JA_fillI_17 (by decide) ?_
      refine g_sub [1, 2, 0, 3] rfl ?_
      rw [ey, nI_1 j]
      exact ih (j + 1) (by omega) (by omega)
set_option maxHeartbeats 4000000 in
set_option maxRecDepth 100000 in
theorem ct_fillI {Z : ZT} {S : Nat → Bool} (hL : Lay Z S) {t i : Nat} (hS : S t = true) (hi : i < cnt t) (hck : ck t = 1) (v : Int32) (M : Mm) : CtV Z y_JA_fillI ws_JA_fillI { frames := 0, cells := 0, slots := 0, locals := 0 } [.ref (za Z t i), .int v] M (F_fillI t i v M) := by
  refine CtV.of hL (cc := c_JA_fillI) (maxL := 4) (by decide) rfl (Nat.le_of_ble_eq_true rfl) (fun X h hQ => ?_)
  show G Z X M 0 [(0, .ref (za Z t i)), (1, .int v)] []
  refine g_iconst (v := 0) h d_JA_fillI_0 (by decide) ?_
  refine g_istore_n (lv' := [(2, .int 0), (0, .ref (za Z t i)), (1, .int v)]) h d_JA_fillI_1 rfl (by decide) rfl ?_
  refine g_aload_n h d_JA_fillI_2 rfl rfl ?_
  refine g_alenI (v := nI (nf t)) h hL hS hi hck rfl d_JA_fillI_3 ?_
  refine g_istore_n (lv' := [(3, .int (nI (nf t))), (2, .int 0), (0, .ref (za Z t i)), (1, .int v)]) h d_JA_fillI_4 rfl (by decide) rfl ?_
  refine g_sub [2, 3, 1, 0] rfl ?_
  have e := w_fillI hL hS hi hck h hQ (nf t + 1) 0 (by omega) (by omega)
  rw [fill_0I] at e
  exact e
set_option maxHeartbeats 4000000 in
set_option maxRecDepth 100000 in
theorem w_fillJ {Z : ZT} {X : XT} {S : Nat → Bool} (hL : Lay Z S) {t i : Nat} (hS : S t = true) (hi : i < cnt t) (hck : ck t = 3) {v : Int64} {M : Mm} (h : Ok Z X "java/util/Arrays" c_JA_fillJ ws_JA_fillJ 5 { frames := 0, cells := 0, slots := 0, locals := 0 }) (hQ : FinV Z X (F_fillJ t i v M)) : ∀ (n j : Nat), nf t - j < n → j ≤ nf t → G Z X (sB M t i (fun k => if k < j then v else M.2 t i k)) 6 [(0, .ref (za Z t i)), (1, .long v), (3, .int (nI j)), (4, .int (nI (nf t)))] [] := by
  have hb := nf_lt t
  intro n
  induction n with
  | zero =>
    intro j h1
    omega
  | succ n ih =>
    intro j h1 hj
    refine g_iload_n h d_JA_fillJ_6 rfl rfl ?_
    refine g_iload h d_JA_fillJ_7 rfl ?_
    refine g_icmp_ge (tgt := 22) h d_JA_fillJ_9 (by decide) (fun c => ?_) (fun c => ?_)
    · have e : j = nf t := by
        rcases Nat.lt_or_ge j (nf t) with q | q
        · exact absurd c (nI_ge q hb)
        · omega
      rw [e]
      exact g_vret h hQ d_JA_fillJ_22 rfl
    · have hlt : j < nf t := by
        rcases Nat.lt_or_ge j (nf t) with q | q
        · exact q
        · exact absurd (nI_le q (by omega)) c
      refine g_aload_n h d_JA_fillJ_12 rfl rfl ?_
      refine g_iload_n h d_JA_fillJ_13 rfl rfl ?_
      refine g_lload_n h d_JA_fillJ_14 rfl rfl ?_
      refine g_last h hL hS hi hck rfl (vp_in_nI hlt hb) d_JA_fillJ_15 ?_
      rw [nI_clamp (by omega), fill_stepJ]
      refine g_iinc (n' := 1) (lw := fun y => [(3, .int y), (0, .ref (za Z t i)), (1, .long v), (4, .int (nI (nf t)))]) h d_JA_fillJ_16 rfl (by decide) (by decide) (fun _ => rfl) (fun y ey => ?_)
      refine g_goto (tgt := 6) h d_JA_fillJ_19 (by decide) ?_
      refine g_sub [1, 2, 0, 3] rfl ?_
      rw [ey, nI_1 j]
      exact ih (j + 1) (by omega) (by omega)
set_option maxHeartbeats 4000000 in
set_option maxRecDepth 100000 in
theorem ct_fillJ {Z : ZT} {S : Nat → Bool} (hL : Lay Z S) {t i : Nat} (hS : S t = true) (hi : i < cnt t) (hck : ck t = 3) (v : Int64) (M : Mm) : CtV Z y_JA_fillJ ws_JA_fillJ { frames := 0, cells := 0, slots := 0, locals := 0 } [.ref (za Z t i), .long v] M (F_fillJ t i v M) := by
  refine CtV.of hL (cc := c_JA_fillJ) (maxL := 5) (by decide) rfl (Nat.le_of_ble_eq_true rfl) (fun X h hQ => ?_)
  show G Z X M 0 [(0, .ref (za Z t i)), (1, .long v)] []
  refine g_iconst (v := 0) h d_JA_fillJ_0 (by decide) ?_
  refine g_istore_n (lv' := [(3, .int 0), (0, .ref (za Z t i)), (1, .long v)]) h d_JA_fillJ_1 rfl (by decide) rfl ?_
  refine g_aload_n h d_JA_fillJ_2 rfl rfl ?_
  refine g_alenL (v := nI (nf t)) h hL hS hi hck rfl d_JA_fillJ_3 ?_
  refine g_istore (lv' := [(4, .int (nI (nf t))), (3, .int 0), (0, .ref (za Z t i)), (1, .long v)]) h d_JA_fillJ_4 (by decide) rfl ?_
  refine g_sub [2, 3, 1, 0] rfl ?_
  have e := w_fillJ hL hS hi hck h hQ (nf t + 1) 0 (by omega) (by omega)
  rw [fill_0J] at e
  exact e
