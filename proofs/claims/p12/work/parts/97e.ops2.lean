theorem z0 : (0 : Int32) = nI 0 := rfl
theorem q_f9 {a b : Int32} {M : Mm} : F_D_flows (nI 9) a b M = bd (F_D_takes a M) (kT (F_D_takes a) (kP a)) := rfl
theorem q_f10 {a b : Int32} {M : Mm} : F_D_flows (nI 10) a b M = bd (F_D_takes a M) (kP b) := rfl
theorem q_f11 {a b : Int32} {M : Mm} : F_D_flows (nI 11) a b M = bd (F_D_takes a M) (kT (F_D_takes a) (kP 1)) := rfl
theorem q_f12 {a b : Int32} {M : Mm} : F_D_flows (nI 12) a b M = bd (F_D_takes 1 M) kZ := rfl
theorem q_f13 {a b : Int32} {M : Mm} : F_D_flows (nI 13) a b M = bd (F_D_takesRef M) kZ := rfl
theorem q_f17 {a b : Int32} {M : Mm} : F_D_flows (nI 17) a b M = bd (F_D_takes 1 M) kZ := rfl
theorem q_f18 {a b : Int32} {M : Mm} : F_D_flows (nI 18) a b M = (if (M.1 30 0 14) = 0 then some (1, M) else bd (F_D_takesFor (M.1 30 0 14) M) kB) := rfl
theorem q_f19 {a b : Int32} {M : Mm} : F_D_flows (nI 19) a b M = bd (F_D_takesFor 17 M) kZ := rfl
theorem q_c9 {a b : Int32} {M : Mm} : F_W_calculate (nI 9) a b M = bd (F_R_top 0 0 M) (fun r17 M16 => (if r17 = a then bd (F_R_top 0 1 M16) (fun r9 M8 => (if r9 = a then bd (F_W_exchangeIf 1 2 a M8) (fun r3 M2 => some (r3, M2)) else bd (F_W_exchangeIf 0 2 a M8) (fun r3 M2 => some (r3, M2)))) else bd (F_W_exchangeIf 0 2 a M16) (fun r3 M2 => some (r3, M2)))) := rfl
theorem q_c11 {a b : Int32} {M : Mm} : F_W_calculate (nI 11) a b M = bd (F_R_top 0 0 M) (fun r17 M16 => (if r17 = a then bd (F_R_top 0 1 M16) (fun r9 M8 => (if r9 = a then bd (F_W_exchangeIf 1 2 1 M8) (fun r3 M2 => some (r3, M2)) else bd (F_W_exchangeIf 0 2 1 M8) (fun r3 M2 => some (r3, M2)))) else bd (F_W_exchangeIf 0 2 1 M16) (fun r3 M2 => some (r3, M2)))) := rfl
theorem q_d12 {M : Mm} : F_W_decide (nI 12) M = bd (F_R_top 0 0 M) (fun r6 M5 => (if r6 = 1 then F_W_decide_b120 1 M5 else F_W_decide_b120 0 M5)) := rfl
theorem q_d13 {M : Mm} : F_W_decide (nI 13) M = bd (F_R_top 0 0 M) (fun r6 M5 => lt (P_T_isRefOrNull r6 M5) fun r9 => bd (F_W_takeIf r9 1 M5) (fun r12 M11 => some (r12, M11))) := rfl
theorem q_d17 {M : Mm} : F_W_decide (nI 17) M = bd (F_R_top 0 0 M) (fun r6 M5 => (if r6 = 1 then F_W_decide_b120 1 M5 else F_W_decide_b120 0 M5)) := rfl
theorem q_d18 {M : Mm} : F_W_decide (nI 18) M = bd (F_R_top 0 0 M) (fun r6 M5 => (if (M5.1 4 0 11) = 0 then some (0, M5) else bd (F_T_goesFor r6 (M5.1 4 0 11) M5) (fun r16 M15 => bd (F_W_takeIf r16 1 M15) (fun r19 M18 => some (r19, M18))))) := rfl
theorem q_d19 {M : Mm} : F_W_decide (nI 19) M = bd (F_R_top 0 0 M) (fun r6 M5 => bd (F_T_goesFor r6 17 M5) (fun r22 M21 => bd (F_W_takeIf r22 1 M21) (fun r25 M24 => some (r25, M24)))) := rfl
/-- INSTRUCTIONS that leave the STATE as it is -/
theorem ou_id {n : Nat} {sup : Nat → Nat} {fc : Nat → Int32} {P : MT} {f : Fr} {Mc Mr : Mm} (h : Cx n sup fc P f Mc Mr) : Ou P Mc Mr (some (0, Mc)) (some (1, Mr)) := by
  obtain ⟨hT, hC, hR, hO, hP, hD, hc, hh, tk, hw⟩ := h
  exact Or.inr ⟨f, Mr, rfl, hh, KX.rf, tk, fun _ => ⟨Mc, rfl, hc, KF.rf⟩, fun w => absurd hw w⟩
theorem op_push {n : Nat} {sup : Nat → Nat} {fc : Nat → Int32} {P : MT} {f : Fr} {Mc Mr : Mm} {a b : Int32} (h : Cx n sup fc P f Mc Mr) (ha : tok a) : Ou P Mc Mr (F_W_calculate (nI 1) a b Mc) (F_D_moves (nI 1) a Mr) := by
  obtain ⟨hT, hC, hR, hO, hP, hD, hc, hh, tk, hw⟩ := h
  have hfd := hc.1
  unfold F_W_calculate F_D_moves
  rw [if_pos (by decide), if_neg (by decide), if_pos (by decide), bd_ret]
  obtain ⟨M2, b1, b2, b3⟩ := e_put (v := a) hh (by omega)
  rw [b1, bd_some, bnz_ok (Or.inr rfl)]
  exact ou_push hO hP hc KF.rf tk ha ⟨M2, rfl, b2, b3⟩
theorem op_math {n : Nat} {sup : Nat → Nat} {fc : Nat → Int32} {P : MT} {f : Fr} {Mc Mr : Mm} {a b : Int32} {o : Nat} (h : Cx n sup fc P f Mc Mr) (ha : tok a) (ho : o = 9 ∨ o = 11) : Ou P Mc Mr (F_W_calculate (nI o) a b Mc) (F_D_flows (nI o) a b Mr) := by
  obtain ⟨hT, hC, hR, hO, hP, hD, hc, hh, tk, hw⟩ := h
  have hfd := hc.1
  have et0 : F_R_top 0 0 Mc = some (tp f 0, Mc) := e_topC (e := 0) hc (by omega)
  have et1 : F_R_top 0 1 Mc = some (tp f 1, Mc) := e_topC (e := 1) hc (by omega)
  have hv := tok_m1 ha
  have T : ∀ v, Rs (tp f 0 = a ∧ tp f 1 = a) (psh (drp f 2) v) Mr (bd (F_D_takes a Mr) (kT (F_D_takes a) (kP v))) := by
    intro v
    refine rs_tp (e_takes hh hv).rs (fun _ M' q _ => ?_) (by show fd f - 2 < 16; omega)
    have := (e_takes q hv).rs
    rw [tp_drp] at this
    exact this
  have hm : tp f 0 = a ∧ tp f 1 = a → 2 ≤ fd f := fun z => tp_in (fun w => hv (by rw [← z.2, w]))
  have E : ∀ v r, tok v → fg r (tp f 0 = a ∧ tp f 1 = a) → Ou P Mc Mr (F_W_exchangeIf r 2 v Mc) (bd (F_D_takes a Mr) (kT (F_D_takes a) (kP v))) := fun v r hv' hr => ou_exch (m := 2) hO hP hc tk hv' hm hr (T v).1 (T v).2
  rcases ho with rfl | rfl
  · rw [q_c9, q_f9, et0, bd_some]
    by_cases c0 : tp f 0 = a
    · rw [if_pos c0, et1, bd_some]
      by_cases c1 : tp f 1 = a
      · rw [if_pos c1, bd_ret]
        exact E a 1 ha (fg.y ⟨c0, c1⟩)
      · rw [if_neg c1, bd_ret]
        exact E a 0 ha (fg.n (fun z => c1 z.2))
    · rw [if_neg c0, bd_ret]
      exact E a 0 ha (fg.n (fun z => c0 z.1))
  · rw [q_c11, q_f11, et0, bd_some]
    by_cases c0 : tp f 0 = a
    · rw [if_pos c0, et1, bd_some]
      by_cases c1 : tp f 1 = a
      · rw [if_pos c1, bd_ret]
        exact E 1 1 (tokN (j := 1) (by omega)) (fg.y ⟨c0, c1⟩)
      · rw [if_neg c1, bd_ret]
        exact E 1 0 (tokN (j := 1) (by omega)) (fg.n (fun z => c1 z.2))
    · rw [if_neg c0, bd_ret]
      exact E 1 0 (tokN (j := 1) (by omega)) (fg.n (fun z => c0 z.1))
theorem op_change {n : Nat} {sup : Nat → Nat} {fc : Nat → Int32} {P : MT} {f : Fr} {Mc Mr : Mm} {a b : Int32} (h : Cx n sup fc P f Mc Mr) (ha : tok a) (hb : tok b) : Ou P Mc Mr (F_W_calculate (nI 10) a b Mc) (F_D_flows (nI 10) a b Mr) := by
  obtain ⟨hT, hC, hR, hO, hP, hD, hc, hh, tk, hw⟩ := h
  have et0 : F_R_top 0 0 Mc = some (tp f 0, Mc) := e_topC (e := 0) hc (by omega)
  have hv := tok_m1 ha
  have T := rs_p (v := b) (e_takes hh hv).rs (by have := hc.1; show fd f - 1 < 16; omega)
  have hm : tp f 0 = a → 1 ≤ fd f := fun z => tp_in (fun w => hv (by rw [← z, w]))
  unfold F_W_calculate F_D_flows F_W_calculate_b38
  rw [if_neg (by decide), et0, bd_some, if_neg (show ¬ nI 10 = 9 by decide), if_pos (show nI 10 = 10 by decide)]
  by_cases c0 : tp f 0 = a
  · rw [if_pos c0, if_pos (by decide), bd_ret]
    exact ou_exch (m := 1) hO hP hc tk hb hm (fg.y c0) T.1 T.2
  · rw [if_neg c0, if_pos (by decide), bd_ret]
    exact ou_exch (m := 1) hO hP hc tk hb hm (fg.n c0) T.1 T.2
theorem e_refNullC {n : Nat} {sup : Nat → Nat} {fc : Nat → Int32} {M : Mm} (hT : TOk n sup fc) (hC : TCl n sup fc M) (v : Int32) : fg (P_T_isRefOrNull v M) (v = 5 ∨ rf n v = true) := by
  unfold P_T_isRefOrNull
  by_cases c : v = 5
  · rw [if_pos c]
    exact fg.y (Or.inl c)
  · rw [if_neg c, lt_v, e_isRefC hT hC]
    cases q : rf n v
    · exact fg.n (fun z => z.elim c (fun w => by cases w))
    · exact fg.y (Or.inr rfl)
theorem gs_fg {b : Bool} : fg (if b = true then 1 else 0) (b = true) := by
  cases b
  · exact fg.n (by decide)
  · exact fg.y rfl
theorem op_decide {n : Nat} {sup : Nat → Nat} {fc : Nat → Int32} {P : MT} {f : Fr} {Mc Mr : Mm} {a b : Int32} {o : Nat} (h : Cx n sup fc P f Mc Mr) (hr : ¬ pr P = -1) (ho : o = 12 ∨ o = 13 ∨ o = 17 ∨ o = 18 ∨ o = 19) : Ou P Mc Mr (F_W_decide (nI o) Mc) (F_D_flows (nI o) a b Mr) := by
  have h' := h
  obtain ⟨hT, hC, hR, hO, hP, hD, hc, hh, tk, hw⟩ := h
  have et0 : F_R_top 0 0 Mc = some (tp f 0, Mc) := e_topC (e := 0) hc (by omega)
  have hm1 : tp f 0 = 1 → 1 ≤ fd f := fun z => tp_in (fun w => by rw [w] at z; exact absurd z (by decide))
  have T1 := rs_z (e_takes (v := 1) hh (by decide)).rs
  have I1 : Ou P Mc Mr (if tp f 0 = 1 then F_W_decide_b120 1 Mc else F_W_decide_b120 0 Mc) (bd (F_D_takes 1 Mr) kZ) := by
    unfold F_W_decide_b120
    by_cases c : tp f 0 = 1
    · rw [if_pos c, bd_ret]
      exact ou_take (m := 1) hc tk hw hm1 (fg.y c) T1.1 T1.2
    · rw [if_neg c, bd_ret]
      exact ou_take (m := 1) hc tk hw hm1 (fg.n c) T1.1 T1.2
  rcases ho with rfl | rfl | rfl | rfl | rfl
  · rw [q_d12, q_f12, et0, bd_some]
    exact I1
  · rw [q_d13, q_f13, et0, bd_some, lt_v, bd_ret]
    have T := rs_z (e_takesRef hT hR hh).rs
    refine ou_take (m := 1) hc tk hw (fun z => tp_in (fun w => ?_)) (e_refNullC hT hC _) T.1 T.2
    rcases z with z | z
    · rw [w] at z
      exact absurd z (by decide)
    · rw [w, rf_neg (by decide)] at z
      cases z
  · rw [q_d17, q_f17, et0, bd_some]
    exact I1
  · rw [q_d18, q_f18, et0, bd_some, hP.2.2.2.1, hD.2.2.2.1]
    by_cases c : pr P = 0
    · rw [if_pos c, if_pos c]
      exact ou_id h'
    · rw [if_neg c, if_neg c, e_goesC hT hC, bd_some, bd_ret]
      have T := rs_b (e_takesFor hT hR hh hr).rs
      exact ou_take (m := 1) hc tk hw (fun z => tp_in (fun w => by rw [w, gs_m1 hr] at z; cases z)) gs_fg T.1 T.2
  · rw [q_d19, q_f19, et0, bd_some, e_goesC hT hC, bd_some, bd_ret]
    have h17 : ¬ (17 : Int32) = -1 := by decide
    have T := rs_z (e_takesFor hT hR hh h17).rs
    exact ou_take (m := 1) hc tk hw (fun z => tp_in (fun w => by rw [w, gs_m1 h17] at z; cases z)) gs_fg T.1 T.2
