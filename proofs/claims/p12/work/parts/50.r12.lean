set_option maxHeartbeats 4000000 in
set_option maxRecDepth 100000 in
theorem w_D_count_b4 {Z : ZT} {X : XT} (hL : Lay Z sD) (h : Ok Z X "FlowGateModel" c_D_count ws_D_count 4 ({ frames := 0, cells := 0, slots := 0, locals := 0 })) {res : Int32 × Mm} (hQ : FinI Z X .int res)  : ∀ (n : Nat) (v1 : Int32) (v2 : Int32) (v3 : Int32) (M : Mm), F_D_count_b4  n v1 v2 v3 M = some res → G Z X M 4 [(0, .ref (za Z 30 0)), (1, .int v1), (2, .int v2), (3, .int v3)] [] := by
  intro n
  induction n with
  | zero =>
    intro v1 v2 v3 M hw
    cases hw
  | succ n hK4 =>
    intro v1 v2 v3 M hw
    rw [F_D_count_b4] at hw
    refine g_iload_n h d_D_count_4 rfl rfl ?_
    refine g_bipush (v := 48) h d_D_count_5 (by decide) ?_
    refine g_icmp_ge (tgt := 28) h d_D_count_7 (by decide) (fun c1 => ?_) (fun c1 => ?_)
    · have hw := o_t c1 hw
      refine g_iload_n h d_D_count_28 rfl rfl ?_
      rcases Classical.em (v1 = 0) with c2_0 | c2_0
      · refine g_tabIn (tgt := 76) h d_D_count_29 (by rw [c2_0]; decide) (by rw [c2_0]; decide) (by rw [c2_0]; rfl) (by decide) ?_
        have hw := o_t c2_0 hw
        refine g_aload_n h d_D_count_76 rfl rfl ?_
        refine g_getI (t := 30) (i := 0) (k := 2) (C := "FlowGateModel") (T := T_D) (N := 42) h hL rfl (by decide) ob_30 (by decide) rfl (fun w hw => mc (in_D w hw)) (mc m_fl_D_17) rfl d_D_count_77 ?_
        exact g_iret h hQ d_D_count_80 hw
      have hw := o_f c2_0 hw
      rcases Classical.em (v1 = 1) with c2_1 | c2_1
      · refine g_tabIn (tgt := 81) h d_D_count_29 (by rw [c2_1]; decide) (by rw [c2_1]; decide) (by rw [c2_1]; rfl) (by decide) ?_
        have hw := o_t c2_1 hw
        refine g_aload_n h d_D_count_81 rfl rfl ?_
        refine g_getI (t := 30) (i := 0) (k := 11) (C := "FlowGateModel") (T := T_D) (N := 42) h hL rfl (by decide) ob_30 (by decide) rfl (fun w hw => mc (in_D w hw)) (mc m_fl_D_118) rfl d_D_count_82 ?_
        exact g_iret h hQ d_D_count_85 hw
      have hw := o_f c2_1 hw
      rcases Classical.em (v1 = 2) with c2_2 | c2_2
      · refine g_tabIn (tgt := 86) h d_D_count_29 (by rw [c2_2]; decide) (by rw [c2_2]; decide) (by rw [c2_2]; rfl) (by decide) ?_
        have hw := o_t c2_2 hw
        refine g_aload_n h d_D_count_86 rfl rfl ?_
        refine g_getI (t := 30) (i := 0) (k := 12) (C := "FlowGateModel") (T := T_D) (N := 42) h hL rfl (by decide) ob_30 (by decide) rfl (fun w hw => mc (in_D w hw)) (mc m_fl_D_121) rfl d_D_count_87 ?_
        exact g_iret h hQ d_D_count_90 hw
      have hw := o_f c2_2 hw
      rcases Classical.em (v1 = 3) with c2_3 | c2_3
      · refine g_tabIn (tgt := 91) h d_D_count_29 (by rw [c2_3]; decide) (by rw [c2_3]; decide) (by rw [c2_3]; rfl) (by decide) ?_
        have hw := o_t c2_3 hw
        refine g_aload_n h d_D_count_91 rfl rfl ?_
        refine g_getI (t := 30) (i := 0) (k := 13) (C := "FlowGateModel") (T := T_D) (N := 42) h hL rfl (by decide) ob_30 (by decide) rfl (fun w hw => mc (in_D w hw)) (mc m_fl_D_124) rfl d_D_count_92 ?_
        exact g_iret h hQ d_D_count_95 hw
      have hw := o_f c2_3 hw
      rcases Classical.em (v1 = 4) with c2_4 | c2_4
      · refine g_tabIn (tgt := 96) h d_D_count_29 (by rw [c2_4]; decide) (by rw [c2_4]; decide) (by rw [c2_4]; rfl) (by decide) ?_
        have hw := o_t c2_4 hw
        refine g_aload_n h d_D_count_96 rfl rfl ?_
        refine g_getI (t := 30) (i := 0) (k := 36) (C := "FlowGateModel") (T := T_D) (N := 42) h hL rfl (by decide) ob_30 (by decide) rfl (fun w hw => mc (in_D w hw)) (mc m_fl_D_143) rfl d_D_count_97 ?_
        exact g_iret h hQ d_D_count_100 hw
      have hw := o_f c2_4 hw
      rcases Classical.em (v1 = 5) with c2_5 | c2_5
      · refine g_tabIn (tgt := 101) h d_D_count_29 (by rw [c2_5]; decide) (by rw [c2_5]; decide) (by rw [c2_5]; rfl) (by decide) ?_
        have hw := o_t c2_5 hw
        refine g_aload_n h d_D_count_101 rfl rfl ?_
        refine g_getI (t := 30) (i := 0) (k := 38) (C := "FlowGateModel") (T := T_D) (N := 42) h hL rfl (by decide) ob_30 (by decide) rfl (fun w hw => mc (in_D w hw)) (mc m_fl_D_159) rfl d_D_count_102 ?_
        exact g_iret h hQ d_D_count_105 hw
      have hw := o_f c2_5 hw
      rcases Classical.em (v1 = 6) with c2_6 | c2_6
      · refine g_tabIn (tgt := 106) h d_D_count_29 (by rw [c2_6]; decide) (by rw [c2_6]; decide) (by rw [c2_6]; rfl) (by decide) ?_
        have hw := o_t c2_6 hw
        refine g_aload_n h d_D_count_106 rfl rfl ?_
        refine g_getI (t := 30) (i := 0) (k := 37) (C := "FlowGateModel") (T := T_D) (N := 42) h hL rfl (by decide) ob_30 (by decide) rfl (fun w hw => mc (in_D w hw)) (mc m_fl_D_156) rfl d_D_count_107 ?_
        exact g_iret h hQ d_D_count_110 hw
      have hw := o_f c2_6 hw
      rcases Classical.em (v1 = 7) with c2_7 | c2_7
      · refine g_tabIn (tgt := 111) h d_D_count_29 (by rw [c2_7]; decide) (by rw [c2_7]; decide) (by rw [c2_7]; rfl) (by decide) ?_
        have hw := o_t c2_7 hw
        refine g_iload_n h d_D_count_111 rfl rfl ?_
        exact g_iret h hQ d_D_count_112 hw
      have hw := o_f c2_7 hw
      refine g_tabOut (tgt := 113) h d_D_count_29 (sw_out 0 8 (by decide) (by decide) (fun j hj => ?_)) (by decide) ?_
      · rcases (show j = 0 ∨ j = 1 ∨ j = 2 ∨ j = 3 ∨ j = 4 ∨ j = 5 ∨ j = 6 ∨ j = 7 by omega) with rfl | rfl | rfl | rfl | rfl | rfl | rfl | rfl
        · exact c2_0
        · exact c2_1
        · exact c2_2
        · exact c2_3
        · exact c2_4
        · exact c2_5
        · exact c2_6
        · exact c2_7
      refine g_iconst (v := -1) h d_D_count_113 (by decide) ?_
      exact g_iret h hQ d_D_count_114 hw
    · have hw := o_f c1 hw
      refine g_iload_n h d_D_count_10 rfl rfl ?_
      refine g_aload_n h d_D_count_11 rfl rfl ?_
      refine g_getL (t := 30) (i := 0) (k := 41) (C := "FlowGateModel") (T := T_D) (N := 42) h hL rfl (by decide) ob_30 (by decide) rfl (fun w hw => mc (in_D w hw)) (mc m_fl_D_162) rfl d_D_count_12 ?_
      refine g_iload_n h d_D_count_15 rfl rfl ?_
      refine g_lshr h d_D_count_16 ?_
      refine g_lconst (v := 1) h d_D_count_17 rfl ?_
      refine g_land h d_D_count_18 ?_
      refine g_l2i h d_D_count_19 ?_
      refine g_iadd h d_D_count_20 ?_
      refine g_topi (fun n3 en3 => ?_)
      have hw := o_l hw n3 en3
      refine g_istore_n (lv' := [(2, .int n3), (0, .ref (za Z 30 0)), (1, .int v1), (3, .int v3)]) h d_D_count_21 rfl (by decide) rfl ?_
      refine g_iinc (n' := 1) (lw := fun y => [(3, .int y), (2, .int n3), (0, .ref (za Z 30 0)), (1, .int v1)]) h d_D_count_22 rfl (by decide) (by decide) (fun _ => rfl) (fun n4 en4 => ?_)
      have hw := o_l hw n4 en4
      refine g_goto (tgt := 4) h d_D_count_25 (by decide) ?_
      refine g_sub [2, 3, 1, 0] rfl ?_
      exact hK4 v1 n3 n4 M hw
set_option maxHeartbeats 4000000 in
set_option maxRecDepth 100000 in
theorem ct_D_count {Z : ZT} (hL : Lay Z sD) (v1 : Int32) (M : Mm)  {res : Int32 × Mm} (hw : F_D_count v1 M = some res) : CtI Z y_D_count ws_D_count (({ frames := 0, cells := 0, slots := 0, locals := 0 })) [.ref (za Z 30 0), .int v1] M res := by
  refine CtI.of hL (cc := c_D_count) (maxL := 4) (by decide) rfl (Nat.le_of_ble_eq_true rfl) (fun X h hQ => ?_)
  show G Z X M 0 [(0, .ref (za Z 30 0)), (1, .int v1)] []
  rw [F_D_count] at hw
  refine g_iconst (v := 0) h d_D_count_0 (by decide) ?_
  refine g_istore_n (lv' := [(2, .int 0), (0, .ref (za Z 30 0)), (1, .int v1)]) h d_D_count_1 rfl (by decide) rfl ?_
  refine g_iconst (v := 0) h d_D_count_2 (by decide) ?_
  refine g_istore_n (lv' := [(3, .int 0), (2, .int 0), (0, .ref (za Z 30 0)), (1, .int v1)]) h d_D_count_3 rfl (by decide) rfl ?_
  refine g_sub [2, 3, 1, 0] rfl ?_
  exact w_D_count_b4 hL h hQ  fuel v1 0 0 M hw
