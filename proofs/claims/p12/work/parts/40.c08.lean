set_option maxHeartbeats 4000000 in
set_option maxRecDepth 100000 in
theorem ct_W_leave {Z : ZT} (hL : Lay Z sC) (v1 : Int32) (M : Mm)  {res : Int32 × Mm} (hw : F_W_leave v1 M = some res) : CtI Z y_W_leave ws_W_leave (({ frames := 4, cells := 0, slots := 0, locals := 126 })) [.ref (za Z 14 0), .int v1] M res := by
  refine CtI.of hL (cc := c_W_leave) (maxL := 4) (by decide) rfl (Nat.le_of_ble_eq_true rfl) (fun X h hQ => ?_)
  show G Z X M 0 [(0, .ref (za Z 14 0)), (1, .int v1)] []
  rw [F_W_leave] at hw
  refine g_aload_n h d_W_leave_0 rfl rfl ?_
  refine g_getR (t := 14) (i := 0) (k := 1) (C := "FlowGate$Flow") (T := T_W) (N := 12) h hL rfl (by decide) ob_14 (by decide) rfl (t' := 4) (i' := 0) rfl rfl (fun w hw => mc (in_W w hw)) (mc m_fl_W_40) rfl d_W_leave_1 ?_
  refine g_getR (t := 4) (i := 0) (k := 2) (C := "FlowGate$Method") (T := T_M) (N := 14) h hL rfl (by decide) ob_4 (by decide) rfl (t' := 7) (i' := 0) rfl rfl (fun w hw => mc (in_M w hw)) (mc m_fl_W_143) rfl d_W_leave_4 ?_
  refine g_iload_n h d_W_leave_7 rfl rfl ?_
  obtain ⟨hv1, hw⟩ := o_in hw
  refine g_iald (t := 7) (i := 0) h hL rfl (by decide) rfl rfl hv1 d_W_leave_8 ?_
  refine g_topi (fun n2 en2 => ?_)
  have hw := o_l hw n2 en2
  refine g_istore_n (lv' := [(2, .int n2), (0, .ref (za Z 14 0)), (1, .int v1)]) h d_W_leave_9 rfl (by decide) rfl ?_
  refine g_aload_n h d_W_leave_10 rfl rfl ?_
  refine g_getR (t := 14) (i := 0) (k := 1) (C := "FlowGate$Flow") (T := T_W) (N := 12) h hL rfl (by decide) ob_14 (by decide) rfl (t' := 4) (i' := 0) rfl rfl (fun w hw => mc (in_W w hw)) (mc m_fl_W_40) rfl d_W_leave_11 ?_
  refine g_getR (t := 4) (i := 0) (k := 0) (C := "FlowGate$Method") (T := T_M) (N := 14) h hL rfl (by decide) ob_4 (by decide) rfl (t' := 5) (i' := 0) rfl rfl (fun w hw => mc (in_M w hw)) (mc m_fl_W_95) rfl d_W_leave_14 ?_
  refine g_iload_n h d_W_leave_17 rfl rfl ?_
  obtain ⟨hv3, hw⟩ := o_in hw
  refine g_iald (t := 5) (i := 0) h hL rfl (by decide) rfl rfl hv3 d_W_leave_18 ?_
  refine g_topi (fun n4 en4 => ?_)
  have hw := o_l hw n4 en4
  rcases Classical.em (n4 = 12) with c41_0 | c41_0
  · refine g_tabIn (tgt := 95) h d_W_leave_19 (by rw [c41_0]; decide) (by rw [c41_0]; decide) (by rw [c41_0]; rfl) (by decide) ?_
    have hw := o_t c41_0 hw
    refine g_aload_n h d_W_leave_95 rfl rfl ?_
    refine g_iload_n h d_W_leave_96 rfl rfl ?_
    refine g_iload_n h d_W_leave_97 rfl rfl ?_
    refine g_iconst (v := 1) h d_W_leave_98 (by decide) ?_
    refine g_iadd h d_W_leave_99 ?_
    refine g_aload_n h d_W_leave_100 rfl rfl ?_
    refine g_getR (t := 14) (i := 0) (k := 6) (C := "FlowGate$Flow") (T := T_W) (N := 12) h hL rfl (by decide) ob_14 (by decide) rfl (t' := 19) (i' := 0) rfl rfl (fun w hw => mc (in_W w hw)) (mc m_fl_W_29) rfl d_W_leave_101 ?_
    obtain ⟨r10, M9, hc8, hw⟩ := o_b hw
    refine g_calli h (g_runV (rest := []) h (ct_W_meet hL v1 (v1 + 1) 0 M (by decide) hc8) (cwV 3 h.2.2.2.2.1 (g_V m_ml_W_65 m_im_W_meet m_se_W_meet m_in_W m_co_W_meet) rfl rfl rfl (by decide +kernel) ⟨Nat.le_of_ble_eq_true rfl, Nat.le_of_ble_eq_true rfl⟩) (hL.recv h rfl (by decide) ob_14) rfl rfl (Nat.le_of_ble_eq_true rfl) d_W_leave_104) ?_
    refine g_istore_n (lv' := [(3, .int r10), (2, .int n2), (0, .ref (za Z 14 0)), (1, .int v1)]) h d_W_leave_107 rfl (by decide) rfl ?_
    refine g_iload_n h d_W_leave_108 rfl rfl ?_
    refine g_if_ne (tgt := 125) h d_W_leave_109 (by decide) (fun c11 => ?_) (fun c11 => ?_)
    · have hw := o_f c11 hw
      refine g_iload_n h d_W_leave_125 rfl rfl ?_
      exact g_iret h hQ d_W_leave_126 hw
    · have hw := o_t c11 hw
      refine g_aload_n h d_W_leave_112 rfl rfl ?_
      refine g_iload_n h d_W_leave_113 rfl rfl ?_
      refine g_iload_n h d_W_leave_114 rfl rfl ?_
      refine g_aload_n h d_W_leave_115 rfl rfl ?_
      refine g_getR (t := 14) (i := 0) (k := 6) (C := "FlowGate$Flow") (T := T_W) (N := 12) h hL rfl (by decide) ob_14 (by decide) rfl (t' := 19) (i' := 0) rfl rfl (fun w hw => mc (in_W w hw)) (mc m_fl_W_29) rfl d_W_leave_116 ?_
      obtain ⟨r14, M13, hc12, hw⟩ := o_b hw
      refine g_calli h (g_runV (rest := []) h (ct_W_meet hL v1 n2 0 M9 (by decide) hc12) (cwV 3 h.2.2.2.2.1 (g_V m_ml_W_65 m_im_W_meet m_se_W_meet m_in_W m_co_W_meet) rfl rfl rfl (by decide +kernel) ⟨Nat.le_of_ble_eq_true rfl, Nat.le_of_ble_eq_true rfl⟩) (hL.recv h rfl (by decide) ob_14) rfl rfl (Nat.le_of_ble_eq_true rfl) d_W_leave_119) ?_
      refine g_goto (tgt := 126) h d_W_leave_122 (by decide) ?_
      exact g_iret h hQ d_W_leave_126 hw
  have hw := o_f c41_0 hw
  rcases Classical.em (n4 = 13) with c41_1 | c41_1
  · refine g_tabIn (tgt := 95) h d_W_leave_19 (by rw [c41_1]; decide) (by rw [c41_1]; decide) (by rw [c41_1]; rfl) (by decide) ?_
    have hw := o_t c41_1 hw
    refine g_aload_n h d_W_leave_95 rfl rfl ?_
    refine g_iload_n h d_W_leave_96 rfl rfl ?_
    refine g_iload_n h d_W_leave_97 rfl rfl ?_
    refine g_iconst (v := 1) h d_W_leave_98 (by decide) ?_
    refine g_iadd h d_W_leave_99 ?_
    refine g_aload_n h d_W_leave_100 rfl rfl ?_
    refine g_getR (t := 14) (i := 0) (k := 6) (C := "FlowGate$Flow") (T := T_W) (N := 12) h hL rfl (by decide) ob_14 (by decide) rfl (t' := 19) (i' := 0) rfl rfl (fun w hw => mc (in_W w hw)) (mc m_fl_W_29) rfl d_W_leave_101 ?_
    obtain ⟨r17, M16, hc15, hw⟩ := o_b hw
    refine g_calli h (g_runV (rest := []) h (ct_W_meet hL v1 (v1 + 1) 0 M (by decide) hc15) (cwV 3 h.2.2.2.2.1 (g_V m_ml_W_65 m_im_W_meet m_se_W_meet m_in_W m_co_W_meet) rfl rfl rfl (by decide +kernel) ⟨Nat.le_of_ble_eq_true rfl, Nat.le_of_ble_eq_true rfl⟩) (hL.recv h rfl (by decide) ob_14) rfl rfl (Nat.le_of_ble_eq_true rfl) d_W_leave_104) ?_
    refine g_istore_n (lv' := [(3, .int r17), (2, .int n2), (0, .ref (za Z 14 0)), (1, .int v1)]) h d_W_leave_107 rfl (by decide) rfl ?_
    refine g_iload_n h d_W_leave_108 rfl rfl ?_
    refine g_if_ne (tgt := 125) h d_W_leave_109 (by decide) (fun c18 => ?_) (fun c18 => ?_)
    · have hw := o_f c18 hw
      refine g_iload_n h d_W_leave_125 rfl rfl ?_
      exact g_iret h hQ d_W_leave_126 hw
    · have hw := o_t c18 hw
      refine g_aload_n h d_W_leave_112 rfl rfl ?_
      refine g_iload_n h d_W_leave_113 rfl rfl ?_
      refine g_iload_n h d_W_leave_114 rfl rfl ?_
      refine g_aload_n h d_W_leave_115 rfl rfl ?_
      refine g_getR (t := 14) (i := 0) (k := 6) (C := "FlowGate$Flow") (T := T_W) (N := 12) h hL rfl (by decide) ob_14 (by decide) rfl (t' := 19) (i' := 0) rfl rfl (fun w hw => mc (in_W w hw)) (mc m_fl_W_29) rfl d_W_leave_116 ?_
      obtain ⟨r21, M20, hc19, hw⟩ := o_b hw
      refine g_calli h (g_runV (rest := []) h (ct_W_meet hL v1 n2 0 M16 (by decide) hc19) (cwV 3 h.2.2.2.2.1 (g_V m_ml_W_65 m_im_W_meet m_se_W_meet m_in_W m_co_W_meet) rfl rfl rfl (by decide +kernel) ⟨Nat.le_of_ble_eq_true rfl, Nat.le_of_ble_eq_true rfl⟩) (hL.recv h rfl (by decide) ob_14) rfl rfl (Nat.le_of_ble_eq_true rfl) d_W_leave_119) ?_
      refine g_goto (tgt := 126) h d_W_leave_122 (by decide) ?_
      exact g_iret h hQ d_W_leave_126 hw
  have hw := o_f c41_1 hw
  rcases Classical.em (n4 = 14) with c41_2 | c41_2
  · refine g_tabIn (tgt := 66) h d_W_leave_19 (by rw [c41_2]; decide) (by rw [c41_2]; decide) (by rw [c41_2]; rfl) (by decide) ?_
    have hw := o_t c41_2 hw
    refine g_aload_n h d_W_leave_66 rfl rfl ?_
    refine g_iload_n h d_W_leave_67 rfl rfl ?_
    refine g_iload_n h d_W_leave_68 rfl rfl ?_
    refine g_aload_n h d_W_leave_69 rfl rfl ?_
    refine g_getR (t := 14) (i := 0) (k := 6) (C := "FlowGate$Flow") (T := T_W) (N := 12) h hL rfl (by decide) ob_14 (by decide) rfl (t' := 19) (i' := 0) rfl rfl (fun w hw => mc (in_W w hw)) (mc m_fl_W_29) rfl d_W_leave_70 ?_
    obtain ⟨r24, M23, hc22, hw⟩ := o_b hw
    refine g_calli h (g_runV (rest := []) h (ct_W_meet hL v1 n2 0 M (by decide) hc22) (cwV 3 h.2.2.2.2.1 (g_V m_ml_W_65 m_im_W_meet m_se_W_meet m_in_W m_co_W_meet) rfl rfl rfl (by decide +kernel) ⟨Nat.le_of_ble_eq_true rfl, Nat.le_of_ble_eq_true rfl⟩) (hL.recv h rfl (by decide) ob_14) rfl rfl (Nat.le_of_ble_eq_true rfl) d_W_leave_73) ?_
    exact g_iret h hQ d_W_leave_76 hw
  have hw := o_f c41_2 hw
  rcases Classical.em (n4 = 15) with c41_3 | c41_3
  · refine g_tabIn (tgt := 77) h d_W_leave_19 (by rw [c41_3]; decide) (by rw [c41_3]; decide) (by rw [c41_3]; rfl) (by decide) ?_
    have hw := o_t c41_3 hw
    refine g_aload_n h d_W_leave_77 rfl rfl ?_
    refine g_iload_n h d_W_leave_78 rfl rfl ?_
    refine g_iload_n h d_W_leave_79 rfl rfl ?_
    refine g_aload_n h d_W_leave_80 rfl rfl ?_
    refine g_getR (t := 14) (i := 0) (k := 6) (C := "FlowGate$Flow") (T := T_W) (N := 12) h hL rfl (by decide) ob_14 (by decide) rfl (t' := 19) (i' := 0) rfl rfl (fun w hw => mc (in_W w hw)) (mc m_fl_W_29) rfl d_W_leave_81 ?_
    obtain ⟨r27, M26, hc25, hw⟩ := o_b hw
    refine g_calli h (g_runV (rest := []) h (ct_W_meet hL v1 n2 0 M (by decide) hc25) (cwV 3 h.2.2.2.2.1 (g_V m_ml_W_65 m_im_W_meet m_se_W_meet m_in_W m_co_W_meet) rfl rfl rfl (by decide +kernel) ⟨Nat.le_of_ble_eq_true rfl, Nat.le_of_ble_eq_true rfl⟩) (hL.recv h rfl (by decide) ob_14) rfl rfl (Nat.le_of_ble_eq_true rfl) d_W_leave_84) ?_
    refine g_istore_n (lv' := [(3, .int r27), (2, .int n2), (0, .ref (za Z 14 0)), (1, .int v1)]) h d_W_leave_87 rfl (by decide) rfl ?_
    refine g_aload_n h d_W_leave_88 rfl rfl ?_
    refine g_iload_n h d_W_leave_89 rfl rfl ?_
    obtain ⟨M29, hc28, hw⟩ := o_v hw
    refine g_callv h (g_runV (rest := []) h (ct_W_wakeReturns hL n2 M26 hc28) (cwV 1 h.2.2.2.2.1 (g_V m_ml_W_146 m_im_W_wakeReturns m_se_W_wakeReturns m_in_W m_co_W_wakeReturns) rfl rfl rfl (by decide +kernel) ⟨Nat.le_of_ble_eq_true rfl, Nat.le_of_ble_eq_true rfl⟩) (hL.recv h rfl (by decide) ob_14) rfl rfl (Nat.le_of_ble_eq_true rfl) d_W_leave_90) ?_
    refine g_iload_n h d_W_leave_93 rfl rfl ?_
    exact g_iret h hQ d_W_leave_94 hw
  have hw := o_f c41_3 hw
  rcases Classical.em (n4 = 16) with c41_4 | c41_4
  · refine g_tabIn (tgt := 165) h d_W_leave_19 (by rw [c41_4]; decide) (by rw [c41_4]; decide) (by rw [c41_4]; rfl) (by decide) ?_
    have hw := o_t c41_4 hw
    refine g_aload_n h d_W_leave_165 rfl rfl ?_
    refine g_iload_n h d_W_leave_166 rfl rfl ?_
    refine g_iload_n h d_W_leave_167 rfl rfl ?_
    refine g_iconst (v := 1) h d_W_leave_168 (by decide) ?_
    refine g_iadd h d_W_leave_169 ?_
    refine g_aload_n h d_W_leave_170 rfl rfl ?_
    refine g_getR (t := 14) (i := 0) (k := 6) (C := "FlowGate$Flow") (T := T_W) (N := 12) h hL rfl (by decide) ob_14 (by decide) rfl (t' := 19) (i' := 0) rfl rfl (fun w hw => mc (in_W w hw)) (mc m_fl_W_29) rfl d_W_leave_171 ?_
    obtain ⟨r32, M31, hc30, hw⟩ := o_b hw
    refine g_calli h (g_runV (rest := []) h (ct_W_meet hL v1 (v1 + 1) 0 M (by decide) hc30) (cwV 3 h.2.2.2.2.1 (g_V m_ml_W_65 m_im_W_meet m_se_W_meet m_in_W m_co_W_meet) rfl rfl rfl (by decide +kernel) ⟨Nat.le_of_ble_eq_true rfl, Nat.le_of_ble_eq_true rfl⟩) (hL.recv h rfl (by decide) ob_14) rfl rfl (Nat.le_of_ble_eq_true rfl) d_W_leave_174) ?_
    exact g_iret h hQ d_W_leave_177 hw
  have hw := o_f c41_4 hw
  rcases Classical.em (n4 = 17) with c41_5 | c41_5
  · refine g_tabIn (tgt := 127) h d_W_leave_19 (by rw [c41_5]; decide) (by rw [c41_5]; decide) (by rw [c41_5]; rfl) (by decide) ?_
    have hw := o_t c41_5 hw
    refine g_aload_n h d_W_leave_127 rfl rfl ?_
    refine g_iload_n h d_W_leave_128 rfl rfl ?_
    refine g_aload_n h d_W_leave_129 rfl rfl ?_
    refine g_getR (t := 14) (i := 0) (k := 1) (C := "FlowGate$Flow") (T := T_W) (N := 12) h hL rfl (by decide) ob_14 (by decide) rfl (t' := 4) (i' := 0) rfl rfl (fun w hw => mc (in_W w hw)) (mc m_fl_W_40) rfl d_W_leave_130 ?_
    refine g_getR (t := 4) (i := 0) (k := 1) (C := "FlowGate$Method") (T := T_M) (N := 14) h hL rfl (by decide) ob_4 (by decide) rfl (t' := 6) (i' := 0) rfl rfl (fun w hw => mc (in_M w hw)) (mc m_fl_W_150) rfl d_W_leave_133 ?_
    refine g_iload_n h d_W_leave_136 rfl rfl ?_
    obtain ⟨hv33, hw⟩ := o_in hw
    refine g_iald (t := 6) (i := 0) h hL rfl (by decide) rfl rfl hv33 d_W_leave_137 ?_
    refine g_aload_n h d_W_leave_138 rfl rfl ?_
    refine g_getR (t := 14) (i := 0) (k := 6) (C := "FlowGate$Flow") (T := T_W) (N := 12) h hL rfl (by decide) ob_14 (by decide) rfl (t' := 19) (i' := 0) rfl rfl (fun w hw => mc (in_W w hw)) (mc m_fl_W_29) rfl d_W_leave_139 ?_
    obtain ⟨r36, M35, hc34, hw⟩ := o_b hw
    refine g_calli h (g_runV (rest := []) h (ct_W_meet hL v1 (M.1 6 0 (v1 : Int32).toNatClampNeg) 0 M (by decide) hc34) (cwV 3 h.2.2.2.2.1 (g_V m_ml_W_65 m_im_W_meet m_se_W_meet m_in_W m_co_W_meet) rfl rfl rfl (by decide +kernel) ⟨Nat.le_of_ble_eq_true rfl, Nat.le_of_ble_eq_true rfl⟩) (hL.recv h rfl (by decide) ob_14) rfl rfl (Nat.le_of_ble_eq_true rfl) d_W_leave_142) ?_
    refine g_istore_n (lv' := [(3, .int r36), (2, .int n2), (0, .ref (za Z 14 0)), (1, .int v1)]) h d_W_leave_145 rfl (by decide) rfl ?_
    refine g_iload_n h d_W_leave_146 rfl rfl ?_
    refine g_if_ne (tgt := 163) h d_W_leave_147 (by decide) (fun c37 => ?_) (fun c37 => ?_)
    · have hw := o_f c37 hw
      refine g_iload_n h d_W_leave_163 rfl rfl ?_
      exact g_iret h hQ d_W_leave_164 hw
    · have hw := o_t c37 hw
      refine g_aload_n h d_W_leave_150 rfl rfl ?_
      refine g_iload_n h d_W_leave_151 rfl rfl ?_
      refine g_iload_n h d_W_leave_152 rfl rfl ?_
      refine g_aload_n h d_W_leave_153 rfl rfl ?_
      refine g_getR (t := 14) (i := 0) (k := 6) (C := "FlowGate$Flow") (T := T_W) (N := 12) h hL rfl (by decide) ob_14 (by decide) rfl (t' := 19) (i' := 0) rfl rfl (fun w hw => mc (in_W w hw)) (mc m_fl_W_29) rfl d_W_leave_154 ?_
      obtain ⟨r40, M39, hc38, hw⟩ := o_b hw
      refine g_calli h (g_runV (rest := []) h (ct_W_meet hL v1 n2 0 M35 (by decide) hc38) (cwV 3 h.2.2.2.2.1 (g_V m_ml_W_65 m_im_W_meet m_se_W_meet m_in_W m_co_W_meet) rfl rfl rfl (by decide +kernel) ⟨Nat.le_of_ble_eq_true rfl, Nat.le_of_ble_eq_true rfl⟩) (hL.recv h rfl (by decide) ob_14) rfl rfl (Nat.le_of_ble_eq_true rfl) d_W_leave_157) ?_
      refine g_goto (tgt := 164) h d_W_leave_160 (by decide) ?_
      exact g_iret h hQ d_W_leave_164 hw
  have hw := o_f c41_5 hw
  rcases Classical.em (n4 = 18) with c41_6 | c41_6
  · refine g_tabIn (tgt := 64) h d_W_leave_19 (by rw [c41_6]; decide) (by rw [c41_6]; decide) (by rw [c41_6]; rfl) (by decide) ?_
    have hw := o_t c41_6 hw
    refine g_iconst (v := 0) h d_W_leave_64 (by decide) ?_
    exact g_iret h hQ d_W_leave_65 hw
  have hw := o_f c41_6 hw
  rcases Classical.em (n4 = 19) with c41_7 | c41_7
  · refine g_tabIn (tgt := 64) h d_W_leave_19 (by rw [c41_7]; decide) (by rw [c41_7]; decide) (by rw [c41_7]; rfl) (by decide) ?_
    have hw := o_t c41_7 hw
    refine g_iconst (v := 0) h d_W_leave_64 (by decide) ?_
    exact g_iret h hQ d_W_leave_65 hw
  have hw := o_f c41_7 hw
  refine g_tabOut (tgt := 165) h d_W_leave_19 (sw_out 12 8 (by decide) (by decide) (fun j hj => ?_)) (by decide) ?_
  · rcases (show j = 0 ∨ j = 1 ∨ j = 2 ∨ j = 3 ∨ j = 4 ∨ j = 5 ∨ j = 6 ∨ j = 7 by omega) with rfl | rfl | rfl | rfl | rfl | rfl | rfl | rfl
    · exact c41_0
    · exact c41_1
    · exact c41_2
    · exact c41_3
    · exact c41_4
    · exact c41_5
    · exact c41_6
    · exact c41_7
  refine g_aload_n h d_W_leave_165 rfl rfl ?_
  refine g_iload_n h d_W_leave_166 rfl rfl ?_
  refine g_iload_n h d_W_leave_167 rfl rfl ?_
  refine g_iconst (v := 1) h d_W_leave_168 (by decide) ?_
  refine g_iadd h d_W_leave_169 ?_
  refine g_aload_n h d_W_leave_170 rfl rfl ?_
  refine g_getR (t := 14) (i := 0) (k := 6) (C := "FlowGate$Flow") (T := T_W) (N := 12) h hL rfl (by decide) ob_14 (by decide) rfl (t' := 19) (i' := 0) rfl rfl (fun w hw => mc (in_W w hw)) (mc m_fl_W_29) rfl d_W_leave_171 ?_
  obtain ⟨r7, M6, hc5, hw⟩ := o_b hw
  refine g_calli h (g_runV (rest := []) h (ct_W_meet hL v1 (v1 + 1) 0 M (by decide) hc5) (cwV 3 h.2.2.2.2.1 (g_V m_ml_W_65 m_im_W_meet m_se_W_meet m_in_W m_co_W_meet) rfl rfl rfl (by decide +kernel) ⟨Nat.le_of_ble_eq_true rfl, Nat.le_of_ble_eq_true rfl⟩) (hL.recv h rfl (by decide) ob_14) rfl rfl (Nat.le_of_ble_eq_true rfl) d_W_leave_174) ?_
  exact g_iret h hQ d_W_leave_177 hw
set_option maxHeartbeats 4000000 in
set_option maxRecDepth 100000 in
theorem ct_W_look {Z : ZT} (hL : Lay Z sC) (v1 : Int32) (M : Mm)  {res : Int32 × Mm} (hw : F_W_look v1 M = some res) : CtI Z y_W_look ws_W_look (({ frames := 5, cells := 0, slots := 0, locals := 150 })) [.ref (za Z 14 0), .int v1] M res := by
  refine CtI.of hL (cc := c_W_look) (maxL := 3) (by decide) rfl (Nat.le_of_ble_eq_true rfl) (fun X h hQ => ?_)
  show G Z X M 0 [(0, .ref (za Z 14 0)), (1, .int v1)] []
  rw [F_W_look] at hw
  refine g_aload_n h d_W_look_0 rfl rfl ?_
  refine g_getR (t := 14) (i := 0) (k := 4) (C := "FlowGate$Flow") (T := T_W) (N := 12) h hL rfl (by decide) ob_14 (by decide) rfl (t' := 17) (i' := 0) rfl rfl (fun w hw => mc (in_W w hw)) (mc m_fl_W_21) rfl d_W_look_1 ?_
  refine g_iload_n h d_W_look_4 rfl rfl ?_
  refine g_iconst (v := 0) h d_W_look_5 (by decide) ?_
  obtain ⟨hv1, hw⟩ := o_in hw
  refine g_zast (t := 17) (i := 0) h hL rfl (by decide) rfl rfl hv1 d_W_look_6 ?_
  refine g_mem (fun M2 eM2 => ?_)
  have hw := o_l hw M2 eM2
  refine g_aload_n h d_W_look_7 rfl rfl ?_
  refine g_iload_n h d_W_look_8 rfl rfl ?_
  refine g_putI (t := 14) (i := 0) (k := 9) (C := "FlowGate$Flow") (T := T_W) (N := 12) h hL rfl (by decide) ob_14 (by decide) rfl (fun w hw => mc (in_W w hw)) ty_W ty_W_ok nm_W (mc m_fl_W_82) rfl rfl rfl d_W_look_9 ?_
  refine g_mem (fun M3 eM3 => ?_)
  have hw := o_l hw M3 eM3
  refine g_aload_n h d_W_look_12 rfl rfl ?_
  refine g_iload_n h d_W_look_13 rfl rfl ?_
  obtain ⟨r6, M5, hc4, hw⟩ := o_b hw
  refine g_calli h (g_runV (rest := []) h (ct_W_meetHandlers hL v1 M3 hc4) (cwV 1 h.2.2.2.2.1 (g_V m_ml_W_85 m_im_W_meetHandlers m_se_W_meetHandlers m_in_W m_co_W_meetHandlers) rfl rfl rfl (by decide +kernel) ⟨Nat.le_of_ble_eq_true rfl, Nat.le_of_ble_eq_true rfl⟩) (hL.recv h rfl (by decide) ob_14) rfl rfl (Nat.le_of_ble_eq_true rfl) d_W_look_14) ?_
  refine g_istore_n (lv' := [(2, .int r6), (0, .ref (za Z 14 0)), (1, .int v1)]) h d_W_look_17 rfl (by decide) rfl ?_
  refine g_iload_n h d_W_look_18 rfl rfl ?_
  refine g_if_eq (tgt := 24) h d_W_look_19 (by decide) (fun c7 => ?_) (fun c7 => ?_)
  · have hw := o_t c7 hw
    refine g_aload_n h d_W_look_24 rfl rfl ?_
    refine g_getR (t := 14) (i := 0) (k := 6) (C := "FlowGate$Flow") (T := T_W) (N := 12) h hL rfl (by decide) ob_14 (by decide) rfl (t' := 19) (i' := 0) rfl rfl (fun w hw => mc (in_W w hw)) (mc m_fl_W_29) rfl d_W_look_25 ?_
    refine g_aload_n h d_W_look_28 rfl rfl ?_
    refine g_getR (t := 14) (i := 0) (k := 2) (C := "FlowGate$Flow") (T := T_W) (N := 12) h hL rfl (by decide) ob_14 (by decide) rfl (t' := 15) (i' := 0) rfl rfl (fun w hw => mc (in_W w hw)) (mc m_fl_W_11) rfl d_W_look_29 ?_
    refine g_iload_n h d_W_look_32 rfl rfl ?_
    obtain ⟨hv8, hw⟩ := o_in hw
    refine g_aald (t' := 19) (i' := (v1 : Int32).toNatClampNeg + 2) (t := 15) (i := 0) h hL rfl (by decide) rfl rfl hv8 (C := "FlowGate$Frame") rfl rfl rfl d_W_look_33 ?_
    obtain ⟨M10, hc9, hw⟩ := o_v hw
    refine g_callv h (g_runV (rest := []) h (ct_R_copy hL 0 ((v1 : Int32).toNatClampNeg + 2) M5 (by decide) (ix_lt hv8 (by decide)) hc9) (cwV 1 h.2.2.2.2.1 (g_V m_ml_W_88 m_im_R_copy m_se_R_copy m_in_R m_co_R_copy) rfl rfl rfl (by decide +kernel) ⟨Nat.le_of_ble_eq_true rfl, Nat.le_of_ble_eq_true rfl⟩) (hL.recv h rfl (by decide) ob_19) rfl rfl (Nat.le_of_ble_eq_true rfl) d_W_look_34) ?_
    refine g_aload_n h d_W_look_37 rfl rfl ?_
    refine g_iload_n h d_W_look_38 rfl rfl ?_
    obtain ⟨r13, M12, hc11, hw⟩ := o_b hw
    refine g_calli h (g_runV (rest := []) h (ct_W_perform hL v1 M10 hc11) (cwV 1 h.2.2.2.2.1 (g_V m_ml_W_92 m_im_W_perform m_se_W_perform m_in_W m_co_W_perform) rfl rfl rfl (by decide +kernel) ⟨Nat.le_of_ble_eq_true rfl, Nat.le_of_ble_eq_true rfl⟩) (hL.recv h rfl (by decide) ob_14) rfl rfl (Nat.le_of_ble_eq_true rfl) d_W_look_39) ?_
    refine g_istore_n (lv' := [(2, .int r13), (0, .ref (za Z 14 0)), (1, .int v1)]) h d_W_look_42 rfl (by decide) rfl ?_
    refine g_iload_n h d_W_look_43 rfl rfl ?_
    refine g_if_eq (tgt := 49) h d_W_look_44 (by decide) (fun c14 => ?_) (fun c14 => ?_)
    · have hw := o_t c14 hw
      refine g_aload_n h d_W_look_49 rfl rfl ?_
      refine g_getR (t := 14) (i := 0) (k := 1) (C := "FlowGate$Flow") (T := T_W) (N := 12) h hL rfl (by decide) ob_14 (by decide) rfl (t' := 4) (i' := 0) rfl rfl (fun w hw => mc (in_W w hw)) (mc m_fl_W_40) rfl d_W_look_50 ?_
      refine g_getR (t := 4) (i := 0) (k := 0) (C := "FlowGate$Method") (T := T_M) (N := 14) h hL rfl (by decide) ob_4 (by decide) rfl (t' := 5) (i' := 0) rfl rfl (fun w hw => mc (in_M w hw)) (mc m_fl_W_95) rfl d_W_look_53 ?_
      refine g_iload_n h d_W_look_56 rfl rfl ?_
      obtain ⟨hv15, hw⟩ := o_in hw
      refine g_iald (t := 5) (i := 0) h hL rfl (by decide) rfl rfl hv15 d_W_look_57 ?_
      refine g_bipush (v := 16) h d_W_look_58 (by decide) ?_
      refine g_icmp_ne (tgt := 71) h d_W_look_60 (by decide) (fun c16 => ?_) (fun c16 => ?_)
      · have hw := o_f c16 hw
        refine g_aload_n h d_W_look_71 rfl rfl ?_
        refine g_iload_n h d_W_look_72 rfl rfl ?_
        obtain ⟨r19, M18, hc17, hw⟩ := o_b hw
        refine g_calli h (g_runV (rest := []) h (ct_W_leave hL v1 M12 hc17) (cwV 1 h.2.2.2.2.1 (g_V m_ml_W_102 m_im_W_leave m_se_W_leave m_in_W m_co_W_leave) rfl rfl rfl (by decide +kernel) ⟨Nat.le_of_ble_eq_true rfl, Nat.le_of_ble_eq_true rfl⟩) (hL.recv h rfl (by decide) ob_14) rfl rfl (Nat.le_of_ble_eq_true rfl) d_W_look_73) ?_
        exact g_iret h hQ d_W_look_76 hw
      · have hw := o_t c16 hw
        refine g_aload_n h d_W_look_63 rfl rfl ?_
        refine g_iload_n h d_W_look_64 rfl rfl ?_
        obtain ⟨r22, M21, hc20, hw⟩ := o_b hw
        refine g_calli h (g_runV (rest := []) h (ct_W_comeBack hL v1 M12 hc20) (cwV 1 h.2.2.2.2.1 (g_V m_ml_W_99 m_im_W_comeBack m_se_W_comeBack m_in_W m_co_W_comeBack) rfl rfl rfl (by decide +kernel) ⟨Nat.le_of_ble_eq_true rfl, Nat.le_of_ble_eq_true rfl⟩) (hL.recv h rfl (by decide) ob_14) rfl rfl (Nat.le_of_ble_eq_true rfl) d_W_look_65) ?_
        refine g_goto (tgt := 76) h d_W_look_68 (by decide) ?_
        exact g_iret h hQ d_W_look_76 hw
    · have hw := o_f c14 hw
      refine g_iload_n h d_W_look_47 rfl rfl ?_
      exact g_iret h hQ d_W_look_48 hw
  · have hw := o_f c7 hw
    refine g_iload_n h d_W_look_22 rfl rfl ?_
    exact g_iret h hQ d_W_look_23 hw
set_option maxHeartbeats 4000000 in
set_option maxRecDepth 100000 in
theorem w_W_findChanged_b2 {Z : ZT} {X : XT} (hL : Lay Z sC) (h : Ok Z X "FlowGate$Flow" c_W_findChanged ws_W_findChanged 2 ({ frames := 0, cells := 0, slots := 0, locals := 0 })) {res : Int32 × Mm} (hQ : FinI Z X .int res)  : ∀ (n : Nat) (v1 : Int32) (M : Mm), F_W_findChanged_b2  n v1 M = some res → G Z X M 2 [(0, .ref (za Z 14 0)), (1, .int v1)] [] := by
  intro n
  induction n with
  | zero =>
    intro v1 M hw
    cases hw
  | succ n hK2 =>
    intro v1 M hw
    rw [F_W_findChanged_b2] at hw
    refine g_iload_n h d_W_findChanged_2 rfl rfl ?_
    refine g_aload_n h d_W_findChanged_3 rfl rfl ?_
    refine g_getR (t := 14) (i := 0) (k := 1) (C := "FlowGate$Flow") (T := T_W) (N := 12) h hL rfl (by decide) ob_14 (by decide) rfl (t' := 4) (i' := 0) rfl rfl (fun w hw => mc (in_W w hw)) (mc m_fl_W_40) rfl d_W_findChanged_4 ?_
    refine g_getI (t := 4) (i := 0) (k := 3) (C := "FlowGate$Method") (T := T_M) (N := 14) h hL rfl (by decide) ob_4 (by decide) rfl (fun w hw => mc (in_M w hw)) (mc m_fl_W_69) rfl d_W_findChanged_7 ?_
    refine g_icmp_ge (tgt := 30) h d_W_findChanged_10 (by decide) (fun c1 => ?_) (fun c1 => ?_)
    · have hw := o_t c1 hw
      refine g_aload_n h d_W_findChanged_30 rfl rfl ?_
      refine g_getR (t := 14) (i := 0) (k := 1) (C := "FlowGate$Flow") (T := T_W) (N := 12) h hL rfl (by decide) ob_14 (by decide) rfl (t' := 4) (i' := 0) rfl rfl (fun w hw => mc (in_W w hw)) (mc m_fl_W_40) rfl d_W_findChanged_31 ?_
      refine g_getI (t := 4) (i := 0) (k := 3) (C := "FlowGate$Method") (T := T_M) (N := 14) h hL rfl (by decide) ob_4 (by decide) rfl (fun w hw => mc (in_M w hw)) (mc m_fl_W_69) rfl d_W_findChanged_34 ?_
      exact g_iret h hQ d_W_findChanged_37 hw
    · have hw := o_f c1 hw
      refine g_aload_n h d_W_findChanged_13 rfl rfl ?_
      refine g_getR (t := 14) (i := 0) (k := 4) (C := "FlowGate$Flow") (T := T_W) (N := 12) h hL rfl (by decide) ob_14 (by decide) rfl (t' := 17) (i' := 0) rfl rfl (fun w hw => mc (in_W w hw)) (mc m_fl_W_21) rfl d_W_findChanged_14 ?_
      refine g_iload_n h d_W_findChanged_17 rfl rfl ?_
      obtain ⟨hv2, hw⟩ := o_in hw
      refine g_zald (t := 17) (i := 0) h hL rfl (by decide) rfl rfl hv2 d_W_findChanged_18 ?_
      refine g_if_eq (tgt := 24) h d_W_findChanged_19 (by decide) (fun c3 => ?_) (fun c3 => ?_)
      · have hw := o_t c3 hw
        refine g_iinc (n' := 1) (lw := fun y => [(1, .int y), (0, .ref (za Z 14 0))]) h d_W_findChanged_24 rfl (by decide) (by decide) (fun _ => rfl) (fun n4 en4 => ?_)
        have hw := o_l hw n4 en4
        refine g_goto (tgt := 2) h d_W_findChanged_27 (by decide) ?_
        refine g_sub [1, 0] rfl ?_
        exact hK2 n4 M hw
      · have hw := o_f c3 hw
        refine g_iload_n h d_W_findChanged_22 rfl rfl ?_
        exact g_iret h hQ d_W_findChanged_23 hw
set_option maxHeartbeats 4000000 in
set_option maxRecDepth 100000 in
theorem ct_W_findChanged {Z : ZT} (hL : Lay Z sC)  (M : Mm)  {res : Int32 × Mm} (hw : F_W_findChanged M = some res) : CtI Z y_W_findChanged ws_W_findChanged (({ frames := 0, cells := 0, slots := 0, locals := 0 })) [.ref (za Z 14 0)] M res := by
  refine CtI.of hL (cc := c_W_findChanged) (maxL := 2) (by decide) rfl (Nat.le_of_ble_eq_true rfl) (fun X h hQ => ?_)
  show G Z X M 0 [(0, .ref (za Z 14 0))] []
  rw [F_W_findChanged] at hw
  refine g_iconst (v := 0) h d_W_findChanged_0 (by decide) ?_
  refine g_istore_n (lv' := [(1, .int 0), (0, .ref (za Z 14 0))]) h d_W_findChanged_1 rfl (by decide) rfl ?_
  refine g_sub [1, 0] rfl ?_
  exact w_W_findChanged_b2 hL h hQ  fuel 0 M hw
set_option maxHeartbeats 4000000 in
set_option maxRecDepth 100000 in
theorem w_W_run_b73 {Z : ZT} {X : XT} (hL : Lay Z sC) (h : Ok Z X "FlowGate$Flow" c_W_run ws_W_run 3 ({ frames := 6, cells := 0, slots := 0, locals := 172 })) {res : Int32 × Mm} (hQ : FinI Z X .int res)  (v1 : Int32) (v2 : Int32) (M : Mm)  (hw : F_W_run_b73 v1 v2 M = some res) : G Z X M 73 [(0, .ref (za Z 14 0)), (1, .int v1), (2, .int v2)] [] := by
  rw [F_W_run_b73] at hw
  refine g_iload_n h d_W_run_73 rfl rfl ?_
  refine g_if_ne (tgt := 96) h d_W_run_74 (by decide) (fun c1 => ?_) (fun c1 => ?_)
  · have hw := o_f c1 hw
    refine g_iload_n h d_W_run_96 rfl rfl ?_
    exact g_iret h hQ d_W_run_97 hw
  · have hw := o_t c1 hw
    refine g_iload_n h d_W_run_77 rfl rfl ?_
    refine g_aload_n h d_W_run_78 rfl rfl ?_
    refine g_getR (t := 14) (i := 0) (k := 1) (C := "FlowGate$Flow") (T := T_W) (N := 12) h hL rfl (by decide) ob_14 (by decide) rfl (t' := 4) (i' := 0) rfl rfl (fun w hw => mc (in_W w hw)) (mc m_fl_W_40) rfl d_W_run_79 ?_
    refine g_getI (t := 4) (i := 0) (k := 3) (C := "FlowGate$Method") (T := T_M) (N := 14) h hL rfl (by decide) ob_4 (by decide) rfl (fun w hw => mc (in_M w hw)) (mc m_fl_W_69) rfl d_W_run_82 ?_
    refine g_icmp_ge (tgt := 96) h d_W_run_85 (by decide) (fun c2 => ?_) (fun c2 => ?_)
    · have hw := o_t c2 hw
      refine g_iload_n h d_W_run_96 rfl rfl ?_
      exact g_iret h hQ d_W_run_97 hw
    · have hw := o_f c2 hw
      refine g_aload_n h d_W_run_88 rfl rfl ?_
      refine g_iload_n h d_W_run_89 rfl rfl ?_
      refine g_putI (t := 14) (i := 0) (k := 9) (C := "FlowGate$Flow") (T := T_W) (N := 12) h hL rfl (by decide) ob_14 (by decide) rfl (fun w hw => mc (in_W w hw)) ty_W ty_W_ok nm_W (mc m_fl_W_82) rfl rfl rfl d_W_run_90 ?_
      refine g_mem (fun M3 eM3 => ?_)
      have hw := o_l hw M3 eM3
      refine g_bipush (v := 9) h d_W_run_93 (by decide) ?_
      exact g_iret h hQ d_W_run_95 hw
set_option maxHeartbeats 4000000 in
set_option maxRecDepth 100000 in
theorem w_W_run_b24 {Z : ZT} {X : XT} (hL : Lay Z sC) (h : Ok Z X "FlowGate$Flow" c_W_run ws_W_run 3 ({ frames := 6, cells := 0, slots := 0, locals := 172 })) {res : Int32 × Mm} (hQ : FinI Z X .int res)  : ∀ (n : Nat) (v1 : Int32) (v2 : Int32) (M : Mm), F_W_run_b24  n v1 v2 M = some res → G Z X M 24 [(0, .ref (za Z 14 0)), (1, .int v1), (2, .int v2)] [] := by
  intro n
  induction n with
  | zero =>
    intro v1 v2 M hw
    cases hw
  | succ n hK24 =>
    intro v1 v2 M hw
    rw [F_W_run_b24] at hw
    refine g_iload_n h d_W_run_24 rfl rfl ?_
    refine g_if_ne (tgt := 73) h d_W_run_25 (by decide) (fun c4 => ?_) (fun c4 => ?_)
    · have hw := o_f c4 hw
      refine g_sub [0, 1, 2] rfl ?_
      exact w_W_run_b73 hL h hQ  v1 v2 M hw
    · have hw := o_t c4 hw
      refine g_iload_n h d_W_run_28 rfl rfl ?_
      refine g_aload_n h d_W_run_29 rfl rfl ?_
      refine g_getR (t := 14) (i := 0) (k := 1) (C := "FlowGate$Flow") (T := T_W) (N := 12) h hL rfl (by decide) ob_14 (by decide) rfl (t' := 4) (i' := 0) rfl rfl (fun w hw => mc (in_W w hw)) (mc m_fl_W_40) rfl d_W_run_30 ?_
      refine g_getI (t := 4) (i := 0) (k := 3) (C := "FlowGate$Method") (T := T_M) (N := 14) h hL rfl (by decide) ob_4 (by decide) rfl (fun w hw => mc (in_M w hw)) (mc m_fl_W_69) rfl d_W_run_33 ?_
      refine g_icmp_ge (tgt := 73) h d_W_run_36 (by decide) (fun c5 => ?_) (fun c5 => ?_)
      · have hw := o_t c5 hw
        refine g_sub [0, 1, 2] rfl ?_
        exact w_W_run_b73 hL h hQ  v1 v2 M hw
      · have hw := o_f c5 hw
        refine g_aload_n h d_W_run_39 rfl rfl ?_
        refine g_getI (t := 14) (i := 0) (k := 8) (C := "FlowGate$Flow") (T := T_W) (N := 12) h hL rfl (by decide) ob_14 (by decide) rfl (fun w hw => mc (in_W w hw)) (mc m_fl_W_50) rfl d_W_run_40 ?_
        refine g_sipush (v := 2999) h d_W_run_43 (by decide) ?_
        refine g_icmp_ge (tgt := 73) h d_W_run_46 (by decide) (fun c6 => ?_) (fun c6 => ?_)
        · have hw := o_t c6 hw
          refine g_sub [0, 1, 2] rfl ?_
          exact w_W_run_b73 hL h hQ  v1 v2 M hw
        · have hw := o_f c6 hw
          refine g_aload_n h d_W_run_49 rfl rfl ?_
          refine g_dup h d_W_run_50 rfl ?_
          refine g_getI (t := 14) (i := 0) (k := 8) (C := "FlowGate$Flow") (T := T_W) (N := 12) h hL rfl (by decide) ob_14 (by decide) rfl (fun w hw => mc (in_W w hw)) (mc m_fl_W_50) rfl d_W_run_51 ?_
          refine g_iconst (v := 1) h d_W_run_54 (by decide) ?_
          refine g_iadd h d_W_run_55 ?_
          refine g_putI (t := 14) (i := 0) (k := 8) (C := "FlowGate$Flow") (T := T_W) (N := 12) h hL rfl (by decide) ob_14 (by decide) rfl (fun w hw => mc (in_W w hw)) ty_W ty_W_ok nm_W (mc m_fl_W_50) rfl rfl rfl d_W_run_56 ?_
          refine g_mem (fun M7 eM7 => ?_)
          have hw := o_l hw M7 eM7
          refine g_aload_n h d_W_run_59 rfl rfl ?_
          refine g_iload_n h d_W_run_60 rfl rfl ?_
          obtain ⟨r10, M9, hc8, hw⟩ := o_b hw
          refine g_calli h (g_runV (rest := []) h (ct_W_look hL v2 M7 hc8) (cwV 1 h.2.2.2.2.1 (g_V m_ml_W_74 m_im_W_look m_se_W_look m_in_W m_co_W_look) rfl rfl rfl (by decide +kernel) ⟨Nat.le_of_ble_eq_true rfl, Nat.le_of_ble_eq_true rfl⟩) (hL.recv h rfl (by decide) ob_14) rfl rfl (Nat.le_of_ble_eq_true rfl) d_W_run_61) ?_
          refine g_istore_n (lv' := [(1, .int r10), (0, .ref (za Z 14 0)), (2, .int v2)]) h d_W_run_64 rfl (by decide) rfl ?_
          refine g_aload_n h d_W_run_65 rfl rfl ?_
          obtain ⟨r13, M12, hc11, hw⟩ := o_b hw
          refine g_calli h (g_runV (rest := []) h (ct_W_findChanged hL M9 hc11) (cwV 0 h.2.2.2.2.1 (g_V m_ml_W_78 m_im_W_findChanged m_se_W_findChanged m_in_W m_co_W_findChanged) rfl rfl rfl (by decide +kernel) ⟨Nat.le_of_ble_eq_true rfl, Nat.le_of_ble_eq_true rfl⟩) (hL.recv h rfl (by decide) ob_14) rfl rfl (Nat.le_of_ble_eq_true rfl) d_W_run_66) ?_
          refine g_istore_n (lv' := [(2, .int r13), (1, .int r10), (0, .ref (za Z 14 0))]) h d_W_run_69 rfl (by decide) rfl ?_
          refine g_goto (tgt := 24) h d_W_run_70 (by decide) ?_
          refine g_sub [2, 1, 0] rfl ?_
          exact hK24 r10 r13 M12 hw
set_option maxHeartbeats 4000000 in
set_option maxRecDepth 100000 in
theorem ct_W_run {Z : ZT} (hL : Lay Z sC)  (M : Mm)  {res : Int32 × Mm} (hw : F_W_run M = some res) : CtI Z y_W_run ws_W_run (({ frames := 6, cells := 0, slots := 0, locals := 172 })) [.ref (za Z 14 0)] M res := by
  refine CtI.of hL (cc := c_W_run) (maxL := 3) (by decide) rfl (Nat.le_of_ble_eq_true rfl) (fun X h hQ => ?_)
  show G Z X M 0 [(0, .ref (za Z 14 0))] []
  rw [F_W_run] at hw
  refine g_aload_n h d_W_run_0 rfl rfl ?_
  refine g_getR (t := 14) (i := 0) (k := 7) (C := "FlowGate$Flow") (T := T_W) (N := 12) h hL rfl (by decide) ob_14 (by decide) rfl (t' := 19) (i' := 1) rfl rfl (fun w hw => mc (in_W w hw)) (mc m_fl_W_33) rfl d_W_run_1 ?_
  refine g_aload_n h d_W_run_4 rfl rfl ?_
  refine g_getR (t := 14) (i := 0) (k := 1) (C := "FlowGate$Flow") (T := T_W) (N := 12) h hL rfl (by decide) ob_14 (by decide) rfl (t' := 4) (i' := 0) rfl rfl (fun w hw => mc (in_W w hw)) (mc m_fl_W_40) rfl d_W_run_5 ?_
  obtain ⟨M15, hc14, hw⟩ := o_v hw
  refine g_callv h (g_runV (rest := []) h (ct_R_start hL 1 M (by decide) hc14) (cwV 1 h.2.2.2.2.1 (g_V m_ml_W_61 m_im_R_start m_se_R_start m_in_R m_co_R_start) rfl rfl rfl (by decide +kernel) ⟨Nat.le_of_ble_eq_true rfl, Nat.le_of_ble_eq_true rfl⟩) (hL.recv h rfl (by decide) ob_19) rfl rfl (Nat.le_of_ble_eq_true rfl) d_W_run_8) ?_
  refine g_aload_n h d_W_run_11 rfl rfl ?_
  refine g_iconst (v := -1) h d_W_run_12 (by decide) ?_
  refine g_iconst (v := 0) h d_W_run_13 (by decide) ?_
  refine g_aload_n h d_W_run_14 rfl rfl ?_
  refine g_getR (t := 14) (i := 0) (k := 7) (C := "FlowGate$Flow") (T := T_W) (N := 12) h hL rfl (by decide) ob_14 (by decide) rfl (t' := 19) (i' := 1) rfl rfl (fun w hw => mc (in_W w hw)) (mc m_fl_W_33) rfl d_W_run_15 ?_
  obtain ⟨r18, M17, hc16, hw⟩ := o_b hw
  refine g_calli h (g_runV (rest := []) h (ct_W_meet hL ((-1)) 0 1 M15 (by decide) hc16) (cwV 3 h.2.2.2.2.1 (g_V m_ml_W_65 m_im_W_meet m_se_W_meet m_in_W m_co_W_meet) rfl rfl rfl (by decide +kernel) ⟨Nat.le_of_ble_eq_true rfl, Nat.le_of_ble_eq_true rfl⟩) (hL.recv h rfl (by decide) ob_14) rfl rfl (Nat.le_of_ble_eq_true rfl) d_W_run_18) ?_
  refine g_istore_n (lv' := [(1, .int r18), (0, .ref (za Z 14 0))]) h d_W_run_21 rfl (by decide) rfl ?_
  refine g_iconst (v := 0) h d_W_run_22 (by decide) ?_
  refine g_istore_n (lv' := [(2, .int 0), (1, .int r18), (0, .ref (za Z 14 0))]) h d_W_run_23 rfl (by decide) rfl ?_
  refine g_sub [2, 1, 0] rfl ?_
  exact w_W_run_b24 hL h hQ  fuel r18 0 M17 hw
set_option maxHeartbeats 4000000 in
set_option maxRecDepth 100000 in
theorem ct_G_verify {Z : ZT} (hL : Lay Z sC)  (M : Mm)  {res : Int32 × Mm} (hw : F_G_verify M = some res) : CtI Z y_G_verify ws_G_verify (({ frames := 7, cells := 0, slots := 0, locals := 194 })) [.ref (za Z 0 0)] M res := by
  refine CtI.of hL (cc := c_G_verify) (maxL := 2) (by decide) rfl (Nat.le_of_ble_eq_true rfl) (fun X h hQ => ?_)
  show G Z X M 0 [(0, .ref (za Z 0 0))] []
  rw [F_G_verify] at hw
  refine g_aload_n h d_G_verify_0 rfl rfl ?_
  refine g_getR (t := 0) (i := 0) (k := 3) (C := "FlowGate") (T := T_G) (N := 6) h hL rfl (by decide) ob_0 (by decide) rfl (t' := 14) (i' := 0) rfl rfl (fun w hw => mc (in_G w hw)) (mc m_fl_G_35) rfl d_G_verify_1 ?_
  obtain ⟨M2, hc1, hw⟩ := o_v hw
  refine g_callv h (g_runV (rest := []) h (ct_W_forget hL M hc1) (cwV 0 h.2.2.2.2.1 (g_V m_ml_G_93 m_im_W_forget m_se_W_forget m_in_W m_co_W_forget) rfl rfl rfl (by decide +kernel) ⟨Nat.le_of_ble_eq_true rfl, Nat.le_of_ble_eq_true rfl⟩) (hL.recv h rfl (by decide) ob_14) rfl rfl (Nat.le_of_ble_eq_true rfl) d_G_verify_4) ?_
  refine g_aload_n h d_G_verify_7 rfl rfl ?_
  refine g_aload_n h d_G_verify_8 rfl rfl ?_
  refine g_getR (t := 0) (i := 0) (k := 2) (C := "FlowGate") (T := T_G) (N := 6) h hL rfl (by decide) ob_0 (by decide) rfl (t' := 13) (i' := 0) rfl rfl (fun w hw => mc (in_G w hw)) (mc m_fl_G_28) rfl d_G_verify_9 ?_
  obtain ⟨r5, M4, hc3, hw⟩ := o_b hw
  refine g_calli h (g_runV (rest := [.ref (za Z 0 0)]) h (ct_O_findFault hL M2 hc3) (cwV 0 h.2.2.2.2.1 (g_V m_ml_G_96 m_im_O_findFault m_se_O_findFault m_in_O m_co_O_findFault) rfl rfl rfl (by decide +kernel) ⟨Nat.le_of_ble_eq_true rfl, Nat.le_of_ble_eq_true rfl⟩) (hL.recv h rfl (by decide) ob_13) rfl rfl (Nat.le_of_ble_eq_true rfl) d_G_verify_12) ?_
  refine g_putI (t := 0) (i := 0) (k := 4) (C := "FlowGate") (T := T_G) (N := 6) h hL rfl (by decide) ob_0 (by decide) rfl (fun w hw => mc (in_G w hw)) ty_G ty_G_ok nm_G (mc m_fl_G_39) rfl rfl rfl d_G_verify_15 ?_
  refine g_mem (fun M6 eM6 => ?_)
  have hw := o_l hw M6 eM6
  refine g_aload_n h d_G_verify_18 rfl rfl ?_
  refine g_getI (t := 0) (i := 0) (k := 4) (C := "FlowGate") (T := T_G) (N := 6) h hL rfl (by decide) ob_0 (by decide) rfl (fun w hw => mc (in_G w hw)) (mc m_fl_G_39) rfl d_G_verify_19 ?_
  refine g_iconst (v := -1) h d_G_verify_22 (by decide) ?_
  refine g_icmp_eq (tgt := 28) h d_G_verify_23 (by decide) (fun c7 => ?_) (fun c7 => ?_)
  · have hw := o_t c7 hw
    refine g_aload_n h d_G_verify_28 rfl rfl ?_
    refine g_getR (t := 0) (i := 0) (k := 3) (C := "FlowGate") (T := T_G) (N := 6) h hL rfl (by decide) ob_0 (by decide) rfl (t' := 14) (i' := 0) rfl rfl (fun w hw => mc (in_G w hw)) (mc m_fl_G_35) rfl d_G_verify_29 ?_
    obtain ⟨r10, M9, hc8, hw⟩ := o_b hw
    refine g_calli h (g_runV (rest := []) h (ct_W_run hL M6 hc8) (cwV 0 h.2.2.2.2.1 (g_V m_ml_G_100 m_im_W_run m_se_W_run m_in_W m_co_W_run) rfl rfl rfl (by decide +kernel) ⟨Nat.le_of_ble_eq_true rfl, Nat.le_of_ble_eq_true rfl⟩) (hL.recv h rfl (by decide) ob_14) rfl rfl (Nat.le_of_ble_eq_true rfl) d_G_verify_32) ?_
    refine g_istore_n (lv' := [(1, .int r10), (0, .ref (za Z 0 0))]) h d_G_verify_35 rfl (by decide) rfl ?_
    refine g_iload_n h d_G_verify_36 rfl rfl ?_
    refine g_if_eq (tgt := 53) h d_G_verify_37 (by decide) (fun c11 => ?_) (fun c11 => ?_)
    · have hw := o_t c11 hw
      refine g_aload_n h d_G_verify_53 rfl rfl ?_
      refine g_dup h d_G_verify_54 rfl ?_
      refine g_getI (t := 0) (i := 0) (k := 5) (C := "FlowGate") (T := T_G) (N := 6) h hL rfl (by decide) ob_0 (by decide) rfl (fun w hw => mc (in_G w hw)) (mc m_fl_G_104) rfl d_G_verify_55 ?_
      refine g_iconst (v := 1) h d_G_verify_58 (by decide) ?_
      refine g_iadd h d_G_verify_59 ?_
      refine g_putI (t := 0) (i := 0) (k := 5) (C := "FlowGate") (T := T_G) (N := 6) h hL rfl (by decide) ob_0 (by decide) rfl (fun w hw => mc (in_G w hw)) ty_G ty_G_ok nm_G (mc m_fl_G_104) rfl rfl rfl d_G_verify_60 ?_
      refine g_mem (fun M12 eM12 => ?_)
      have hw := o_l hw M12 eM12
      refine g_iconst (v := 0) h d_G_verify_63 (by decide) ?_
      exact g_iret h hQ d_G_verify_64 hw
    · have hw := o_f c11 hw
      refine g_aload_n h d_G_verify_40 rfl rfl ?_
      refine g_aload_n h d_G_verify_41 rfl rfl ?_
      refine g_getR (t := 0) (i := 0) (k := 3) (C := "FlowGate") (T := T_G) (N := 6) h hL rfl (by decide) ob_0 (by decide) rfl (t' := 14) (i' := 0) rfl rfl (fun w hw => mc (in_G w hw)) (mc m_fl_G_35) rfl d_G_verify_42 ?_
      refine g_getI (t := 14) (i := 0) (k := 9) (C := "FlowGate$Flow") (T := T_W) (N := 12) h hL rfl (by decide) ob_14 (by decide) rfl (fun w hw => mc (in_W w hw)) (mc m_fl_G_103) rfl d_G_verify_45 ?_
      refine g_putI (t := 0) (i := 0) (k := 4) (C := "FlowGate") (T := T_G) (N := 6) h hL rfl (by decide) ob_0 (by decide) rfl (fun w hw => mc (in_G w hw)) ty_G ty_G_ok nm_G (mc m_fl_G_39) rfl rfl rfl d_G_verify_48 ?_
      refine g_mem (fun M13 eM13 => ?_)
      have hw := o_l hw M13 eM13
      refine g_iload_n h d_G_verify_51 rfl rfl ?_
      exact g_iret h hQ d_G_verify_52 hw
  · have hw := o_f c7 hw
    refine g_iconst (v := 1) h d_G_verify_26 (by decide) ?_
    exact g_iret h hQ d_G_verify_27 hw
set_option maxHeartbeats 4000000 in
set_option maxRecDepth 100000 in
theorem ct_G_place {Z : ZT} (hL : Lay Z sC)  (M : Mm)  {res : Int32 × Mm} (hw : F_G_place M = some res) : CtI Z y_G_place ws_G_place (({ frames := 0, cells := 0, slots := 0, locals := 0 })) [.ref (za Z 0 0)] M res := by
  refine CtI.of hL (cc := c_G_place) (maxL := 1) (by decide) rfl (Nat.le_of_ble_eq_true rfl) (fun X h hQ => ?_)
  show G Z X M 0 [(0, .ref (za Z 0 0))] []
  rw [F_G_place] at hw
  refine g_aload_n h d_G_place_0 rfl rfl ?_
  refine g_getI (t := 0) (i := 0) (k := 4) (C := "FlowGate") (T := T_G) (N := 6) h hL rfl (by decide) ob_0 (by decide) rfl (fun w hw => mc (in_G w hw)) (mc m_fl_G_39) rfl d_G_place_1 ?_
  exact g_iret h hQ d_G_place_4 hw
set_option maxHeartbeats 4000000 in
set_option maxRecDepth 100000 in
theorem ct_JL_bitCount {Z : ZT} (hL : Lay Z sC) (v0 : Int64) (M : Mm)  {res : Int32 × Mm} (hw : F_JL_bitCount v0 M = some res) : CtI Z y_JL_bitCount ws_JL_bitCount (({ frames := 0, cells := 0, slots := 0, locals := 0 })) [.long v0] M res := by
  refine CtI.of hL (cc := c_JL_bitCount) (maxL := 2) (by decide) rfl (Nat.le_of_ble_eq_true rfl) (fun X h hQ => ?_)
  show G Z X M 0 [(0, .long v0)] []
  rw [F_JL_bitCount] at hw
  refine g_lload_n h d_JL_bitCount_0 rfl rfl ?_
  refine g_lload_n h d_JL_bitCount_1 rfl rfl ?_
  refine g_iconst (v := 1) h d_JL_bitCount_2 (by decide) ?_
  refine g_lushr h d_JL_bitCount_3 ?_
  refine g_ldc2 (v := 6148914691236517205) h (mc m_kl_JL_314) d_JL_bitCount_4 ?_
  refine g_land h d_JL_bitCount_7 ?_
  refine g_lsub h d_JL_bitCount_8 ?_
  refine g_topl (fun n1 en1 => ?_)
  have hw := o_l hw n1 en1
  refine g_lstore_n (lv' := [(0, .long n1)]) h d_JL_bitCount_9 rfl (by decide) rfl ?_
  refine g_lload_n h d_JL_bitCount_10 rfl rfl ?_
  refine g_ldc2 (v := 3689348814741910323) h (mc m_kl_JL_316) d_JL_bitCount_11 ?_
  refine g_land h d_JL_bitCount_14 ?_
  refine g_lload_n h d_JL_bitCount_15 rfl rfl ?_
  refine g_iconst (v := 2) h d_JL_bitCount_16 (by decide) ?_
  refine g_lushr h d_JL_bitCount_17 ?_
  refine g_ldc2 (v := 3689348814741910323) h (mc m_kl_JL_316) d_JL_bitCount_18 ?_
  refine g_land h d_JL_bitCount_21 ?_
  refine g_ladd h d_JL_bitCount_22 ?_
  refine g_topl (fun n2 en2 => ?_)
  have hw := o_l hw n2 en2
  refine g_lstore_n (lv' := [(0, .long n2)]) h d_JL_bitCount_23 rfl (by decide) rfl ?_
  refine g_lload_n h d_JL_bitCount_24 rfl rfl ?_
  refine g_lload_n h d_JL_bitCount_25 rfl rfl ?_
  refine g_iconst (v := 4) h d_JL_bitCount_26 (by decide) ?_
  refine g_lushr h d_JL_bitCount_27 ?_
  refine g_ladd h d_JL_bitCount_28 ?_
  refine g_ldc2 (v := 1085102592571150095) h (mc m_kl_JL_318) d_JL_bitCount_29 ?_
  refine g_land h d_JL_bitCount_32 ?_
  refine g_topl (fun n3 en3 => ?_)
  have hw := o_l hw n3 en3
  refine g_lstore_n (lv' := [(0, .long n3)]) h d_JL_bitCount_33 rfl (by decide) rfl ?_
  refine g_lload_n h d_JL_bitCount_34 rfl rfl ?_
  refine g_lload_n h d_JL_bitCount_35 rfl rfl ?_
  refine g_bipush (v := 8) h d_JL_bitCount_36 (by decide) ?_
  refine g_lushr h d_JL_bitCount_38 ?_
  refine g_ladd h d_JL_bitCount_39 ?_
  refine g_topl (fun n4 en4 => ?_)
  have hw := o_l hw n4 en4
  refine g_lstore_n (lv' := [(0, .long n4)]) h d_JL_bitCount_40 rfl (by decide) rfl ?_
  refine g_lload_n h d_JL_bitCount_41 rfl rfl ?_
  refine g_lload_n h d_JL_bitCount_42 rfl rfl ?_
  refine g_bipush (v := 16) h d_JL_bitCount_43 (by decide) ?_
  refine g_lushr h d_JL_bitCount_45 ?_
  refine g_ladd h d_JL_bitCount_46 ?_
  refine g_topl (fun n5 en5 => ?_)
  have hw := o_l hw n5 en5
  refine g_lstore_n (lv' := [(0, .long n5)]) h d_JL_bitCount_47 rfl (by decide) rfl ?_
  refine g_lload_n h d_JL_bitCount_48 rfl rfl ?_
  refine g_lload_n h d_JL_bitCount_49 rfl rfl ?_
  refine g_bipush (v := 32) h d_JL_bitCount_50 (by decide) ?_
  refine g_lushr h d_JL_bitCount_52 ?_
  refine g_ladd h d_JL_bitCount_53 ?_
  refine g_topl (fun n6 en6 => ?_)
  have hw := o_l hw n6 en6
  refine g_lstore_n (lv' := [(0, .long n6)]) h d_JL_bitCount_54 rfl (by decide) rfl ?_
  refine g_lload_n h d_JL_bitCount_55 rfl rfl ?_
  refine g_l2i h d_JL_bitCount_56 ?_
  refine g_bipush (v := 127) h d_JL_bitCount_57 (by decide) ?_
  refine g_iand h d_JL_bitCount_59 ?_
  exact g_iret h hQ d_JL_bitCount_60 hw
set_option maxHeartbeats 4000000 in
set_option maxRecDepth 100000 in
theorem w_R_findSub_b31 {Z : ZT} {X : XT} (hL : Lay Z sC) (h : Ok Z X "FlowGate$Frame" c_R_findSub ws_R_findSub 4 ({ frames := 1, cells := 0, slots := 0, locals := 21 })) {res : Int32 × Mm} (hQ : FinI Z X .int res) {K4 : Nat → Int32 → Int32 → Int32 → Mm → Option (Int32 × Mm)} (hK4 : ∀ (i0 : Nat) (v1 : Int32) (v2 : Int32) (v3 : Int32) (M : Mm), i0 < cnt 19 → K4 i0 v1 v2 v3 M = some res → G Z X M 4 [(0, .ref (za Z 19 i0)), (1, .int v1), (2, .int v2), (3, .int v3)] []) (i0 : Nat) (v1 : Int32) (v2 : Int32) (v3 : Int32) (M : Mm) (hbi0 : i0 < cnt 19) (hw : F_R_findSub_b31 K4 i0 v1 v2 v3 M = some res) : G Z X M 31 [(0, .ref (za Z 19 i0)), (1, .int v1), (2, .int v2), (3, .int v3)] [] := by
  rw [F_R_findSub_b31] at hw
  refine g_iinc (n' := 1) (lw := fun y => [(3, .int y), (0, .ref (za Z 19 i0)), (1, .int v1), (2, .int v2)]) h d_R_findSub_31 rfl (by decide) (by decide) (fun _ => rfl) (fun n1 en1 => ?_)
  have hw := o_l hw n1 en1
  refine g_goto (tgt := 4) h d_R_findSub_34 (by decide) ?_
  refine g_sub [1, 2, 3, 0] rfl ?_
  exact hK4 i0 v1 v2 n1 M hbi0 hw
set_option maxHeartbeats 4000000 in
set_option maxRecDepth 100000 in
theorem w_R_findSub_b4 {Z : ZT} {X : XT} (hL : Lay Z sC) (h : Ok Z X "FlowGate$Frame" c_R_findSub ws_R_findSub 4 ({ frames := 1, cells := 0, slots := 0, locals := 21 })) {res : Int32 × Mm} (hQ : FinI Z X .int res)  : ∀ (n : Nat) (i0 : Nat) (v1 : Int32) (v2 : Int32) (v3 : Int32) (M : Mm), i0 < cnt 19 → F_R_findSub_b4  n i0 v1 v2 v3 M = some res → G Z X M 4 [(0, .ref (za Z 19 i0)), (1, .int v1), (2, .int v2), (3, .int v3)] [] := by
  intro n
  induction n with
  | zero =>
    intro i0 v1 v2 v3 M hbi0 hw
    cases hw
  | succ n hK4 =>
    intro i0 v1 v2 v3 M hbi0 hw
    rw [F_R_findSub_b4] at hw
    refine g_iload_n h d_R_findSub_4 rfl rfl ?_
    refine g_bipush (v := 48) h d_R_findSub_5 (by decide) ?_
    refine g_icmp_ge (tgt := 37) h d_R_findSub_7 (by decide) (fun c2 => ?_) (fun c2 => ?_)
    · have hw := o_t c2 hw
      refine g_iconst (v := -1) h d_R_findSub_37 (by decide) ?_
      exact g_iret h hQ d_R_findSub_38 hw
    · have hw := o_f c2 hw
      refine g_aload_n h d_R_findSub_10 rfl rfl ?_
      refine g_iload_n h d_R_findSub_11 rfl rfl ?_
      refine g_calli h (g_runV (rest := []) h (ct_R_isIn hL i0 v3 M hbi0 (p_R_isIn i0 v3 M)) (cwV 1 h.2.2.2.2.1 (g_V m_ml_R_69 m_im_R_isIn m_se_R_isIn m_in_R m_co_R_isIn) rfl rfl rfl (by decide +kernel) ⟨Nat.le_of_ble_eq_true rfl, Nat.le_of_ble_eq_true rfl⟩) (hL.recv h rfl hbi0 ob_19) rfl rfl (Nat.le_of_ble_eq_true rfl) d_R_findSub_12) ?_
      refine g_topi (fun r4 er4 => ?_)
      have hw := o_l hw r4 er4
      refine g_if_ne (tgt := 21) h d_R_findSub_15 (by decide) (fun c5 => ?_) (fun c5 => ?_)
      · have hw := o_f c5 hw
        refine g_iload_n h d_R_findSub_21 rfl rfl ?_
        refine g_iload_n h d_R_findSub_22 rfl rfl ?_
        refine g_icmp_ne (tgt := 28) h d_R_findSub_23 (by decide) (fun c6 => ?_) (fun c6 => ?_)
        · have hw := o_f c6 hw
          refine g_iinc (n' := 1) (lw := fun y => [(2, .int y), (0, .ref (za Z 19 i0)), (1, .int v1), (3, .int v3)]) h d_R_findSub_28 rfl (by decide) (by decide) (fun _ => rfl) (fun n7 en7 => ?_)
          have hw := o_l hw n7 en7
          refine g_sub [1, 2, 0, 3] rfl ?_
          exact w_R_findSub_b31 hL h hQ hK4 i0 v1 n7 v3 M hbi0 hw
        · have hw := o_t c6 hw
          refine g_iload_n h d_R_findSub_26 rfl rfl ?_
          exact g_iret h hQ d_R_findSub_27 hw
      · have hw := o_t c5 hw
        refine g_goto (tgt := 31) h d_R_findSub_18 (by decide) ?_
        refine g_sub [0, 1, 2, 3] rfl ?_
        exact w_R_findSub_b31 hL h hQ hK4 i0 v1 v2 v3 M hbi0 hw
set_option maxHeartbeats 4000000 in
set_option maxRecDepth 100000 in
theorem ct_R_findSub {Z : ZT} (hL : Lay Z sC) (i0 : Nat) (v1 : Int32) (M : Mm) (hbi0 : i0 < cnt 19) {res : Int32 × Mm} (hw : F_R_findSub i0 v1 M = some res) : CtI Z y_R_findSub ws_R_findSub (({ frames := 1, cells := 0, slots := 0, locals := 21 })) [.ref (za Z 19 i0), .int v1] M res := by
  refine CtI.of hL (cc := c_R_findSub) (maxL := 4) (by decide) rfl (Nat.le_of_ble_eq_true rfl) (fun X h hQ => ?_)
  show G Z X M 0 [(0, .ref (za Z 19 i0)), (1, .int v1)] []
  rw [F_R_findSub] at hw
  refine g_iconst (v := 0) h d_R_findSub_0 (by decide) ?_
  refine g_istore_n (lv' := [(2, .int 0), (0, .ref (za Z 19 i0)), (1, .int v1)]) h d_R_findSub_1 rfl (by decide) rfl ?_
  refine g_iconst (v := 0) h d_R_findSub_2 (by decide) ?_
  refine g_istore_n (lv' := [(3, .int 0), (2, .int 0), (0, .ref (za Z 19 i0)), (1, .int v1)]) h d_R_findSub_3 rfl (by decide) rfl ?_
  refine g_sub [2, 3, 1, 0] rfl ?_
  exact w_R_findSub_b4 hL h hQ  fuel i0 v1 0 0 M hbi0 hw
