set_option maxHeartbeats 4000000 in
set_option maxRecDepth 100000 in
theorem ct_W_perform {Z : ZT} (hL : Lay Z sC) (v1 : Int32) (M : Mm)  {res : Int32 × Mm} (hw : F_W_perform v1 M = some res) : CtI Z y_W_perform ws_W_perform (({ frames := 4, cells := 0, slots := 0, locals := 93 })) [.ref (za Z 14 0), .int v1] M res := by
  refine CtI.of hL (cc := c_W_perform) (maxL := 5) (by decide) rfl (Nat.le_of_ble_eq_true rfl) (fun X h hQ => ?_)
  show G Z X M 0 [(0, .ref (za Z 14 0)), (1, .int v1)] []
  rw [F_W_perform] at hw
  refine g_aload_n h d_W_perform_0 rfl rfl ?_
  refine g_getR (t := 14) (i := 0) (k := 1) (C := "FlowGate$Flow") (T := T_W) (N := 12) h hL rfl (by decide) ob_14 (by decide) rfl (t' := 4) (i' := 0) rfl rfl (fun w hw => mc (in_W w hw)) (mc m_fl_W_40) rfl d_W_perform_1 ?_
  refine g_getR (t := 4) (i := 0) (k := 1) (C := "FlowGate$Method") (T := T_M) (N := 14) h hL rfl (by decide) ob_4 (by decide) rfl (t' := 6) (i' := 0) rfl rfl (fun w hw => mc (in_M w hw)) (mc m_fl_W_150) rfl d_W_perform_4 ?_
  refine g_iload_n h d_W_perform_7 rfl rfl ?_
  obtain ⟨hv1, hw⟩ := o_in hw
  refine g_iald (t := 6) (i := 0) h hL rfl (by decide) rfl rfl hv1 d_W_perform_8 ?_
  refine g_topi (fun n2 en2 => ?_)
  have hw := o_l hw n2 en2
  refine g_istore_n (lv' := [(2, .int n2), (0, .ref (za Z 14 0)), (1, .int v1)]) h d_W_perform_9 rfl (by decide) rfl ?_
  refine g_aload_n h d_W_perform_10 rfl rfl ?_
  refine g_getR (t := 14) (i := 0) (k := 1) (C := "FlowGate$Flow") (T := T_W) (N := 12) h hL rfl (by decide) ob_14 (by decide) rfl (t' := 4) (i' := 0) rfl rfl (fun w hw => mc (in_W w hw)) (mc m_fl_W_40) rfl d_W_perform_11 ?_
  refine g_getR (t := 4) (i := 0) (k := 2) (C := "FlowGate$Method") (T := T_M) (N := 14) h hL rfl (by decide) ob_4 (by decide) rfl (t' := 7) (i' := 0) rfl rfl (fun w hw => mc (in_M w hw)) (mc m_fl_W_143) rfl d_W_perform_14 ?_
  refine g_iload_n h d_W_perform_17 rfl rfl ?_
  obtain ⟨hv3, hw⟩ := o_in hw
  refine g_iald (t := 7) (i := 0) h hL rfl (by decide) rfl rfl hv3 d_W_perform_18 ?_
  refine g_topi (fun n4 en4 => ?_)
  have hw := o_l hw n4 en4
  refine g_istore_n (lv' := [(3, .int n4), (2, .int n2), (0, .ref (za Z 14 0)), (1, .int v1)]) h d_W_perform_19 rfl (by decide) rfl ?_
  refine g_aload_n h d_W_perform_20 rfl rfl ?_
  refine g_getR (t := 14) (i := 0) (k := 1) (C := "FlowGate$Flow") (T := T_W) (N := 12) h hL rfl (by decide) ob_14 (by decide) rfl (t' := 4) (i' := 0) rfl rfl (fun w hw => mc (in_W w hw)) (mc m_fl_W_40) rfl d_W_perform_21 ?_
  refine g_getR (t := 4) (i := 0) (k := 0) (C := "FlowGate$Method") (T := T_M) (N := 14) h hL rfl (by decide) ob_4 (by decide) rfl (t' := 5) (i' := 0) rfl rfl (fun w hw => mc (in_M w hw)) (mc m_fl_W_95) rfl d_W_perform_24 ?_
  refine g_iload_n h d_W_perform_27 rfl rfl ?_
  obtain ⟨hv5, hw⟩ := o_in hw
  refine g_iald (t := 5) (i := 0) h hL rfl (by decide) rfl rfl hv5 d_W_perform_28 ?_
  refine g_topi (fun n6 en6 => ?_)
  have hw := o_l hw n6 en6
  refine g_istore (lv' := [(4, .int n6), (3, .int n4), (2, .int n2), (0, .ref (za Z 14 0)), (1, .int v1)]) h d_W_perform_29 (by decide) rfl ?_
  refine g_iload h d_W_perform_31 rfl ?_
  rcases Classical.em (n6 = 1) with c94_0 | c94_0
  · refine g_tabIn (tgt := 200) h d_W_perform_33 (by rw [c94_0]; decide) (by rw [c94_0]; decide) (by rw [c94_0]; rfl) (by decide) ?_
    have hw := o_t c94_0 hw
    refine g_aload_n h d_W_perform_200 rfl rfl ?_
    refine g_iload h d_W_perform_201 rfl ?_
    refine g_iload_n h d_W_perform_203 rfl rfl ?_
    refine g_iload_n h d_W_perform_204 rfl rfl ?_
    obtain ⟨r9, M8, hc7, hw⟩ := o_b hw
    refine g_calli h (g_runV (rest := []) h (ct_W_calculate hL n6 n2 n4 M hc7) (cwV 3 h.2.2.2.2.1 (g_V m_ml_W_175 m_im_W_calculate m_se_W_calculate m_in_W m_co_W_calculate) rfl rfl rfl (by decide +kernel) ⟨Nat.le_of_ble_eq_true rfl, Nat.le_of_ble_eq_true rfl⟩) (hL.recv h rfl (by decide) ob_14) rfl rfl (Nat.le_of_ble_eq_true rfl) d_W_perform_205) ?_
    exact g_iret h hQ d_W_perform_208 hw
  have hw := o_f c94_0 hw
  rcases Classical.em (n6 = 2) with c94_1 | c94_1
  · refine g_tabIn (tgt := 168) h d_W_perform_33 (by rw [c94_1]; decide) (by rw [c94_1]; decide) (by rw [c94_1]; rfl) (by decide) ?_
    have hw := o_t c94_1 hw
    refine g_aload_n h d_W_perform_168 rfl rfl ?_
    refine g_iload_n h d_W_perform_169 rfl rfl ?_
    obtain ⟨r12, M11, hc10, hw⟩ := o_b hw
    refine g_calli h (g_runV (rest := []) h (ct_W_load hL n2 M hc10) (cwV 1 h.2.2.2.2.1 (g_V m_ml_W_159 m_im_W_load m_se_W_load m_in_W m_co_W_load) rfl rfl rfl (by decide +kernel) ⟨Nat.le_of_ble_eq_true rfl, Nat.le_of_ble_eq_true rfl⟩) (hL.recv h rfl (by decide) ob_14) rfl rfl (Nat.le_of_ble_eq_true rfl) d_W_perform_170) ?_
    exact g_iret h hQ d_W_perform_173 hw
  have hw := o_f c94_1 hw
  rcases Classical.em (n6 = 3) with c94_2 | c94_2
  · refine g_tabIn (tgt := 174) h d_W_perform_33 (by rw [c94_2]; decide) (by rw [c94_2]; decide) (by rw [c94_2]; rfl) (by decide) ?_
    have hw := o_t c94_2 hw
    refine g_aload_n h d_W_perform_174 rfl rfl ?_
    refine g_iload_n h d_W_perform_175 rfl rfl ?_
    obtain ⟨r15, M14, hc13, hw⟩ := o_b hw
    refine g_calli h (g_runV (rest := []) h (ct_W_store hL n2 M hc13) (cwV 1 h.2.2.2.2.1 (g_V m_ml_W_162 m_im_W_store m_se_W_store m_in_W m_co_W_store) rfl rfl rfl (by decide +kernel) ⟨Nat.le_of_ble_eq_true rfl, Nat.le_of_ble_eq_true rfl⟩) (hL.recv h rfl (by decide) ob_14) rfl rfl (Nat.le_of_ble_eq_true rfl) d_W_perform_176) ?_
    exact g_iret h hQ d_W_perform_179 hw
  have hw := o_f c94_2 hw
  rcases Classical.em (n6 = 4) with c94_3 | c94_3
  · refine g_tabIn (tgt := 193) h d_W_perform_33 (by rw [c94_3]; decide) (by rw [c94_3]; decide) (by rw [c94_3]; rfl) (by decide) ?_
    have hw := o_t c94_3 hw
    refine g_aload_n h d_W_perform_193 rfl rfl ?_
    refine g_iload h d_W_perform_194 rfl ?_
    obtain ⟨r18, M17, hc16, hw⟩ := o_b hw
    refine g_calli h (g_runV (rest := []) h (ct_W_shuffle hL n6 M hc16) (cwV 1 h.2.2.2.2.1 (g_V m_ml_W_172 m_im_W_shuffle m_se_W_shuffle m_in_W m_co_W_shuffle) rfl rfl rfl (by decide +kernel) ⟨Nat.le_of_ble_eq_true rfl, Nat.le_of_ble_eq_true rfl⟩) (hL.recv h rfl (by decide) ob_14) rfl rfl (Nat.le_of_ble_eq_true rfl) d_W_perform_196) ?_
    exact g_iret h hQ d_W_perform_199 hw
  have hw := o_f c94_3 hw
  rcases Classical.em (n6 = 5) with c94_4 | c94_4
  · refine g_tabIn (tgt := 193) h d_W_perform_33 (by rw [c94_4]; decide) (by rw [c94_4]; decide) (by rw [c94_4]; rfl) (by decide) ?_
    have hw := o_t c94_4 hw
    refine g_aload_n h d_W_perform_193 rfl rfl ?_
    refine g_iload h d_W_perform_194 rfl ?_
    obtain ⟨r21, M20, hc19, hw⟩ := o_b hw
    refine g_calli h (g_runV (rest := []) h (ct_W_shuffle hL n6 M hc19) (cwV 1 h.2.2.2.2.1 (g_V m_ml_W_172 m_im_W_shuffle m_se_W_shuffle m_in_W m_co_W_shuffle) rfl rfl rfl (by decide +kernel) ⟨Nat.le_of_ble_eq_true rfl, Nat.le_of_ble_eq_true rfl⟩) (hL.recv h rfl (by decide) ob_14) rfl rfl (Nat.le_of_ble_eq_true rfl) d_W_perform_196) ?_
    exact g_iret h hQ d_W_perform_199 hw
  have hw := o_f c94_4 hw
  rcases Classical.em (n6 = 6) with c94_5 | c94_5
  · refine g_tabIn (tgt := 193) h d_W_perform_33 (by rw [c94_5]; decide) (by rw [c94_5]; decide) (by rw [c94_5]; rfl) (by decide) ?_
    have hw := o_t c94_5 hw
    refine g_aload_n h d_W_perform_193 rfl rfl ?_
    refine g_iload h d_W_perform_194 rfl ?_
    obtain ⟨r24, M23, hc22, hw⟩ := o_b hw
    refine g_calli h (g_runV (rest := []) h (ct_W_shuffle hL n6 M hc22) (cwV 1 h.2.2.2.2.1 (g_V m_ml_W_172 m_im_W_shuffle m_se_W_shuffle m_in_W m_co_W_shuffle) rfl rfl rfl (by decide +kernel) ⟨Nat.le_of_ble_eq_true rfl, Nat.le_of_ble_eq_true rfl⟩) (hL.recv h rfl (by decide) ob_14) rfl rfl (Nat.le_of_ble_eq_true rfl) d_W_perform_196) ?_
    exact g_iret h hQ d_W_perform_199 hw
  have hw := o_f c94_5 hw
  rcases Classical.em (n6 = 7) with c94_6 | c94_6
  · refine g_tabIn (tgt := 193) h d_W_perform_33 (by rw [c94_6]; decide) (by rw [c94_6]; decide) (by rw [c94_6]; rfl) (by decide) ?_
    have hw := o_t c94_6 hw
    refine g_aload_n h d_W_perform_193 rfl rfl ?_
    refine g_iload h d_W_perform_194 rfl ?_
    obtain ⟨r27, M26, hc25, hw⟩ := o_b hw
    refine g_calli h (g_runV (rest := []) h (ct_W_shuffle hL n6 M hc25) (cwV 1 h.2.2.2.2.1 (g_V m_ml_W_172 m_im_W_shuffle m_se_W_shuffle m_in_W m_co_W_shuffle) rfl rfl rfl (by decide +kernel) ⟨Nat.le_of_ble_eq_true rfl, Nat.le_of_ble_eq_true rfl⟩) (hL.recv h rfl (by decide) ob_14) rfl rfl (Nat.le_of_ble_eq_true rfl) d_W_perform_196) ?_
    exact g_iret h hQ d_W_perform_199 hw
  have hw := o_f c94_6 hw
  rcases Classical.em (n6 = 8) with c94_7 | c94_7
  · refine g_tabIn (tgt := 193) h d_W_perform_33 (by rw [c94_7]; decide) (by rw [c94_7]; decide) (by rw [c94_7]; rfl) (by decide) ?_
    have hw := o_t c94_7 hw
    refine g_aload_n h d_W_perform_193 rfl rfl ?_
    refine g_iload h d_W_perform_194 rfl ?_
    obtain ⟨r30, M29, hc28, hw⟩ := o_b hw
    refine g_calli h (g_runV (rest := []) h (ct_W_shuffle hL n6 M hc28) (cwV 1 h.2.2.2.2.1 (g_V m_ml_W_172 m_im_W_shuffle m_se_W_shuffle m_in_W m_co_W_shuffle) rfl rfl rfl (by decide +kernel) ⟨Nat.le_of_ble_eq_true rfl, Nat.le_of_ble_eq_true rfl⟩) (hL.recv h rfl (by decide) ob_14) rfl rfl (Nat.le_of_ble_eq_true rfl) d_W_perform_196) ?_
    exact g_iret h hQ d_W_perform_199 hw
  have hw := o_f c94_7 hw
  rcases Classical.em (n6 = 9) with c94_8 | c94_8
  · refine g_tabIn (tgt := 200) h d_W_perform_33 (by rw [c94_8]; decide) (by rw [c94_8]; decide) (by rw [c94_8]; rfl) (by decide) ?_
    have hw := o_t c94_8 hw
    refine g_aload_n h d_W_perform_200 rfl rfl ?_
    refine g_iload h d_W_perform_201 rfl ?_
    refine g_iload_n h d_W_perform_203 rfl rfl ?_
    refine g_iload_n h d_W_perform_204 rfl rfl ?_
    obtain ⟨r33, M32, hc31, hw⟩ := o_b hw
    refine g_calli h (g_runV (rest := []) h (ct_W_calculate hL n6 n2 n4 M hc31) (cwV 3 h.2.2.2.2.1 (g_V m_ml_W_175 m_im_W_calculate m_se_W_calculate m_in_W m_co_W_calculate) rfl rfl rfl (by decide +kernel) ⟨Nat.le_of_ble_eq_true rfl, Nat.le_of_ble_eq_true rfl⟩) (hL.recv h rfl (by decide) ob_14) rfl rfl (Nat.le_of_ble_eq_true rfl) d_W_perform_205) ?_
    exact g_iret h hQ d_W_perform_208 hw
  have hw := o_f c94_8 hw
  rcases Classical.em (n6 = 10) with c94_9 | c94_9
  · refine g_tabIn (tgt := 200) h d_W_perform_33 (by rw [c94_9]; decide) (by rw [c94_9]; decide) (by rw [c94_9]; rfl) (by decide) ?_
    have hw := o_t c94_9 hw
    refine g_aload_n h d_W_perform_200 rfl rfl ?_
    refine g_iload h d_W_perform_201 rfl ?_
    refine g_iload_n h d_W_perform_203 rfl rfl ?_
    refine g_iload_n h d_W_perform_204 rfl rfl ?_
    obtain ⟨r36, M35, hc34, hw⟩ := o_b hw
    refine g_calli h (g_runV (rest := []) h (ct_W_calculate hL n6 n2 n4 M hc34) (cwV 3 h.2.2.2.2.1 (g_V m_ml_W_175 m_im_W_calculate m_se_W_calculate m_in_W m_co_W_calculate) rfl rfl rfl (by decide +kernel) ⟨Nat.le_of_ble_eq_true rfl, Nat.le_of_ble_eq_true rfl⟩) (hL.recv h rfl (by decide) ob_14) rfl rfl (Nat.le_of_ble_eq_true rfl) d_W_perform_205) ?_
    exact g_iret h hQ d_W_perform_208 hw
  have hw := o_f c94_9 hw
  rcases Classical.em (n6 = 11) with c94_10 | c94_10
  · refine g_tabIn (tgt := 200) h d_W_perform_33 (by rw [c94_10]; decide) (by rw [c94_10]; decide) (by rw [c94_10]; rfl) (by decide) ?_
    have hw := o_t c94_10 hw
    refine g_aload_n h d_W_perform_200 rfl rfl ?_
    refine g_iload h d_W_perform_201 rfl ?_
    refine g_iload_n h d_W_perform_203 rfl rfl ?_
    refine g_iload_n h d_W_perform_204 rfl rfl ?_
    obtain ⟨r39, M38, hc37, hw⟩ := o_b hw
    refine g_calli h (g_runV (rest := []) h (ct_W_calculate hL n6 n2 n4 M hc37) (cwV 3 h.2.2.2.2.1 (g_V m_ml_W_175 m_im_W_calculate m_se_W_calculate m_in_W m_co_W_calculate) rfl rfl rfl (by decide +kernel) ⟨Nat.le_of_ble_eq_true rfl, Nat.le_of_ble_eq_true rfl⟩) (hL.recv h rfl (by decide) ob_14) rfl rfl (Nat.le_of_ble_eq_true rfl) d_W_perform_205) ?_
    exact g_iret h hQ d_W_perform_208 hw
  have hw := o_f c94_10 hw
  rcases Classical.em (n6 = 12) with c94_11 | c94_11
  · refine g_tabIn (tgt := 209) h d_W_perform_33 (by rw [c94_11]; decide) (by rw [c94_11]; decide) (by rw [c94_11]; rfl) (by decide) ?_
    have hw := o_t c94_11 hw
    refine g_aload_n h d_W_perform_209 rfl rfl ?_
    refine g_iload h d_W_perform_210 rfl ?_
    obtain ⟨r42, M41, hc40, hw⟩ := o_b hw
    refine g_calli h (g_runV (rest := []) h (ct_W_decide hL n6 M hc40) (cwV 1 h.2.2.2.2.1 (g_V m_ml_W_179 m_im_W_decide m_se_W_decide m_in_W m_co_W_decide) rfl rfl rfl (by decide +kernel) ⟨Nat.le_of_ble_eq_true rfl, Nat.le_of_ble_eq_true rfl⟩) (hL.recv h rfl (by decide) ob_14) rfl rfl (Nat.le_of_ble_eq_true rfl) d_W_perform_212) ?_
    exact g_iret h hQ d_W_perform_215 hw
  have hw := o_f c94_11 hw
  rcases Classical.em (n6 = 13) with c94_12 | c94_12
  · refine g_tabIn (tgt := 209) h d_W_perform_33 (by rw [c94_12]; decide) (by rw [c94_12]; decide) (by rw [c94_12]; rfl) (by decide) ?_
    have hw := o_t c94_12 hw
    refine g_aload_n h d_W_perform_209 rfl rfl ?_
    refine g_iload h d_W_perform_210 rfl ?_
    obtain ⟨r45, M44, hc43, hw⟩ := o_b hw
    refine g_calli h (g_runV (rest := []) h (ct_W_decide hL n6 M hc43) (cwV 1 h.2.2.2.2.1 (g_V m_ml_W_179 m_im_W_decide m_se_W_decide m_in_W m_co_W_decide) rfl rfl rfl (by decide +kernel) ⟨Nat.le_of_ble_eq_true rfl, Nat.le_of_ble_eq_true rfl⟩) (hL.recv h rfl (by decide) ob_14) rfl rfl (Nat.le_of_ble_eq_true rfl) d_W_perform_212) ?_
    exact g_iret h hQ d_W_perform_215 hw
  have hw := o_f c94_12 hw
  rcases Classical.em (n6 = 14) with c94_13 | c94_13
  · refine g_tabIn (tgt := 251) h d_W_perform_33 (by rw [c94_13]; decide) (by rw [c94_13]; decide) (by rw [c94_13]; rfl) (by decide) ?_
    have hw := o_t c94_13 hw
    refine g_iconst (v := 0) h d_W_perform_251 (by decide) ?_
    exact g_iret h hQ d_W_perform_252 hw
  have hw := o_f c94_13 hw
  rcases Classical.em (n6 = 15) with c94_14 | c94_14
  · refine g_tabIn (tgt := 216) h d_W_perform_33 (by rw [c94_14]; decide) (by rw [c94_14]; decide) (by rw [c94_14]; rfl) (by decide) ?_
    have hw := o_t c94_14 hw
    refine g_aload_n h d_W_perform_216 rfl rfl ?_
    refine g_iload_n h d_W_perform_217 rfl rfl ?_
    obtain ⟨r48, M47, hc46, hw⟩ := o_b hw
    refine g_calli h (g_runV (rest := []) h (ct_W_enterSub hL n4 M hc46) (cwV 1 h.2.2.2.2.1 (g_V m_ml_W_182 m_im_W_enterSub m_se_W_enterSub m_in_W m_co_W_enterSub) rfl rfl rfl (by decide +kernel) ⟨Nat.le_of_ble_eq_true rfl, Nat.le_of_ble_eq_true rfl⟩) (hL.recv h rfl (by decide) ob_14) rfl rfl (Nat.le_of_ble_eq_true rfl) d_W_perform_218) ?_
    exact g_iret h hQ d_W_perform_221 hw
  have hw := o_f c94_14 hw
  rcases Classical.em (n6 = 16) with c94_15 | c94_15
  · refine g_tabIn (tgt := 186) h d_W_perform_33 (by rw [c94_15]; decide) (by rw [c94_15]; decide) (by rw [c94_15]; rfl) (by decide) ?_
    have hw := o_t c94_15 hw
    refine g_aload_n h d_W_perform_186 rfl rfl ?_
    refine g_iload_n h d_W_perform_187 rfl rfl ?_
    refine g_iload_n h d_W_perform_188 rfl rfl ?_
    obtain ⟨r51, M50, hc49, hw⟩ := o_b hw
    refine g_calli h (g_runV (rest := []) h (ct_W_prepareReturn hL v1 n2 M hc49) (cwV 2 h.2.2.2.2.1 (g_V m_ml_W_168 m_im_W_prepareReturn m_se_W_prepareReturn m_in_W m_co_W_prepareReturn) rfl rfl rfl (by decide +kernel) ⟨Nat.le_of_ble_eq_true rfl, Nat.le_of_ble_eq_true rfl⟩) (hL.recv h rfl (by decide) ob_14) rfl rfl (Nat.le_of_ble_eq_true rfl) d_W_perform_189) ?_
    exact g_iret h hQ d_W_perform_192 hw
  have hw := o_f c94_15 hw
  rcases Classical.em (n6 = 17) with c94_16 | c94_16
  · refine g_tabIn (tgt := 209) h d_W_perform_33 (by rw [c94_16]; decide) (by rw [c94_16]; decide) (by rw [c94_16]; rfl) (by decide) ?_
    have hw := o_t c94_16 hw
    refine g_aload_n h d_W_perform_209 rfl rfl ?_
    refine g_iload h d_W_perform_210 rfl ?_
    obtain ⟨r54, M53, hc52, hw⟩ := o_b hw
    refine g_calli h (g_runV (rest := []) h (ct_W_decide hL n6 M hc52) (cwV 1 h.2.2.2.2.1 (g_V m_ml_W_179 m_im_W_decide m_se_W_decide m_in_W m_co_W_decide) rfl rfl rfl (by decide +kernel) ⟨Nat.le_of_ble_eq_true rfl, Nat.le_of_ble_eq_true rfl⟩) (hL.recv h rfl (by decide) ob_14) rfl rfl (Nat.le_of_ble_eq_true rfl) d_W_perform_212) ?_
    exact g_iret h hQ d_W_perform_215 hw
  have hw := o_f c94_16 hw
  rcases Classical.em (n6 = 18) with c94_17 | c94_17
  · refine g_tabIn (tgt := 209) h d_W_perform_33 (by rw [c94_17]; decide) (by rw [c94_17]; decide) (by rw [c94_17]; rfl) (by decide) ?_
    have hw := o_t c94_17 hw
    refine g_aload_n h d_W_perform_209 rfl rfl ?_
    refine g_iload h d_W_perform_210 rfl ?_
    obtain ⟨r57, M56, hc55, hw⟩ := o_b hw
    refine g_calli h (g_runV (rest := []) h (ct_W_decide hL n6 M hc55) (cwV 1 h.2.2.2.2.1 (g_V m_ml_W_179 m_im_W_decide m_se_W_decide m_in_W m_co_W_decide) rfl rfl rfl (by decide +kernel) ⟨Nat.le_of_ble_eq_true rfl, Nat.le_of_ble_eq_true rfl⟩) (hL.recv h rfl (by decide) ob_14) rfl rfl (Nat.le_of_ble_eq_true rfl) d_W_perform_212) ?_
    exact g_iret h hQ d_W_perform_215 hw
  have hw := o_f c94_17 hw
  rcases Classical.em (n6 = 19) with c94_18 | c94_18
  · refine g_tabIn (tgt := 209) h d_W_perform_33 (by rw [c94_18]; decide) (by rw [c94_18]; decide) (by rw [c94_18]; rfl) (by decide) ?_
    have hw := o_t c94_18 hw
    refine g_aload_n h d_W_perform_209 rfl rfl ?_
    refine g_iload h d_W_perform_210 rfl ?_
    obtain ⟨r60, M59, hc58, hw⟩ := o_b hw
    refine g_calli h (g_runV (rest := []) h (ct_W_decide hL n6 M hc58) (cwV 1 h.2.2.2.2.1 (g_V m_ml_W_179 m_im_W_decide m_se_W_decide m_in_W m_co_W_decide) rfl rfl rfl (by decide +kernel) ⟨Nat.le_of_ble_eq_true rfl, Nat.le_of_ble_eq_true rfl⟩) (hL.recv h rfl (by decide) ob_14) rfl rfl (Nat.le_of_ble_eq_true rfl) d_W_perform_212) ?_
    exact g_iret h hQ d_W_perform_215 hw
  have hw := o_f c94_18 hw
  rcases Classical.em (n6 = 20) with c94_19 | c94_19
  · refine g_tabIn (tgt := 222) h d_W_perform_33 (by rw [c94_19]; decide) (by rw [c94_19]; decide) (by rw [c94_19]; rfl) (by decide) ?_
    have hw := o_t c94_19 hw
    refine g_aload_n h d_W_perform_222 rfl rfl ?_
    refine g_iload_n h d_W_perform_223 rfl rfl ?_
    obtain ⟨r63, M62, hc61, hw⟩ := o_b hw
    refine g_calli h (g_runV (rest := []) h (ct_W_create hL v1 M hc61) (cwV 1 h.2.2.2.2.1 (g_V m_ml_W_185 m_im_W_create m_se_W_create m_in_W m_co_W_create) rfl rfl rfl (by decide +kernel) ⟨Nat.le_of_ble_eq_true rfl, Nat.le_of_ble_eq_true rfl⟩) (hL.recv h rfl (by decide) ob_14) rfl rfl (Nat.le_of_ble_eq_true rfl) d_W_perform_224) ?_
    exact g_iret h hQ d_W_perform_227 hw
  have hw := o_f c94_19 hw
  rcases Classical.em (n6 = 21) with c94_20 | c94_20
  · refine g_tabIn (tgt := 228) h d_W_perform_33 (by rw [c94_20]; decide) (by rw [c94_20]; decide) (by rw [c94_20]; rfl) (by decide) ?_
    have hw := o_t c94_20 hw
    refine g_aload_n h d_W_perform_228 rfl rfl ?_
    refine g_iload_n h d_W_perform_229 rfl rfl ?_
    obtain ⟨r66, M65, hc64, hw⟩ := o_b hw
    refine g_calli h (g_runV (rest := []) h (ct_W_build hL n2 M hc64) (cwV 1 h.2.2.2.2.1 (g_V m_ml_W_188 m_im_W_build m_se_W_build m_in_W m_co_W_build) rfl rfl rfl (by decide +kernel) ⟨Nat.le_of_ble_eq_true rfl, Nat.le_of_ble_eq_true rfl⟩) (hL.recv h rfl (by decide) ob_14) rfl rfl (Nat.le_of_ble_eq_true rfl) d_W_perform_230) ?_
    exact g_iret h hQ d_W_perform_233 hw
  have hw := o_f c94_20 hw
  rcases Classical.em (n6 = 22) with c94_21 | c94_21
  · refine g_tabIn (tgt := 234) h d_W_perform_33 (by rw [c94_21]; decide) (by rw [c94_21]; decide) (by rw [c94_21]; rfl) (by decide) ?_
    have hw := o_t c94_21 hw
    refine g_aload_n h d_W_perform_234 rfl rfl ?_
    refine g_iload h d_W_perform_235 rfl ?_
    refine g_iload_n h d_W_perform_237 rfl rfl ?_
    refine g_iload_n h d_W_perform_238 rfl rfl ?_
    obtain ⟨r69, M68, hc67, hw⟩ := o_b hw
    refine g_calli h (g_runV (rest := []) h (ct_W_useObject hL n6 n2 n4 M hc67) (cwV 3 h.2.2.2.2.1 (g_V m_ml_W_191 m_im_W_useObject m_se_W_useObject m_in_W m_co_W_useObject) rfl rfl rfl (by decide +kernel) ⟨Nat.le_of_ble_eq_true rfl, Nat.le_of_ble_eq_true rfl⟩) (hL.recv h rfl (by decide) ob_14) rfl rfl (Nat.le_of_ble_eq_true rfl) d_W_perform_239) ?_
    exact g_iret h hQ d_W_perform_242 hw
  have hw := o_f c94_21 hw
  rcases Classical.em (n6 = 23) with c94_22 | c94_22
  · refine g_tabIn (tgt := 234) h d_W_perform_33 (by rw [c94_22]; decide) (by rw [c94_22]; decide) (by rw [c94_22]; rfl) (by decide) ?_
    have hw := o_t c94_22 hw
    refine g_aload_n h d_W_perform_234 rfl rfl ?_
    refine g_iload h d_W_perform_235 rfl ?_
    refine g_iload_n h d_W_perform_237 rfl rfl ?_
    refine g_iload_n h d_W_perform_238 rfl rfl ?_
    obtain ⟨r72, M71, hc70, hw⟩ := o_b hw
    refine g_calli h (g_runV (rest := []) h (ct_W_useObject hL n6 n2 n4 M hc70) (cwV 3 h.2.2.2.2.1 (g_V m_ml_W_191 m_im_W_useObject m_se_W_useObject m_in_W m_co_W_useObject) rfl rfl rfl (by decide +kernel) ⟨Nat.le_of_ble_eq_true rfl, Nat.le_of_ble_eq_true rfl⟩) (hL.recv h rfl (by decide) ob_14) rfl rfl (Nat.le_of_ble_eq_true rfl) d_W_perform_239) ?_
    exact g_iret h hQ d_W_perform_242 hw
  have hw := o_f c94_22 hw
  rcases Classical.em (n6 = 24) with c94_23 | c94_23
  · refine g_tabIn (tgt := 234) h d_W_perform_33 (by rw [c94_23]; decide) (by rw [c94_23]; decide) (by rw [c94_23]; rfl) (by decide) ?_
    have hw := o_t c94_23 hw
    refine g_aload_n h d_W_perform_234 rfl rfl ?_
    refine g_iload h d_W_perform_235 rfl ?_
    refine g_iload_n h d_W_perform_237 rfl rfl ?_
    refine g_iload_n h d_W_perform_238 rfl rfl ?_
    obtain ⟨r75, M74, hc73, hw⟩ := o_b hw
    refine g_calli h (g_runV (rest := []) h (ct_W_useObject hL n6 n2 n4 M hc73) (cwV 3 h.2.2.2.2.1 (g_V m_ml_W_191 m_im_W_useObject m_se_W_useObject m_in_W m_co_W_useObject) rfl rfl rfl (by decide +kernel) ⟨Nat.le_of_ble_eq_true rfl, Nat.le_of_ble_eq_true rfl⟩) (hL.recv h rfl (by decide) ob_14) rfl rfl (Nat.le_of_ble_eq_true rfl) d_W_perform_239) ?_
    exact g_iret h hQ d_W_perform_242 hw
  have hw := o_f c94_23 hw
  rcases Classical.em (n6 = 25) with c94_24 | c94_24
  · refine g_tabIn (tgt := 234) h d_W_perform_33 (by rw [c94_24]; decide) (by rw [c94_24]; decide) (by rw [c94_24]; rfl) (by decide) ?_
    have hw := o_t c94_24 hw
    refine g_aload_n h d_W_perform_234 rfl rfl ?_
    refine g_iload h d_W_perform_235 rfl ?_
    refine g_iload_n h d_W_perform_237 rfl rfl ?_
    refine g_iload_n h d_W_perform_238 rfl rfl ?_
    obtain ⟨r78, M77, hc76, hw⟩ := o_b hw
    refine g_calli h (g_runV (rest := []) h (ct_W_useObject hL n6 n2 n4 M hc76) (cwV 3 h.2.2.2.2.1 (g_V m_ml_W_191 m_im_W_useObject m_se_W_useObject m_in_W m_co_W_useObject) rfl rfl rfl (by decide +kernel) ⟨Nat.le_of_ble_eq_true rfl, Nat.le_of_ble_eq_true rfl⟩) (hL.recv h rfl (by decide) ob_14) rfl rfl (Nat.le_of_ble_eq_true rfl) d_W_perform_239) ?_
    exact g_iret h hQ d_W_perform_242 hw
  have hw := o_f c94_24 hw
  rcases Classical.em (n6 = 26) with c94_25 | c94_25
  · refine g_tabIn (tgt := 243) h d_W_perform_33 (by rw [c94_25]; decide) (by rw [c94_25]; decide) (by rw [c94_25]; rfl) (by decide) ?_
    have hw := o_t c94_25 hw
    refine g_aload_n h d_W_perform_243 rfl rfl ?_
    refine g_iload h d_W_perform_244 rfl ?_
    refine g_iload_n h d_W_perform_246 rfl rfl ?_
    obtain ⟨r81, M80, hc79, hw⟩ := o_b hw
    refine g_calli h (g_runV (rest := []) h (ct_W_useRow hL n6 n2 M hc79) (cwV 2 h.2.2.2.2.1 (g_V m_ml_W_194 m_im_W_useRow m_se_W_useRow m_in_W m_co_W_useRow) rfl rfl rfl (by decide +kernel) ⟨Nat.le_of_ble_eq_true rfl, Nat.le_of_ble_eq_true rfl⟩) (hL.recv h rfl (by decide) ob_14) rfl rfl (Nat.le_of_ble_eq_true rfl) d_W_perform_247) ?_
    exact g_iret h hQ d_W_perform_250 hw
  have hw := o_f c94_25 hw
  rcases Classical.em (n6 = 27) with c94_26 | c94_26
  · refine g_tabIn (tgt := 243) h d_W_perform_33 (by rw [c94_26]; decide) (by rw [c94_26]; decide) (by rw [c94_26]; rfl) (by decide) ?_
    have hw := o_t c94_26 hw
    refine g_aload_n h d_W_perform_243 rfl rfl ?_
    refine g_iload h d_W_perform_244 rfl ?_
    refine g_iload_n h d_W_perform_246 rfl rfl ?_
    obtain ⟨r84, M83, hc82, hw⟩ := o_b hw
    refine g_calli h (g_runV (rest := []) h (ct_W_useRow hL n6 n2 M hc82) (cwV 2 h.2.2.2.2.1 (g_V m_ml_W_194 m_im_W_useRow m_se_W_useRow m_in_W m_co_W_useRow) rfl rfl rfl (by decide +kernel) ⟨Nat.le_of_ble_eq_true rfl, Nat.le_of_ble_eq_true rfl⟩) (hL.recv h rfl (by decide) ob_14) rfl rfl (Nat.le_of_ble_eq_true rfl) d_W_perform_247) ?_
    exact g_iret h hQ d_W_perform_250 hw
  have hw := o_f c94_26 hw
  rcases Classical.em (n6 = 28) with c94_27 | c94_27
  · refine g_tabIn (tgt := 243) h d_W_perform_33 (by rw [c94_27]; decide) (by rw [c94_27]; decide) (by rw [c94_27]; rfl) (by decide) ?_
    have hw := o_t c94_27 hw
    refine g_aload_n h d_W_perform_243 rfl rfl ?_
    refine g_iload h d_W_perform_244 rfl ?_
    refine g_iload_n h d_W_perform_246 rfl rfl ?_
    obtain ⟨r87, M86, hc85, hw⟩ := o_b hw
    refine g_calli h (g_runV (rest := []) h (ct_W_useRow hL n6 n2 M hc85) (cwV 2 h.2.2.2.2.1 (g_V m_ml_W_194 m_im_W_useRow m_se_W_useRow m_in_W m_co_W_useRow) rfl rfl rfl (by decide +kernel) ⟨Nat.le_of_ble_eq_true rfl, Nat.le_of_ble_eq_true rfl⟩) (hL.recv h rfl (by decide) ob_14) rfl rfl (Nat.le_of_ble_eq_true rfl) d_W_perform_247) ?_
    exact g_iret h hQ d_W_perform_250 hw
  have hw := o_f c94_27 hw
  rcases Classical.em (n6 = 29) with c94_28 | c94_28
  · refine g_tabIn (tgt := 243) h d_W_perform_33 (by rw [c94_28]; decide) (by rw [c94_28]; decide) (by rw [c94_28]; rfl) (by decide) ?_
    have hw := o_t c94_28 hw
    refine g_aload_n h d_W_perform_243 rfl rfl ?_
    refine g_iload h d_W_perform_244 rfl ?_
    refine g_iload_n h d_W_perform_246 rfl rfl ?_
    obtain ⟨r90, M89, hc88, hw⟩ := o_b hw
    refine g_calli h (g_runV (rest := []) h (ct_W_useRow hL n6 n2 M hc88) (cwV 2 h.2.2.2.2.1 (g_V m_ml_W_194 m_im_W_useRow m_se_W_useRow m_in_W m_co_W_useRow) rfl rfl rfl (by decide +kernel) ⟨Nat.le_of_ble_eq_true rfl, Nat.le_of_ble_eq_true rfl⟩) (hL.recv h rfl (by decide) ob_14) rfl rfl (Nat.le_of_ble_eq_true rfl) d_W_perform_247) ?_
    exact g_iret h hQ d_W_perform_250 hw
  have hw := o_f c94_28 hw
  rcases Classical.em (n6 = 30) with c94_29 | c94_29
  · refine g_tabIn (tgt := 180) h d_W_perform_33 (by rw [c94_29]; decide) (by rw [c94_29]; decide) (by rw [c94_29]; rfl) (by decide) ?_
    have hw := o_t c94_29 hw
    refine g_aload_n h d_W_perform_180 rfl rfl ?_
    refine g_iload_n h d_W_perform_181 rfl rfl ?_
    obtain ⟨r93, M92, hc91, hw⟩ := o_b hw
    refine g_calli h (g_runV (rest := []) h (ct_W_increase hL n2 M hc91) (cwV 1 h.2.2.2.2.1 (g_V m_ml_W_165 m_im_W_increase m_se_W_increase m_in_W m_co_W_increase) rfl rfl rfl (by decide +kernel) ⟨Nat.le_of_ble_eq_true rfl, Nat.le_of_ble_eq_true rfl⟩) (hL.recv h rfl (by decide) ob_14) rfl rfl (Nat.le_of_ble_eq_true rfl) d_W_perform_182) ?_
    exact g_iret h hQ d_W_perform_185 hw
  have hw := o_f c94_29 hw
  refine g_tabOut (tgt := 251) h d_W_perform_33 (sw_out 1 30 (by decide) (by decide) (fun j hj => ?_)) (by decide) ?_
  · rcases (show j = 0 ∨ j = 1 ∨ j = 2 ∨ j = 3 ∨ j = 4 ∨ j = 5 ∨ j = 6 ∨ j = 7 ∨ j = 8 ∨ j = 9 ∨ j = 10 ∨ j = 11 ∨ j = 12 ∨ j = 13 ∨ j = 14 ∨ j = 15 ∨ j = 16 ∨ j = 17 ∨ j = 18 ∨ j = 19 ∨ j = 20 ∨ j = 21 ∨ j = 22 ∨ j = 23 ∨ j = 24 ∨ j = 25 ∨ j = 26 ∨ j = 27 ∨ j = 28 ∨ j = 29 by omega) with rfl | rfl | rfl | rfl | rfl | rfl | rfl | rfl | rfl | rfl | rfl | rfl | rfl | rfl | rfl | rfl | rfl | rfl | rfl | rfl | rfl | rfl | rfl | rfl | rfl | rfl | rfl | rfl | rfl | rfl
    · exact c94_0
    · exact c94_1
    · exact c94_2
    · exact c94_3
    · exact c94_4
    · exact c94_5
    · exact c94_6
    · exact c94_7
    · exact c94_8
    · exact c94_9
    · exact c94_10
    · exact c94_11
    · exact c94_12
    · exact c94_13
    · exact c94_14
    · exact c94_15
    · exact c94_16
    · exact c94_17
    · exact c94_18
    · exact c94_19
    · exact c94_20
    · exact c94_21
    · exact c94_22
    · exact c94_23
    · exact c94_24
    · exact c94_25
    · exact c94_26
    · exact c94_27
    · exact c94_28
    · exact c94_29
  refine g_iconst (v := 0) h d_W_perform_251 (by decide) ?_
  exact g_iret h hQ d_W_perform_252 hw
set_option maxHeartbeats 4000000 in
set_option maxRecDepth 100000 in
theorem w_R_comeBack_b70 {Z : ZT} {X : XT} (hL : Lay Z sC) (h : Ok Z X "FlowGate$Frame" c_R_comeBack ws_R_comeBack 6 ({ frames := 2, cells := 0, slots := 0, locals := 81 })) {res : Mm} (hQ : FinV Z X res) {K39 : Nat → Nat → Int32 → Int32 → Int32 → Mm → Option (Mm)} (hK39 : ∀ (i0 : Nat) (i1 : Nat) (v3 : Int32) (v4 : Int32) (v5 : Int32) (M : Mm), i0 < cnt 19 → i1 < cnt 19 → K39 i0 i1 v3 v4 v5 M = some res → G Z X M 39 [(0, .ref (za Z 19 i0)), (1, .ref (za Z 19 i1)), (3, .int v3), (4, .int v4), (5, .int v5)] []) (i0 : Nat) (i1 : Nat) (v3 : Int32) (v4 : Int32) (v5 : Int32) (M : Mm) (hbi0 : i0 < cnt 19) (hbi1 : i1 < cnt 19) (hw : F_R_comeBack_b70 K39 i0 i1 v3 v4 v5 M = some res) : G Z X M 70 [(0, .ref (za Z 19 i0)), (1, .ref (za Z 19 i1)), (3, .int v3), (4, .int v4), (5, .int v5)] [] := by
  rw [F_R_comeBack_b70] at hw
  refine g_iinc (n' := 1) (lw := fun y => [(5, .int y), (0, .ref (za Z 19 i0)), (1, .ref (za Z 19 i1)), (3, .int v3), (4, .int v4)]) h d_R_comeBack_70 rfl (by decide) (by decide) (fun _ => rfl) (fun n1 en1 => ?_)
  have hw := o_l hw n1 en1
  refine g_goto (tgt := 39) h d_R_comeBack_73 (by decide) ?_
  refine g_sub [1, 2, 3, 4, 0] rfl ?_
  exact hK39 i0 i1 v3 v4 n1 M hbi0 hbi1 hw
set_option maxHeartbeats 4000000 in
set_option maxRecDepth 100000 in
theorem w_R_comeBack_b39 {Z : ZT} {X : XT} (hL : Lay Z sC) (h : Ok Z X "FlowGate$Frame" c_R_comeBack ws_R_comeBack 6 ({ frames := 2, cells := 0, slots := 0, locals := 81 })) {res : Mm} (hQ : FinV Z X res)  : ∀ (n : Nat) (i0 : Nat) (i1 : Nat) (v3 : Int32) (v4 : Int32) (v5 : Int32) (M : Mm), i0 < cnt 19 → i1 < cnt 19 → F_R_comeBack_b39  n i0 i1 v3 v4 v5 M = some res → G Z X M 39 [(0, .ref (za Z 19 i0)), (1, .ref (za Z 19 i1)), (3, .int v3), (4, .int v4), (5, .int v5)] [] := by
  intro n
  induction n with
  | zero =>
    intro i0 i1 v3 v4 v5 M hbi0 hbi1 hw
    cases hw
  | succ n hK39 =>
    intro i0 i1 v3 v4 v5 M hbi0 hbi1 hw
    rw [F_R_comeBack_b39] at hw
    refine g_iload h d_R_comeBack_39 rfl ?_
    refine g_bipush (v := 12) h d_R_comeBack_41 (by decide) ?_
    refine g_icmp_ge (tgt := 76) h d_R_comeBack_43 (by decide) (fun c2 => ?_) (fun c2 => ?_)
    · have hw := o_t c2 hw
      refine g_aload_n h d_R_comeBack_76 rfl rfl ?_
      refine g_iload h d_R_comeBack_77 rfl ?_
      obtain ⟨M4, hc3, hw⟩ := o_v hw
      refine g_callv h (g_runV (rest := []) h (ct_R_touchAll hL i0 v4 M hbi0 hc3) (cwV 1 h.2.2.2.2.1 (g_V m_ml_R_57 m_im_R_touchAll m_se_R_touchAll m_in_R m_co_R_touchAll) rfl rfl rfl (by decide +kernel) ⟨Nat.le_of_ble_eq_true rfl, Nat.le_of_ble_eq_true rfl⟩) (hL.recv h rfl hbi0 ob_19) rfl rfl (Nat.le_of_ble_eq_true rfl) d_R_comeBack_79) ?_
      refine g_aload_n h d_R_comeBack_82 rfl rfl ?_
      refine g_sipush (v := 2000) h d_R_comeBack_83 (by decide) ?_
      refine g_iload_n h d_R_comeBack_86 rfl rfl ?_
      refine g_iadd h d_R_comeBack_87 ?_
      refine g_iconst (v := 0) h d_R_comeBack_88 (by decide) ?_
      obtain ⟨M6, hc5, hw⟩ := o_v hw
      refine g_callv h (g_runV (rest := []) h (ct_R_replace hL i0 ((2000 : Int32) + v3) 0 M4 hbi0 hc5) (cwV 2 h.2.2.2.2.1 (g_V m_ml_R_61 m_im_R_replace m_se_R_replace m_in_R m_co_R_replace) rfl rfl rfl (by decide +kernel) ⟨Nat.le_of_ble_eq_true rfl, Nat.le_of_ble_eq_true rfl⟩) (hL.recv h rfl hbi0 ob_19) rfl rfl (Nat.le_of_ble_eq_true rfl) d_R_comeBack_89) ?_
      exact g_vret h hQ d_R_comeBack_92 hw
    · have hw := o_f c2 hw
      refine g_iload h d_R_comeBack_46 rfl ?_
      refine g_iload h d_R_comeBack_48 rfl ?_
      refine g_ishr h d_R_comeBack_50 ?_
      refine g_iconst (v := 1) h d_R_comeBack_51 (by decide) ?_
      refine g_iand h d_R_comeBack_52 ?_
      refine g_if_eq (tgt := 70) h d_R_comeBack_53 (by decide) (fun c7 => ?_) (fun c7 => ?_)
      · have hw := o_t c7 hw
        refine g_sub [0, 1, 2, 3, 4] rfl ?_
        exact w_R_comeBack_b70 hL h hQ hK39 i0 i1 v3 v4 v5 M hbi0 hbi1 hw
      · have hw := o_f c7 hw
        refine g_aload_n h d_R_comeBack_56 rfl rfl ?_
        refine g_getR (t := 19) (i := i0) (k := 0) (C := "FlowGate$Frame") (T := T_R) (N := 5) h hL rfl hbi0 ob_19 (by decide) rfl (t' := 20) (i' := i0) rfl rfl (fun w hw => mc (in_R w hw)) (mc m_fl_R_9) rfl d_R_comeBack_57 ?_
        refine g_iload h d_R_comeBack_60 rfl ?_
        refine g_aload_n h d_R_comeBack_62 rfl rfl ?_
        refine g_getR (t := 19) (i := i1) (k := 0) (C := "FlowGate$Frame") (T := T_R) (N := 5) h hL rfl hbi1 ob_19 (by decide) rfl (t' := 20) (i' := i1) rfl rfl (fun w hw => mc (in_R w hw)) (mc m_fl_R_9) rfl d_R_comeBack_63 ?_
        refine g_iload h d_R_comeBack_66 rfl ?_
        obtain ⟨hv8, hw⟩ := o_in hw
        refine g_iald (t := 20) (i := i1) h hL rfl hbi1 rfl rfl hv8 d_R_comeBack_68 ?_
        obtain ⟨hv9, hw⟩ := o_in hw
        refine g_iast (t := 20) (i := i0) h hL rfl hbi0 rfl rfl hv9 d_R_comeBack_69 ?_
        refine g_mem (fun M10 eM10 => ?_)
        have hw := o_l hw M10 eM10
        refine g_sub [0, 1, 2, 3, 4] rfl ?_
        exact w_R_comeBack_b70 hL h hQ hK39 i0 i1 v3 v4 v5 M10 hbi0 hbi1 hw
set_option maxHeartbeats 4000000 in
set_option maxRecDepth 100000 in
theorem ct_R_comeBack {Z : ZT} (hL : Lay Z sC) (i0 : Nat) (i1 : Nat) (i2 : Nat) (v3 : Int32) (M : Mm) (hbi0 : i0 < cnt 19) (hbi1 : i1 < cnt 19) (hbi2 : i2 < cnt 19) {res : Mm} (hw : F_R_comeBack i0 i1 i2 v3 M = some res) : CtV Z y_R_comeBack ws_R_comeBack (({ frames := 2, cells := 0, slots := 0, locals := 81 })) [.ref (za Z 19 i0), .ref (za Z 19 i1), .ref (za Z 19 i2), .int v3] M res := by
  refine CtV.of hL (cc := c_R_comeBack) (maxL := 6) (by decide) rfl (Nat.le_of_ble_eq_true rfl) (fun X h hQ => ?_)
  show G Z X M 0 [(0, .ref (za Z 19 i0)), (1, .ref (za Z 19 i1)), (2, .ref (za Z 19 i2)), (3, .int v3)] []
  rw [F_R_comeBack] at hw
  refine g_aload_n h d_R_comeBack_0 rfl rfl ?_
  refine g_aload_n h d_R_comeBack_1 rfl rfl ?_
  obtain ⟨M12, hc11, hw⟩ := o_v hw
  refine g_callv h (g_runV (rest := []) h (ct_R_copy hL i0 i2 M hbi0 hbi2 hc11) (cwV 1 h.2.2.2.2.1 (g_V m_ml_R_53 m_im_R_copy m_se_R_copy m_in_R m_co_R_copy) rfl rfl rfl (by decide +kernel) ⟨Nat.le_of_ble_eq_true rfl, Nat.le_of_ble_eq_true rfl⟩) (hL.recv h rfl hbi0 ob_19) rfl rfl (Nat.le_of_ble_eq_true rfl) d_R_comeBack_2) ?_
  refine g_aload_n h d_R_comeBack_5 rfl rfl ?_
  refine g_getR (t := 19) (i := i1) (k := 1) (C := "FlowGate$Frame") (T := T_R) (N := 5) h hL rfl hbi1 ob_19 (by decide) rfl (t' := 21) (i' := i1) rfl rfl (fun w hw => mc (in_R w hw)) (mc m_fl_R_15) rfl d_R_comeBack_6 ?_
  refine g_iconst (v := 0) h d_R_comeBack_9 (by decide) ?_
  refine g_aload_n h d_R_comeBack_10 rfl rfl ?_
  refine g_getR (t := 19) (i := i0) (k := 1) (C := "FlowGate$Frame") (T := T_R) (N := 5) h hL rfl hbi0 ob_19 (by decide) rfl (t' := 21) (i' := i0) rfl rfl (fun w hw => mc (in_R w hw)) (mc m_fl_R_15) rfl d_R_comeBack_11 ?_
  refine g_iconst (v := 0) h d_R_comeBack_14 (by decide) ?_
  refine g_bipush (v := 12) h d_R_comeBack_15 (by decide) ?_
  refine g_copy (t0 := 21) (i0 := i1) (t1 := 21) (i1 := i0) (sp := 0) (dp := 0) (n := 12) (rest := []) h hL rfl hbi1 rfl rfl hbi0 rfl (mc m_ml_R_21) (mc m_na_JS) (mc m_st_JS) (mc m_in_JS) (by decide) (by decide) (by decide) (by decide) (by decide) (by decide) (by decide) d_R_comeBack_17 ?_
  refine g_mem (fun M13 eM13 => ?_)
  have hw := o_l hw M13 eM13
  refine g_aload_n h d_R_comeBack_20 rfl rfl ?_
  refine g_aload_n h d_R_comeBack_21 rfl rfl ?_
  refine g_getI (t := 19) (i := i1) (k := 2) (C := "FlowGate$Frame") (T := T_R) (N := 5) h hL rfl hbi1 ob_19 (by decide) rfl (fun w hw => mc (in_R w hw)) (mc m_fl_R_27) rfl d_R_comeBack_22 ?_
  refine g_putI (t := 19) (i := i0) (k := 2) (C := "FlowGate$Frame") (T := T_R) (N := 5) h hL rfl hbi0 ob_19 (by decide) rfl (fun w hw => mc (in_R w hw)) ty_R ty_R_ok nm_R (mc m_fl_R_27) rfl rfl rfl d_R_comeBack_25 ?_
  refine g_mem (fun M14 eM14 => ?_)
  have hw := o_l hw M14 eM14
  refine g_aload_n h d_R_comeBack_28 rfl rfl ?_
  refine g_getR (t := 19) (i := i1) (k := 4) (C := "FlowGate$Frame") (T := T_R) (N := 5) h hL rfl hbi1 ob_19 (by decide) rfl (t' := 22) (i' := i1) rfl rfl (fun w hw => mc (in_R w hw)) (mc m_fl_R_18) rfl d_R_comeBack_29 ?_
  refine g_iload_n h d_R_comeBack_32 rfl rfl ?_
  obtain ⟨hv15, hw⟩ := o_in hw
  refine g_iald (t := 22) (i := i1) h hL rfl hbi1 rfl rfl hv15 d_R_comeBack_33 ?_
  refine g_topi (fun n16 en16 => ?_)
  have hw := o_l hw n16 en16
  refine g_istore (lv' := [(4, .int n16), (0, .ref (za Z 19 i0)), (1, .ref (za Z 19 i1)), (2, .ref (za Z 19 i2)), (3, .int v3)]) h d_R_comeBack_34 (by decide) rfl ?_
  refine g_iconst (v := 0) h d_R_comeBack_36 (by decide) ?_
  refine g_istore (lv' := [(5, .int 0), (4, .int n16), (0, .ref (za Z 19 i0)), (1, .ref (za Z 19 i1)), (2, .ref (za Z 19 i2)), (3, .int v3)]) h d_R_comeBack_37 (by decide) rfl ?_
  refine g_sub [2, 3, 5, 1, 0] rfl ?_
  exact w_R_comeBack_b39 hL h hQ  fuel i0 i1 v3 n16 0 M14 hbi0 hbi1 hw
set_option maxHeartbeats 4000000 in
set_option maxRecDepth 100000 in
theorem w_W_comeBack_b114 {Z : ZT} {X : XT} (hL : Lay Z sC) (h : Ok Z X "FlowGate$Flow" c_W_comeBack ws_W_comeBack 5 ({ frames := 4, cells := 0, slots := 0, locals := 126 })) {res : Int32 × Mm} (hQ : FinI Z X .int res) {K24 : Int32 → Int32 → Int32 → Mm → Option (Int32 × Mm)} (hK24 : ∀ (v1 : Int32) (v2 : Int32) (v3 : Int32) (M : Mm), K24 v1 v2 v3 M = some res → G Z X M 24 [(0, .ref (za Z 14 0)), (1, .int v1), (2, .int v2), (3, .int v3)] []) (v1 : Int32) (v2 : Int32) (v3 : Int32) (M : Mm)  (hw : F_W_comeBack_b114 K24 v1 v2 v3 M = some res) : G Z X M 114 [(0, .ref (za Z 14 0)), (1, .int v1), (2, .int v2), (3, .int v3)] [] := by
  rw [F_W_comeBack_b114] at hw
  refine g_iinc (n' := 1) (lw := fun y => [(3, .int y), (0, .ref (za Z 14 0)), (1, .int v1), (2, .int v2)]) h d_W_comeBack_114 rfl (by decide) (by decide) (fun _ => rfl) (fun n1 en1 => ?_)
  have hw := o_l hw n1 en1
  refine g_goto (tgt := 24) h d_W_comeBack_117 (by decide) ?_
  refine g_sub [1, 2, 3, 0] rfl ?_
  exact hK24 v1 v2 n1 M hw
set_option maxHeartbeats 4000000 in
set_option maxRecDepth 100000 in
theorem w_W_comeBack_b24 {Z : ZT} {X : XT} (hL : Lay Z sC) (h : Ok Z X "FlowGate$Flow" c_W_comeBack ws_W_comeBack 5 ({ frames := 4, cells := 0, slots := 0, locals := 126 })) {res : Int32 × Mm} (hQ : FinI Z X .int res)  : ∀ (n : Nat) (v1 : Int32) (v2 : Int32) (v3 : Int32) (M : Mm), F_W_comeBack_b24  n v1 v2 v3 M = some res → G Z X M 24 [(0, .ref (za Z 14 0)), (1, .int v1), (2, .int v2), (3, .int v3)] [] := by
  intro n
  induction n with
  | zero =>
    intro v1 v2 v3 M hw
    cases hw
  | succ n hK24 =>
    intro v1 v2 v3 M hw
    rw [F_W_comeBack_b24] at hw
    refine g_iload_n h d_W_comeBack_24 rfl rfl ?_
    refine g_aload_n h d_W_comeBack_25 rfl rfl ?_
    refine g_getR (t := 14) (i := 0) (k := 1) (C := "FlowGate$Flow") (T := T_W) (N := 12) h hL rfl (by decide) ob_14 (by decide) rfl (t' := 4) (i' := 0) rfl rfl (fun w hw => mc (in_W w hw)) (mc m_fl_W_40) rfl d_W_comeBack_26 ?_
    refine g_getI (t := 4) (i := 0) (k := 3) (C := "FlowGate$Method") (T := T_M) (N := 14) h hL rfl (by decide) ob_4 (by decide) rfl (fun w hw => mc (in_M w hw)) (mc m_fl_W_69) rfl d_W_comeBack_29 ?_
    refine g_icmp_ge (tgt := 120) h d_W_comeBack_32 (by decide) (fun c2 => ?_) (fun c2 => ?_)
    · have hw := o_t c2 hw
      refine g_iconst (v := 0) h d_W_comeBack_120 (by decide) ?_
      exact g_iret h hQ d_W_comeBack_121 hw
    · have hw := o_f c2 hw
      refine g_aload_n h d_W_comeBack_35 rfl rfl ?_
      refine g_getR (t := 14) (i := 0) (k := 3) (C := "FlowGate$Flow") (T := T_W) (N := 12) h hL rfl (by decide) ob_14 (by decide) rfl (t' := 16) (i' := 0) rfl rfl (fun w hw => mc (in_W w hw)) (mc m_fl_W_17) rfl d_W_comeBack_36 ?_
      refine g_iload_n h d_W_comeBack_39 rfl rfl ?_
      obtain ⟨hv3, hw⟩ := o_in hw
      refine g_zald (t := 16) (i := 0) h hL rfl (by decide) rfl rfl hv3 d_W_comeBack_40 ?_
      refine g_if_eq (tgt := 114) h d_W_comeBack_41 (by decide) (fun c4 => ?_) (fun c4 => ?_)
      · have hw := o_t c4 hw
        refine g_sub [0, 1, 2, 3] rfl ?_
        exact w_W_comeBack_b114 hL h hQ hK24 v1 v2 v3 M hw
      · have hw := o_f c4 hw
        refine g_aload_n h d_W_comeBack_44 rfl rfl ?_
        refine g_getR (t := 14) (i := 0) (k := 1) (C := "FlowGate$Flow") (T := T_W) (N := 12) h hL rfl (by decide) ob_14 (by decide) rfl (t' := 4) (i' := 0) rfl rfl (fun w hw => mc (in_W w hw)) (mc m_fl_W_40) rfl d_W_comeBack_45 ?_
        refine g_getR (t := 4) (i := 0) (k := 0) (C := "FlowGate$Method") (T := T_M) (N := 14) h hL rfl (by decide) ob_4 (by decide) rfl (t' := 5) (i' := 0) rfl rfl (fun w hw => mc (in_M w hw)) (mc m_fl_W_95) rfl d_W_comeBack_48 ?_
        refine g_iload_n h d_W_comeBack_51 rfl rfl ?_
        obtain ⟨hv5, hw⟩ := o_in hw
        refine g_iald (t := 5) (i := 0) h hL rfl (by decide) rfl rfl hv5 d_W_comeBack_52 ?_
        refine g_bipush (v := 15) h d_W_comeBack_53 (by decide) ?_
        refine g_icmp_ne (tgt := 114) h d_W_comeBack_55 (by decide) (fun c6 => ?_) (fun c6 => ?_)
        · have hw := o_f c6 hw
          refine g_sub [0, 1, 2, 3] rfl ?_
          exact w_W_comeBack_b114 hL h hQ hK24 v1 v2 v3 M hw
        · have hw := o_t c6 hw
          refine g_aload_n h d_W_comeBack_58 rfl rfl ?_
          refine g_getR (t := 14) (i := 0) (k := 1) (C := "FlowGate$Flow") (T := T_W) (N := 12) h hL rfl (by decide) ob_14 (by decide) rfl (t' := 4) (i' := 0) rfl rfl (fun w hw => mc (in_W w hw)) (mc m_fl_W_40) rfl d_W_comeBack_59 ?_
          refine g_getR (t := 4) (i := 0) (k := 2) (C := "FlowGate$Method") (T := T_M) (N := 14) h hL rfl (by decide) ob_4 (by decide) rfl (t' := 7) (i' := 0) rfl rfl (fun w hw => mc (in_M w hw)) (mc m_fl_W_143) rfl d_W_comeBack_62 ?_
          refine g_iload_n h d_W_comeBack_65 rfl rfl ?_
          obtain ⟨hv7, hw⟩ := o_in hw
          refine g_iald (t := 7) (i := 0) h hL rfl (by decide) rfl rfl hv7 d_W_comeBack_66 ?_
          refine g_iload_n h d_W_comeBack_67 rfl rfl ?_
          refine g_icmp_eq (tgt := 74) h d_W_comeBack_68 (by decide) (fun c8 => ?_) (fun c8 => ?_)
          · have hw := o_t c8 hw
            refine g_aload_n h d_W_comeBack_74 rfl rfl ?_
            refine g_getR (t := 14) (i := 0) (k := 7) (C := "FlowGate$Flow") (T := T_W) (N := 12) h hL rfl (by decide) ob_14 (by decide) rfl (t' := 19) (i' := 1) rfl rfl (fun w hw => mc (in_W w hw)) (mc m_fl_W_33) rfl d_W_comeBack_75 ?_
            refine g_aload_n h d_W_comeBack_78 rfl rfl ?_
            refine g_getR (t := 14) (i := 0) (k := 6) (C := "FlowGate$Flow") (T := T_W) (N := 12) h hL rfl (by decide) ob_14 (by decide) rfl (t' := 19) (i' := 0) rfl rfl (fun w hw => mc (in_W w hw)) (mc m_fl_W_29) rfl d_W_comeBack_79 ?_
            refine g_aload_n h d_W_comeBack_82 rfl rfl ?_
            refine g_getR (t := 14) (i := 0) (k := 2) (C := "FlowGate$Flow") (T := T_W) (N := 12) h hL rfl (by decide) ob_14 (by decide) rfl (t' := 15) (i' := 0) rfl rfl (fun w hw => mc (in_W w hw)) (mc m_fl_W_11) rfl d_W_comeBack_83 ?_
            refine g_iload_n h d_W_comeBack_86 rfl rfl ?_
            obtain ⟨hv9, hw⟩ := o_in hw
            refine g_aald (t' := 19) (i' := (v3 : Int32).toNatClampNeg + 2) (t := 15) (i := 0) h hL rfl (by decide) rfl rfl hv9 (C := "FlowGate$Frame") rfl rfl rfl d_W_comeBack_87 ?_
            refine g_iload_n h d_W_comeBack_88 rfl rfl ?_
            obtain ⟨M11, hc10, hw⟩ := o_v hw
            refine g_callv h (g_runV (rest := []) h (ct_R_comeBack hL 1 0 ((v3 : Int32).toNatClampNeg + 2) v2 M (by decide) (by decide) (ix_lt hv9 (by decide)) hc10) (cwV 3 h.2.2.2.2.1 (g_V m_ml_W_156 m_im_R_comeBack m_se_R_comeBack m_in_R m_co_R_comeBack) rfl rfl rfl (by decide +kernel) ⟨Nat.le_of_ble_eq_true rfl, Nat.le_of_ble_eq_true rfl⟩) (hL.recv h rfl (by decide) ob_19) rfl rfl (Nat.le_of_ble_eq_true rfl) d_W_comeBack_89) ?_
            refine g_aload_n h d_W_comeBack_92 rfl rfl ?_
            refine g_iload_n h d_W_comeBack_93 rfl rfl ?_
            refine g_iload_n h d_W_comeBack_94 rfl rfl ?_
            refine g_iconst (v := 1) h d_W_comeBack_95 (by decide) ?_
            refine g_iadd h d_W_comeBack_96 ?_
            refine g_aload_n h d_W_comeBack_97 rfl rfl ?_
            refine g_getR (t := 14) (i := 0) (k := 7) (C := "FlowGate$Flow") (T := T_W) (N := 12) h hL rfl (by decide) ob_14 (by decide) rfl (t' := 19) (i' := 1) rfl rfl (fun w hw => mc (in_W w hw)) (mc m_fl_W_33) rfl d_W_comeBack_98 ?_
            obtain ⟨r14, M13, hc12, hw⟩ := o_b hw
            refine g_calli h (g_runV (rest := []) h (ct_W_meet hL v1 (v3 + 1) 1 M11 (by decide) hc12) (cwV 3 h.2.2.2.2.1 (g_V m_ml_W_65 m_im_W_meet m_se_W_meet m_in_W m_co_W_meet) rfl rfl rfl (by decide +kernel) ⟨Nat.le_of_ble_eq_true rfl, Nat.le_of_ble_eq_true rfl⟩) (hL.recv h rfl (by decide) ob_14) rfl rfl (Nat.le_of_ble_eq_true rfl) d_W_comeBack_101) ?_
            refine g_istore (lv' := [(4, .int r14), (0, .ref (za Z 14 0)), (1, .int v1), (2, .int v2), (3, .int v3)]) h d_W_comeBack_104 (by decide) rfl ?_
            refine g_iload h d_W_comeBack_106 rfl ?_
            refine g_if_eq (tgt := 114) h d_W_comeBack_108 (by decide) (fun c15 => ?_) (fun c15 => ?_)
            · have hw := o_t c15 hw
              refine g_sub [1, 2, 3, 4] rfl ?_
              exact w_W_comeBack_b114 hL h hQ hK24 v1 v2 v3 M13 hw
            · have hw := o_f c15 hw
              refine g_iload h d_W_comeBack_111 rfl ?_
              exact g_iret h hQ d_W_comeBack_113 hw
          · have hw := o_f c8 hw
            refine g_goto (tgt := 114) h d_W_comeBack_71 (by decide) ?_
            refine g_sub [0, 1, 2, 3] rfl ?_
            exact w_W_comeBack_b114 hL h hQ hK24 v1 v2 v3 M hw
set_option maxHeartbeats 4000000 in
set_option maxRecDepth 100000 in
theorem ct_W_comeBack {Z : ZT} (hL : Lay Z sC) (v1 : Int32) (M : Mm)  {res : Int32 × Mm} (hw : F_W_comeBack v1 M = some res) : CtI Z y_W_comeBack ws_W_comeBack (({ frames := 4, cells := 0, slots := 0, locals := 126 })) [.ref (za Z 14 0), .int v1] M res := by
  refine CtI.of hL (cc := c_W_comeBack) (maxL := 5) (by decide) rfl (Nat.le_of_ble_eq_true rfl) (fun X h hQ => ?_)
  show G Z X M 0 [(0, .ref (za Z 14 0)), (1, .int v1)] []
  rw [F_W_comeBack] at hw
  refine g_aload_n h d_W_comeBack_0 rfl rfl ?_
  refine g_getR (t := 14) (i := 0) (k := 6) (C := "FlowGate$Flow") (T := T_W) (N := 12) h hL rfl (by decide) ob_14 (by decide) rfl (t' := 19) (i' := 0) rfl rfl (fun w hw => mc (in_W w hw)) (mc m_fl_W_29) rfl d_W_comeBack_1 ?_
  refine g_getR (t := 19) (i := 0) (k := 0) (C := "FlowGate$Frame") (T := T_R) (N := 5) h hL rfl (by decide) ob_19 (by decide) rfl (t' := 20) (i' := 0) rfl rfl (fun w hw => mc (in_R w hw)) (mc m_fl_W_153) rfl d_W_comeBack_4 ?_
  refine g_aload_n h d_W_comeBack_7 rfl rfl ?_
  refine g_getR (t := 14) (i := 0) (k := 1) (C := "FlowGate$Flow") (T := T_W) (N := 12) h hL rfl (by decide) ob_14 (by decide) rfl (t' := 4) (i' := 0) rfl rfl (fun w hw => mc (in_W w hw)) (mc m_fl_W_40) rfl d_W_comeBack_8 ?_
  refine g_getR (t := 4) (i := 0) (k := 1) (C := "FlowGate$Method") (T := T_M) (N := 14) h hL rfl (by decide) ob_4 (by decide) rfl (t' := 6) (i' := 0) rfl rfl (fun w hw => mc (in_M w hw)) (mc m_fl_W_150) rfl d_W_comeBack_11 ?_
  refine g_iload_n h d_W_comeBack_14 rfl rfl ?_
  obtain ⟨hv16, hw⟩ := o_in hw
  refine g_iald (t := 6) (i := 0) h hL rfl (by decide) rfl rfl hv16 d_W_comeBack_15 ?_
  obtain ⟨hv17, hw⟩ := o_in hw
  refine g_iald (t := 20) (i := 0) h hL rfl (by decide) rfl rfl hv17 d_W_comeBack_16 ?_
  refine g_sipush (v := 2000) h d_W_comeBack_17 (by decide) ?_
  refine g_isub h d_W_comeBack_20 ?_
  refine g_topi (fun n18 en18 => ?_)
  have hw := o_l hw n18 en18
  refine g_istore_n (lv' := [(2, .int n18), (0, .ref (za Z 14 0)), (1, .int v1)]) h d_W_comeBack_21 rfl (by decide) rfl ?_
  refine g_iconst (v := 0) h d_W_comeBack_22 (by decide) ?_
  refine g_istore_n (lv' := [(3, .int 0), (2, .int n18), (0, .ref (za Z 14 0)), (1, .int v1)]) h d_W_comeBack_23 rfl (by decide) rfl ?_
  refine g_sub [2, 3, 1, 0] rfl ?_
  exact w_W_comeBack_b24 hL h hQ  fuel v1 n18 0 M hw
set_option maxHeartbeats 4000000 in
set_option maxRecDepth 100000 in
theorem w_W_wakeReturns_b35 {Z : ZT} {X : XT} (hL : Lay Z sC) (h : Ok Z X "FlowGate$Flow" c_W_wakeReturns ws_W_wakeReturns 3 ({ frames := 0, cells := 0, slots := 0, locals := 0 })) {res : Mm} (hQ : FinV Z X res) {K2 : Int32 → Int32 → Mm → Option (Mm)} (hK2 : ∀ (v1 : Int32) (v2 : Int32) (M : Mm), K2 v1 v2 M = some res → G Z X M 2 [(0, .ref (za Z 14 0)), (1, .int v1), (2, .int v2)] []) (v1 : Int32) (v2 : Int32) (M : Mm)  (hw : F_W_wakeReturns_b35 K2 v1 v2 M = some res) : G Z X M 35 [(0, .ref (za Z 14 0)), (1, .int v1), (2, .int v2)] [] := by
  rw [F_W_wakeReturns_b35] at hw
  refine g_iinc (n' := 1) (lw := fun y => [(2, .int y), (0, .ref (za Z 14 0)), (1, .int v1)]) h d_W_wakeReturns_35 rfl (by decide) (by decide) (fun _ => rfl) (fun n1 en1 => ?_)
  have hw := o_l hw n1 en1
  refine g_goto (tgt := 2) h d_W_wakeReturns_38 (by decide) ?_
  refine g_sub [1, 2, 0] rfl ?_
  exact hK2 v1 n1 M hw
set_option maxHeartbeats 4000000 in
set_option maxRecDepth 100000 in
theorem w_W_wakeReturns_b2 {Z : ZT} {X : XT} (hL : Lay Z sC) (h : Ok Z X "FlowGate$Flow" c_W_wakeReturns ws_W_wakeReturns 3 ({ frames := 0, cells := 0, slots := 0, locals := 0 })) {res : Mm} (hQ : FinV Z X res)  : ∀ (n : Nat) (v1 : Int32) (v2 : Int32) (M : Mm), F_W_wakeReturns_b2  n v1 v2 M = some res → G Z X M 2 [(0, .ref (za Z 14 0)), (1, .int v1), (2, .int v2)] [] := by
  intro n
  induction n with
  | zero =>
    intro v1 v2 M hw
    cases hw
  | succ n hK2 =>
    intro v1 v2 M hw
    rw [F_W_wakeReturns_b2] at hw
    refine g_iload_n h d_W_wakeReturns_2 rfl rfl ?_
    refine g_aload_n h d_W_wakeReturns_3 rfl rfl ?_
    refine g_getR (t := 14) (i := 0) (k := 1) (C := "FlowGate$Flow") (T := T_W) (N := 12) h hL rfl (by decide) ob_14 (by decide) rfl (t' := 4) (i' := 0) rfl rfl (fun w hw => mc (in_W w hw)) (mc m_fl_W_40) rfl d_W_wakeReturns_4 ?_
    refine g_getI (t := 4) (i := 0) (k := 3) (C := "FlowGate$Method") (T := T_M) (N := 14) h hL rfl (by decide) ob_4 (by decide) rfl (fun w hw => mc (in_M w hw)) (mc m_fl_W_69) rfl d_W_wakeReturns_7 ?_
    refine g_icmp_ge (tgt := 41) h d_W_wakeReturns_10 (by decide) (fun c2 => ?_) (fun c2 => ?_)
    · have hw := o_t c2 hw
      exact g_vret h hQ d_W_wakeReturns_41 hw
    · have hw := o_f c2 hw
      refine g_aload_n h d_W_wakeReturns_13 rfl rfl ?_
      refine g_getR (t := 14) (i := 0) (k := 5) (C := "FlowGate$Flow") (T := T_W) (N := 12) h hL rfl (by decide) ob_14 (by decide) rfl (t' := 18) (i' := 0) rfl rfl (fun w hw => mc (in_W w hw)) (mc m_fl_W_24) rfl d_W_wakeReturns_14 ?_
      refine g_iload_n h d_W_wakeReturns_17 rfl rfl ?_
      obtain ⟨hv3, hw⟩ := o_in hw
      refine g_lald (t := 18) (i := 0) h hL rfl (by decide) rfl rfl hv3 d_W_wakeReturns_18 ?_
      refine g_iload_n h d_W_wakeReturns_19 rfl rfl ?_
      refine g_lshr h d_W_wakeReturns_20 ?_
      refine g_lconst (v := 1) h d_W_wakeReturns_21 rfl ?_
      refine g_land h d_W_wakeReturns_22 ?_
      refine g_lconst (v := 0) h d_W_wakeReturns_23 rfl ?_
      refine g_lcmp h d_W_wakeReturns_24 ?_
      refine g_if_eq (tgt := 35) h d_W_wakeReturns_25 (by decide) (fun c4 => ?_) (fun c4 => ?_)
      · have hw := o_t c4 hw
        refine g_sub [0, 1, 2] rfl ?_
        exact w_W_wakeReturns_b35 hL h hQ hK2 v1 v2 M hw
      · have hw := o_f c4 hw
        refine g_aload_n h d_W_wakeReturns_28 rfl rfl ?_
        refine g_getR (t := 14) (i := 0) (k := 4) (C := "FlowGate$Flow") (T := T_W) (N := 12) h hL rfl (by decide) ob_14 (by decide) rfl (t' := 17) (i' := 0) rfl rfl (fun w hw => mc (in_W w hw)) (mc m_fl_W_21) rfl d_W_wakeReturns_29 ?_
        refine g_iload_n h d_W_wakeReturns_32 rfl rfl ?_
        refine g_iconst (v := 1) h d_W_wakeReturns_33 (by decide) ?_
        obtain ⟨hv5, hw⟩ := o_in hw
        refine g_zast (t := 17) (i := 0) h hL rfl (by decide) rfl rfl hv5 d_W_wakeReturns_34 ?_
        refine g_mem (fun M6 eM6 => ?_)
        have hw := o_l hw M6 eM6
        refine g_sub [0, 1, 2] rfl ?_
        exact w_W_wakeReturns_b35 hL h hQ hK2 v1 v2 M6 hw
set_option maxHeartbeats 4000000 in
set_option maxRecDepth 100000 in
theorem ct_W_wakeReturns {Z : ZT} (hL : Lay Z sC) (v1 : Int32) (M : Mm)  {res : Mm} (hw : F_W_wakeReturns v1 M = some res) : CtV Z y_W_wakeReturns ws_W_wakeReturns (({ frames := 0, cells := 0, slots := 0, locals := 0 })) [.ref (za Z 14 0), .int v1] M res := by
  refine CtV.of hL (cc := c_W_wakeReturns) (maxL := 3) (by decide) rfl (Nat.le_of_ble_eq_true rfl) (fun X h hQ => ?_)
  show G Z X M 0 [(0, .ref (za Z 14 0)), (1, .int v1)] []
  rw [F_W_wakeReturns] at hw
  refine g_iconst (v := 0) h d_W_wakeReturns_0 (by decide) ?_
  refine g_istore_n (lv' := [(2, .int 0), (0, .ref (za Z 14 0)), (1, .int v1)]) h d_W_wakeReturns_1 rfl (by decide) rfl ?_
  refine g_sub [1, 2, 0] rfl ?_
  exact w_W_wakeReturns_b2 hL h hQ  fuel v1 0 M hw
