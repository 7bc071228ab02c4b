set_option maxHeartbeats 4000000 in
set_option maxRecDepth 100000 in
theorem ct_D_isFormed {Z : ZT} (hL : Lay Z sD) (v1 : Int32) (v2 : Int32) (v3 : Int32) (M : Mm)  {res : Int32 × Mm} (hw : F_D_isFormed v1 v2 v3 M = some res) : CtI Z y_D_isFormed ws_D_isFormed (({ frames := 4, cells := 0, slots := 0, locals := 85 })) [.ref (za Z 30 0), .int v1, .int v2, .int v3] M res := by
  refine CtI.of hL (cc := c_D_isFormed) (maxL := 4) (by decide) rfl (Nat.le_of_ble_eq_true rfl) (fun X h hQ => ?_)
  show G Z X M 0 [(0, .ref (za Z 30 0)), (1, .int v1), (2, .int v2), (3, .int v3)] []
  rw [F_D_isFormed] at hw
  refine g_iload_n h d_D_isFormed_0 rfl rfl ?_
  rcases Classical.em (v1 = 1) with c86_0 | c86_0
  · refine g_tabIn (tgt := 136) h d_D_isFormed_1 (by rw [c86_0]; decide) (by rw [c86_0]; decide) (by rw [c86_0]; rfl) (by decide) ?_
    have hw := o_t c86_0 hw
    refine g_iload_n h d_D_isFormed_136 rfl rfl ?_
    refine g_iconst (v := 1) h d_D_isFormed_137 (by decide) ?_
    refine g_iconst (v := 5) h d_D_isFormed_138 (by decide) ?_
    refine g_calli h (g_runS (rest := []) h (ct_D_in hL v2 1 5 M (p_D_in v2 1 5 M)) (cwS 3 h.2.2.2.2.1 (g_S m_ml_D_91 m_st_D_in m_in_D m_co_D_in) rfl rfl rfl (by decide +kernel) ⟨Nat.le_of_ble_eq_true rfl, Nat.le_of_ble_eq_true rfl⟩) rfl rfl (Nat.le_of_ble_eq_true rfl) d_D_isFormed_139) ?_
    refine g_topi (fun r2 er2 => ?_)
    have hw := o_l hw r2 er2
    obtain ⟨hn3, hw⟩ := o_nz hw
    exact g_zret h hQ d_D_isFormed_142 hn3 hw
  have hw := o_f c86_0 hw
  rcases Classical.em (v1 = 2) with c86_1 | c86_1
  · refine g_tabIn (tgt := 143) h d_D_isFormed_1 (by rw [c86_1]; decide) (by rw [c86_1]; decide) (by rw [c86_1]; rfl) (by decide) ?_
    have hw := o_t c86_1 hw
    refine g_iload_n h d_D_isFormed_143 rfl rfl ?_
    refine g_iconst (v := 0) h d_D_isFormed_144 (by decide) ?_
    refine g_aload_n h d_D_isFormed_145 rfl rfl ?_
    refine g_getI (t := 30) (i := 0) (k := 15) (C := "FlowGateModel") (T := T_D) (N := 42) h hL rfl (by decide) ob_30 (by decide) rfl (fun w hw => mc (in_D w hw)) (mc m_fl_D_112) rfl d_D_isFormed_146 ?_
    refine g_iconst (v := 1) h d_D_isFormed_149 (by decide) ?_
    refine g_isub h d_D_isFormed_150 ?_
    refine g_calli h (g_runS (rest := []) h (ct_D_in hL v2 0 ((M.1 30 0 15) - 1) M (p_D_in v2 0 ((M.1 30 0 15) - 1) M)) (cwS 3 h.2.2.2.2.1 (g_S m_ml_D_91 m_st_D_in m_in_D m_co_D_in) rfl rfl rfl (by decide +kernel) ⟨Nat.le_of_ble_eq_true rfl, Nat.le_of_ble_eq_true rfl⟩) rfl rfl (Nat.le_of_ble_eq_true rfl) d_D_isFormed_151) ?_
    refine g_topi (fun r5 er5 => ?_)
    have hw := o_l hw r5 er5
    obtain ⟨hn6, hw⟩ := o_nz hw
    exact g_zret h hQ d_D_isFormed_154 hn6 hw
  have hw := o_f c86_1 hw
  rcases Classical.em (v1 = 3) with c86_2 | c86_2
  · refine g_tabIn (tgt := 143) h d_D_isFormed_1 (by rw [c86_2]; decide) (by rw [c86_2]; decide) (by rw [c86_2]; rfl) (by decide) ?_
    have hw := o_t c86_2 hw
    refine g_iload_n h d_D_isFormed_143 rfl rfl ?_
    refine g_iconst (v := 0) h d_D_isFormed_144 (by decide) ?_
    refine g_aload_n h d_D_isFormed_145 rfl rfl ?_
    refine g_getI (t := 30) (i := 0) (k := 15) (C := "FlowGateModel") (T := T_D) (N := 42) h hL rfl (by decide) ob_30 (by decide) rfl (fun w hw => mc (in_D w hw)) (mc m_fl_D_112) rfl d_D_isFormed_146 ?_
    refine g_iconst (v := 1) h d_D_isFormed_149 (by decide) ?_
    refine g_isub h d_D_isFormed_150 ?_
    refine g_calli h (g_runS (rest := []) h (ct_D_in hL v2 0 ((M.1 30 0 15) - 1) M (p_D_in v2 0 ((M.1 30 0 15) - 1) M)) (cwS 3 h.2.2.2.2.1 (g_S m_ml_D_91 m_st_D_in m_in_D m_co_D_in) rfl rfl rfl (by decide +kernel) ⟨Nat.le_of_ble_eq_true rfl, Nat.le_of_ble_eq_true rfl⟩) rfl rfl (Nat.le_of_ble_eq_true rfl) d_D_isFormed_151) ?_
    refine g_topi (fun r8 er8 => ?_)
    have hw := o_l hw r8 er8
    obtain ⟨hn9, hw⟩ := o_nz hw
    exact g_zret h hQ d_D_isFormed_154 hn9 hw
  have hw := o_f c86_2 hw
  rcases Classical.em (v1 = 4) with c86_3 | c86_3
  · refine g_tabIn (tgt := 336) h d_D_isFormed_1 (by rw [c86_3]; decide) (by rw [c86_3]; decide) (by rw [c86_3]; rfl) (by decide) ?_
    have hw := o_t c86_3 hw
    refine g_iconst (v := 1) h d_D_isFormed_336 (by decide) ?_
    exact g_zret h hQ d_D_isFormed_337 rfl hw
  have hw := o_f c86_3 hw
  rcases Classical.em (v1 = 5) with c86_4 | c86_4
  · refine g_tabIn (tgt := 336) h d_D_isFormed_1 (by rw [c86_4]; decide) (by rw [c86_4]; decide) (by rw [c86_4]; rfl) (by decide) ?_
    have hw := o_t c86_4 hw
    refine g_iconst (v := 1) h d_D_isFormed_336 (by decide) ?_
    exact g_zret h hQ d_D_isFormed_337 rfl hw
  have hw := o_f c86_4 hw
  rcases Classical.em (v1 = 6) with c86_5 | c86_5
  · refine g_tabIn (tgt := 336) h d_D_isFormed_1 (by rw [c86_5]; decide) (by rw [c86_5]; decide) (by rw [c86_5]; rfl) (by decide) ?_
    have hw := o_t c86_5 hw
    refine g_iconst (v := 1) h d_D_isFormed_336 (by decide) ?_
    exact g_zret h hQ d_D_isFormed_337 rfl hw
  have hw := o_f c86_5 hw
  rcases Classical.em (v1 = 7) with c86_6 | c86_6
  · refine g_tabIn (tgt := 336) h d_D_isFormed_1 (by rw [c86_6]; decide) (by rw [c86_6]; decide) (by rw [c86_6]; rfl) (by decide) ?_
    have hw := o_t c86_6 hw
    refine g_iconst (v := 1) h d_D_isFormed_336 (by decide) ?_
    exact g_zret h hQ d_D_isFormed_337 rfl hw
  have hw := o_f c86_6 hw
  rcases Classical.em (v1 = 8) with c86_7 | c86_7
  · refine g_tabIn (tgt := 336) h d_D_isFormed_1 (by rw [c86_7]; decide) (by rw [c86_7]; decide) (by rw [c86_7]; rfl) (by decide) ?_
    have hw := o_t c86_7 hw
    refine g_iconst (v := 1) h d_D_isFormed_336 (by decide) ?_
    exact g_zret h hQ d_D_isFormed_337 rfl hw
  have hw := o_f c86_7 hw
  rcases Classical.em (v1 = 9) with c86_8 | c86_8
  · refine g_tabIn (tgt := 155) h d_D_isFormed_1 (by rw [c86_8]; decide) (by rw [c86_8]; decide) (by rw [c86_8]; rfl) (by decide) ?_
    have hw := o_t c86_8 hw
    refine g_iload_n h d_D_isFormed_155 rfl rfl ?_
    refine g_iconst (v := 1) h d_D_isFormed_156 (by decide) ?_
    refine g_iconst (v := 4) h d_D_isFormed_157 (by decide) ?_
    refine g_calli h (g_runS (rest := []) h (ct_D_in hL v2 1 4 M (p_D_in v2 1 4 M)) (cwS 3 h.2.2.2.2.1 (g_S m_ml_D_91 m_st_D_in m_in_D m_co_D_in) rfl rfl rfl (by decide +kernel) ⟨Nat.le_of_ble_eq_true rfl, Nat.le_of_ble_eq_true rfl⟩) rfl rfl (Nat.le_of_ble_eq_true rfl) d_D_isFormed_158) ?_
    refine g_topi (fun r11 er11 => ?_)
    have hw := o_l hw r11 er11
    obtain ⟨hn12, hw⟩ := o_nz hw
    exact g_zret h hQ d_D_isFormed_161 hn12 hw
  have hw := o_f c86_8 hw
  rcases Classical.em (v1 = 10) with c86_9 | c86_9
  · refine g_tabIn (tgt := 162) h d_D_isFormed_1 (by rw [c86_9]; decide) (by rw [c86_9]; decide) (by rw [c86_9]; rfl) (by decide) ?_
    have hw := o_t c86_9 hw
    refine g_iload_n h d_D_isFormed_162 rfl rfl ?_
    refine g_iconst (v := 1) h d_D_isFormed_163 (by decide) ?_
    refine g_iconst (v := 4) h d_D_isFormed_164 (by decide) ?_
    refine g_calli h (g_runS (rest := []) h (ct_D_in hL v2 1 4 M (p_D_in v2 1 4 M)) (cwS 3 h.2.2.2.2.1 (g_S m_ml_D_91 m_st_D_in m_in_D m_co_D_in) rfl rfl rfl (by decide +kernel) ⟨Nat.le_of_ble_eq_true rfl, Nat.le_of_ble_eq_true rfl⟩) rfl rfl (Nat.le_of_ble_eq_true rfl) d_D_isFormed_165) ?_
    refine g_topi (fun r14 er14 => ?_)
    have hw := o_l hw r14 er14
    refine g_if_eq (tgt := 184) h d_D_isFormed_168 (by decide) (fun c15 => ?_) (fun c15 => ?_)
    · have hw := o_t c15 hw
      refine g_iconst (v := 0) h d_D_isFormed_184 (by decide) ?_
      exact g_zret h hQ d_D_isFormed_185 rfl hw
    · have hw := o_f c15 hw
      refine g_iload_n h d_D_isFormed_171 rfl rfl ?_
      refine g_iconst (v := 1) h d_D_isFormed_172 (by decide) ?_
      refine g_iconst (v := 4) h d_D_isFormed_173 (by decide) ?_
      refine g_calli h (g_runS (rest := []) h (ct_D_in hL v3 1 4 M (p_D_in v3 1 4 M)) (cwS 3 h.2.2.2.2.1 (g_S m_ml_D_91 m_st_D_in m_in_D m_co_D_in) rfl rfl rfl (by decide +kernel) ⟨Nat.le_of_ble_eq_true rfl, Nat.le_of_ble_eq_true rfl⟩) rfl rfl (Nat.le_of_ble_eq_true rfl) d_D_isFormed_174) ?_
      refine g_topi (fun r17 er17 => ?_)
      have hw := o_l hw r17 er17
      refine g_if_eq (tgt := 184) h d_D_isFormed_177 (by decide) (fun c18 => ?_) (fun c18 => ?_)
      · have hw := o_t c18 hw
        refine g_iconst (v := 0) h d_D_isFormed_184 (by decide) ?_
        exact g_zret h hQ d_D_isFormed_185 rfl hw
      · have hw := o_f c18 hw
        refine g_iconst (v := 1) h d_D_isFormed_180 (by decide) ?_
        refine g_goto (tgt := 185) h d_D_isFormed_181 (by decide) ?_
        exact g_zret h hQ d_D_isFormed_185 rfl hw
  have hw := o_f c86_9 hw
  rcases Classical.em (v1 = 11) with c86_10 | c86_10
  · refine g_tabIn (tgt := 186) h d_D_isFormed_1 (by rw [c86_10]; decide) (by rw [c86_10]; decide) (by rw [c86_10]; rfl) (by decide) ?_
    have hw := o_t c86_10 hw
    refine g_iload_n h d_D_isFormed_186 rfl rfl ?_
    refine g_iconst (v := 2) h d_D_isFormed_187 (by decide) ?_
    refine g_iconst (v := 4) h d_D_isFormed_188 (by decide) ?_
    refine g_calli h (g_runS (rest := []) h (ct_D_in hL v2 2 4 M (p_D_in v2 2 4 M)) (cwS 3 h.2.2.2.2.1 (g_S m_ml_D_91 m_st_D_in m_in_D m_co_D_in) rfl rfl rfl (by decide +kernel) ⟨Nat.le_of_ble_eq_true rfl, Nat.le_of_ble_eq_true rfl⟩) rfl rfl (Nat.le_of_ble_eq_true rfl) d_D_isFormed_189) ?_
    refine g_topi (fun r20 er20 => ?_)
    have hw := o_l hw r20 er20
    obtain ⟨hn21, hw⟩ := o_nz hw
    exact g_zret h hQ d_D_isFormed_192 hn21 hw
  have hw := o_f c86_10 hw
  rcases Classical.em (v1 = 12) with c86_11 | c86_11
  · refine g_tabIn (tgt := 193) h d_D_isFormed_1 (by rw [c86_11]; decide) (by rw [c86_11]; decide) (by rw [c86_11]; rfl) (by decide) ?_
    have hw := o_t c86_11 hw
    refine g_aload_n h d_D_isFormed_193 rfl rfl ?_
    refine g_iload_n h d_D_isFormed_194 rfl rfl ?_
    refine g_calli h (g_runV (rest := []) h (ct_D_isGoal hL v3 M (p_D_isGoal v3 M)) (cwV 1 h.2.2.2.2.1 (g_V m_ml_D_127 m_im_D_isGoal m_se_D_isGoal m_in_D m_co_D_isGoal) rfl rfl rfl (by decide +kernel) ⟨Nat.le_of_ble_eq_true rfl, Nat.le_of_ble_eq_true rfl⟩) (hL.recv h rfl (by decide) ob_30) rfl rfl (Nat.le_of_ble_eq_true rfl) d_D_isFormed_195) ?_
    refine g_topi (fun r23 er23 => ?_)
    have hw := o_l hw r23 er23
    obtain ⟨hn24, hw⟩ := o_nz hw
    exact g_zret h hQ d_D_isFormed_198 hn24 hw
  have hw := o_f c86_11 hw
  rcases Classical.em (v1 = 13) with c86_12 | c86_12
  · refine g_tabIn (tgt := 193) h d_D_isFormed_1 (by rw [c86_12]; decide) (by rw [c86_12]; decide) (by rw [c86_12]; rfl) (by decide) ?_
    have hw := o_t c86_12 hw
    refine g_aload_n h d_D_isFormed_193 rfl rfl ?_
    refine g_iload_n h d_D_isFormed_194 rfl rfl ?_
    refine g_calli h (g_runV (rest := []) h (ct_D_isGoal hL v3 M (p_D_isGoal v3 M)) (cwV 1 h.2.2.2.2.1 (g_V m_ml_D_127 m_im_D_isGoal m_se_D_isGoal m_in_D m_co_D_isGoal) rfl rfl rfl (by decide +kernel) ⟨Nat.le_of_ble_eq_true rfl, Nat.le_of_ble_eq_true rfl⟩) (hL.recv h rfl (by decide) ob_30) rfl rfl (Nat.le_of_ble_eq_true rfl) d_D_isFormed_195) ?_
    refine g_topi (fun r26 er26 => ?_)
    have hw := o_l hw r26 er26
    obtain ⟨hn27, hw⟩ := o_nz hw
    exact g_zret h hQ d_D_isFormed_198 hn27 hw
  have hw := o_f c86_12 hw
  rcases Classical.em (v1 = 14) with c86_13 | c86_13
  · refine g_tabIn (tgt := 193) h d_D_isFormed_1 (by rw [c86_13]; decide) (by rw [c86_13]; decide) (by rw [c86_13]; rfl) (by decide) ?_
    have hw := o_t c86_13 hw
    refine g_aload_n h d_D_isFormed_193 rfl rfl ?_
    refine g_iload_n h d_D_isFormed_194 rfl rfl ?_
    refine g_calli h (g_runV (rest := []) h (ct_D_isGoal hL v3 M (p_D_isGoal v3 M)) (cwV 1 h.2.2.2.2.1 (g_V m_ml_D_127 m_im_D_isGoal m_se_D_isGoal m_in_D m_co_D_isGoal) rfl rfl rfl (by decide +kernel) ⟨Nat.le_of_ble_eq_true rfl, Nat.le_of_ble_eq_true rfl⟩) (hL.recv h rfl (by decide) ob_30) rfl rfl (Nat.le_of_ble_eq_true rfl) d_D_isFormed_195) ?_
    refine g_topi (fun r29 er29 => ?_)
    have hw := o_l hw r29 er29
    obtain ⟨hn30, hw⟩ := o_nz hw
    exact g_zret h hQ d_D_isFormed_198 hn30 hw
  have hw := o_f c86_13 hw
  rcases Classical.em (v1 = 15) with c86_14 | c86_14
  · refine g_tabIn (tgt := 193) h d_D_isFormed_1 (by rw [c86_14]; decide) (by rw [c86_14]; decide) (by rw [c86_14]; rfl) (by decide) ?_
    have hw := o_t c86_14 hw
    refine g_aload_n h d_D_isFormed_193 rfl rfl ?_
    refine g_iload_n h d_D_isFormed_194 rfl rfl ?_
    refine g_calli h (g_runV (rest := []) h (ct_D_isGoal hL v3 M (p_D_isGoal v3 M)) (cwV 1 h.2.2.2.2.1 (g_V m_ml_D_127 m_im_D_isGoal m_se_D_isGoal m_in_D m_co_D_isGoal) rfl rfl rfl (by decide +kernel) ⟨Nat.le_of_ble_eq_true rfl, Nat.le_of_ble_eq_true rfl⟩) (hL.recv h rfl (by decide) ob_30) rfl rfl (Nat.le_of_ble_eq_true rfl) d_D_isFormed_195) ?_
    refine g_topi (fun r32 er32 => ?_)
    have hw := o_l hw r32 er32
    obtain ⟨hn33, hw⟩ := o_nz hw
    exact g_zret h hQ d_D_isFormed_198 hn33 hw
  have hw := o_f c86_14 hw
  rcases Classical.em (v1 = 16) with c86_15 | c86_15
  · refine g_tabIn (tgt := 143) h d_D_isFormed_1 (by rw [c86_15]; decide) (by rw [c86_15]; decide) (by rw [c86_15]; rfl) (by decide) ?_
    have hw := o_t c86_15 hw
    refine g_iload_n h d_D_isFormed_143 rfl rfl ?_
    refine g_iconst (v := 0) h d_D_isFormed_144 (by decide) ?_
    refine g_aload_n h d_D_isFormed_145 rfl rfl ?_
    refine g_getI (t := 30) (i := 0) (k := 15) (C := "FlowGateModel") (T := T_D) (N := 42) h hL rfl (by decide) ob_30 (by decide) rfl (fun w hw => mc (in_D w hw)) (mc m_fl_D_112) rfl d_D_isFormed_146 ?_
    refine g_iconst (v := 1) h d_D_isFormed_149 (by decide) ?_
    refine g_isub h d_D_isFormed_150 ?_
    refine g_calli h (g_runS (rest := []) h (ct_D_in hL v2 0 ((M.1 30 0 15) - 1) M (p_D_in v2 0 ((M.1 30 0 15) - 1) M)) (cwS 3 h.2.2.2.2.1 (g_S m_ml_D_91 m_st_D_in m_in_D m_co_D_in) rfl rfl rfl (by decide +kernel) ⟨Nat.le_of_ble_eq_true rfl, Nat.le_of_ble_eq_true rfl⟩) rfl rfl (Nat.le_of_ble_eq_true rfl) d_D_isFormed_151) ?_
    refine g_topi (fun r35 er35 => ?_)
    have hw := o_l hw r35 er35
    obtain ⟨hn36, hw⟩ := o_nz hw
    exact g_zret h hQ d_D_isFormed_154 hn36 hw
  have hw := o_f c86_15 hw
  rcases Classical.em (v1 = 17) with c86_16 | c86_16
  · refine g_tabIn (tgt := 199) h d_D_isFormed_1 (by rw [c86_16]; decide) (by rw [c86_16]; decide) (by rw [c86_16]; rfl) (by decide) ?_
    have hw := o_t c86_16 hw
    refine g_aload_n h d_D_isFormed_199 rfl rfl ?_
    refine g_iload_n h d_D_isFormed_200 rfl rfl ?_
    refine g_calli h (g_runV (rest := []) h (ct_D_isGoal hL v2 M (p_D_isGoal v2 M)) (cwV 1 h.2.2.2.2.1 (g_V m_ml_D_127 m_im_D_isGoal m_se_D_isGoal m_in_D m_co_D_isGoal) rfl rfl rfl (by decide +kernel) ⟨Nat.le_of_ble_eq_true rfl, Nat.le_of_ble_eq_true rfl⟩) (hL.recv h rfl (by decide) ob_30) rfl rfl (Nat.le_of_ble_eq_true rfl) d_D_isFormed_201) ?_
    refine g_topi (fun r38 er38 => ?_)
    have hw := o_l hw r38 er38
    refine g_if_eq (tgt := 219) h d_D_isFormed_204 (by decide) (fun c39 => ?_) (fun c39 => ?_)
    · have hw := o_t c39 hw
      refine g_iconst (v := 0) h d_D_isFormed_219 (by decide) ?_
      exact g_zret h hQ d_D_isFormed_220 rfl hw
    · have hw := o_f c39 hw
      refine g_aload_n h d_D_isFormed_207 rfl rfl ?_
      refine g_iload_n h d_D_isFormed_208 rfl rfl ?_
      refine g_calli h (g_runV (rest := []) h (ct_D_isGoal hL v3 M (p_D_isGoal v3 M)) (cwV 1 h.2.2.2.2.1 (g_V m_ml_D_127 m_im_D_isGoal m_se_D_isGoal m_in_D m_co_D_isGoal) rfl rfl rfl (by decide +kernel) ⟨Nat.le_of_ble_eq_true rfl, Nat.le_of_ble_eq_true rfl⟩) (hL.recv h rfl (by decide) ob_30) rfl rfl (Nat.le_of_ble_eq_true rfl) d_D_isFormed_209) ?_
      refine g_topi (fun r41 er41 => ?_)
      have hw := o_l hw r41 er41
      refine g_if_eq (tgt := 219) h d_D_isFormed_212 (by decide) (fun c42 => ?_) (fun c42 => ?_)
      · have hw := o_t c42 hw
        refine g_iconst (v := 0) h d_D_isFormed_219 (by decide) ?_
        exact g_zret h hQ d_D_isFormed_220 rfl hw
      · have hw := o_f c42 hw
        refine g_iconst (v := 1) h d_D_isFormed_215 (by decide) ?_
        refine g_goto (tgt := 220) h d_D_isFormed_216 (by decide) ?_
        exact g_zret h hQ d_D_isFormed_220 rfl hw
  have hw := o_f c86_16 hw
  rcases Classical.em (v1 = 18) with c86_17 | c86_17
  · refine g_tabIn (tgt := 336) h d_D_isFormed_1 (by rw [c86_17]; decide) (by rw [c86_17]; decide) (by rw [c86_17]; rfl) (by decide) ?_
    have hw := o_t c86_17 hw
    refine g_iconst (v := 1) h d_D_isFormed_336 (by decide) ?_
    exact g_zret h hQ d_D_isFormed_337 rfl hw
  have hw := o_f c86_17 hw
  rcases Classical.em (v1 = 19) with c86_18 | c86_18
  · refine g_tabIn (tgt := 336) h d_D_isFormed_1 (by rw [c86_18]; decide) (by rw [c86_18]; decide) (by rw [c86_18]; rfl) (by decide) ?_
    have hw := o_t c86_18 hw
    refine g_iconst (v := 1) h d_D_isFormed_336 (by decide) ?_
    exact g_zret h hQ d_D_isFormed_337 rfl hw
  have hw := o_f c86_18 hw
  rcases Classical.em (v1 = 20) with c86_19 | c86_19
  · refine g_tabIn (tgt := 221) h d_D_isFormed_1 (by rw [c86_19]; decide) (by rw [c86_19]; decide) (by rw [c86_19]; rfl) (by decide) ?_
    have hw := o_t c86_19 hw
    refine g_iload_n h d_D_isFormed_221 rfl rfl ?_
    refine g_iconst (v := 0) h d_D_isFormed_222 (by decide) ?_
    refine g_aload_n h d_D_isFormed_223 rfl rfl ?_
    refine g_getI (t := 30) (i := 0) (k := 2) (C := "FlowGateModel") (T := T_D) (N := 42) h hL rfl (by decide) ob_30 (by decide) rfl (fun w hw => mc (in_D w hw)) (mc m_fl_D_17) rfl d_D_isFormed_224 ?_
    refine g_iconst (v := 1) h d_D_isFormed_227 (by decide) ?_
    refine g_isub h d_D_isFormed_228 ?_
    refine g_calli h (g_runS (rest := []) h (ct_D_in hL v2 0 ((M.1 30 0 2) - 1) M (p_D_in v2 0 ((M.1 30 0 2) - 1) M)) (cwS 3 h.2.2.2.2.1 (g_S m_ml_D_91 m_st_D_in m_in_D m_co_D_in) rfl rfl rfl (by decide +kernel) ⟨Nat.le_of_ble_eq_true rfl, Nat.le_of_ble_eq_true rfl⟩) rfl rfl (Nat.le_of_ble_eq_true rfl) d_D_isFormed_229) ?_
    refine g_topi (fun r44 er44 => ?_)
    have hw := o_l hw r44 er44
    obtain ⟨hn45, hw⟩ := o_nz hw
    exact g_zret h hQ d_D_isFormed_232 hn45 hw
  have hw := o_f c86_19 hw
  rcases Classical.em (v1 = 21) with c86_20 | c86_20
  · refine g_tabIn (tgt := 221) h d_D_isFormed_1 (by rw [c86_20]; decide) (by rw [c86_20]; decide) (by rw [c86_20]; rfl) (by decide) ?_
    have hw := o_t c86_20 hw
    refine g_iload_n h d_D_isFormed_221 rfl rfl ?_
    refine g_iconst (v := 0) h d_D_isFormed_222 (by decide) ?_
    refine g_aload_n h d_D_isFormed_223 rfl rfl ?_
    refine g_getI (t := 30) (i := 0) (k := 2) (C := "FlowGateModel") (T := T_D) (N := 42) h hL rfl (by decide) ob_30 (by decide) rfl (fun w hw => mc (in_D w hw)) (mc m_fl_D_17) rfl d_D_isFormed_224 ?_
    refine g_iconst (v := 1) h d_D_isFormed_227 (by decide) ?_
    refine g_isub h d_D_isFormed_228 ?_
    refine g_calli h (g_runS (rest := []) h (ct_D_in hL v2 0 ((M.1 30 0 2) - 1) M (p_D_in v2 0 ((M.1 30 0 2) - 1) M)) (cwS 3 h.2.2.2.2.1 (g_S m_ml_D_91 m_st_D_in m_in_D m_co_D_in) rfl rfl rfl (by decide +kernel) ⟨Nat.le_of_ble_eq_true rfl, Nat.le_of_ble_eq_true rfl⟩) rfl rfl (Nat.le_of_ble_eq_true rfl) d_D_isFormed_229) ?_
    refine g_topi (fun r47 er47 => ?_)
    have hw := o_l hw r47 er47
    obtain ⟨hn48, hw⟩ := o_nz hw
    exact g_zret h hQ d_D_isFormed_232 hn48 hw
  have hw := o_f c86_20 hw
  rcases Classical.em (v1 = 22) with c86_21 | c86_21
  · refine g_tabIn (tgt := 233) h d_D_isFormed_1 (by rw [c86_21]; decide) (by rw [c86_21]; decide) (by rw [c86_21]; rfl) (by decide) ?_
    have hw := o_t c86_21 hw
    refine g_iload_n h d_D_isFormed_233 rfl rfl ?_
    refine g_iconst (v := 0) h d_D_isFormed_234 (by decide) ?_
    refine g_aload_n h d_D_isFormed_235 rfl rfl ?_
    refine g_getI (t := 30) (i := 0) (k := 2) (C := "FlowGateModel") (T := T_D) (N := 42) h hL rfl (by decide) ob_30 (by decide) rfl (fun w hw => mc (in_D w hw)) (mc m_fl_D_17) rfl d_D_isFormed_236 ?_
    refine g_iconst (v := 1) h d_D_isFormed_239 (by decide) ?_
    refine g_isub h d_D_isFormed_240 ?_
    refine g_calli h (g_runS (rest := []) h (ct_D_in hL v2 0 ((M.1 30 0 2) - 1) M (p_D_in v2 0 ((M.1 30 0 2) - 1) M)) (cwS 3 h.2.2.2.2.1 (g_S m_ml_D_91 m_st_D_in m_in_D m_co_D_in) rfl rfl rfl (by decide +kernel) ⟨Nat.le_of_ble_eq_true rfl, Nat.le_of_ble_eq_true rfl⟩) rfl rfl (Nat.le_of_ble_eq_true rfl) d_D_isFormed_241) ?_
    refine g_topi (fun r50 er50 => ?_)
    have hw := o_l hw r50 er50
    refine g_if_eq (tgt := 259) h d_D_isFormed_244 (by decide) (fun c51 => ?_) (fun c51 => ?_)
    · have hw := o_t c51 hw
      refine g_iconst (v := 0) h d_D_isFormed_259 (by decide) ?_
      exact g_zret h hQ d_D_isFormed_260 rfl hw
    · have hw := o_f c51 hw
      refine g_aload_n h d_D_isFormed_247 rfl rfl ?_
      refine g_iload_n h d_D_isFormed_248 rfl rfl ?_
      refine g_calli h (g_runV (rest := []) h (ct_D_isPlain hL v3 M (p_D_isPlain v3 M)) (cwV 1 h.2.2.2.2.1 (g_V m_ml_D_106 m_im_D_isPlain m_se_D_isPlain m_in_D m_co_D_isPlain) rfl rfl rfl (by decide +kernel) ⟨Nat.le_of_ble_eq_true rfl, Nat.le_of_ble_eq_true rfl⟩) (hL.recv h rfl (by decide) ob_30) rfl rfl (Nat.le_of_ble_eq_true rfl) d_D_isFormed_249) ?_
      refine g_topi (fun r53 er53 => ?_)
      have hw := o_l hw r53 er53
      refine g_if_eq (tgt := 259) h d_D_isFormed_252 (by decide) (fun c54 => ?_) (fun c54 => ?_)
      · have hw := o_t c54 hw
        refine g_iconst (v := 0) h d_D_isFormed_259 (by decide) ?_
        exact g_zret h hQ d_D_isFormed_260 rfl hw
      · have hw := o_f c54 hw
        refine g_iconst (v := 1) h d_D_isFormed_255 (by decide) ?_
        refine g_goto (tgt := 260) h d_D_isFormed_256 (by decide) ?_
        exact g_zret h hQ d_D_isFormed_260 rfl hw
  have hw := o_f c86_21 hw
  rcases Classical.em (v1 = 23) with c86_22 | c86_22
  · refine g_tabIn (tgt := 233) h d_D_isFormed_1 (by rw [c86_22]; decide) (by rw [c86_22]; decide) (by rw [c86_22]; rfl) (by decide) ?_
    have hw := o_t c86_22 hw
    refine g_iload_n h d_D_isFormed_233 rfl rfl ?_
    refine g_iconst (v := 0) h d_D_isFormed_234 (by decide) ?_
    refine g_aload_n h d_D_isFormed_235 rfl rfl ?_
    refine g_getI (t := 30) (i := 0) (k := 2) (C := "FlowGateModel") (T := T_D) (N := 42) h hL rfl (by decide) ob_30 (by decide) rfl (fun w hw => mc (in_D w hw)) (mc m_fl_D_17) rfl d_D_isFormed_236 ?_
    refine g_iconst (v := 1) h d_D_isFormed_239 (by decide) ?_
    refine g_isub h d_D_isFormed_240 ?_
    refine g_calli h (g_runS (rest := []) h (ct_D_in hL v2 0 ((M.1 30 0 2) - 1) M (p_D_in v2 0 ((M.1 30 0 2) - 1) M)) (cwS 3 h.2.2.2.2.1 (g_S m_ml_D_91 m_st_D_in m_in_D m_co_D_in) rfl rfl rfl (by decide +kernel) ⟨Nat.le_of_ble_eq_true rfl, Nat.le_of_ble_eq_true rfl⟩) rfl rfl (Nat.le_of_ble_eq_true rfl) d_D_isFormed_241) ?_
    refine g_topi (fun r56 er56 => ?_)
    have hw := o_l hw r56 er56
    refine g_if_eq (tgt := 259) h d_D_isFormed_244 (by decide) (fun c57 => ?_) (fun c57 => ?_)
    · have hw := o_t c57 hw
      refine g_iconst (v := 0) h d_D_isFormed_259 (by decide) ?_
      exact g_zret h hQ d_D_isFormed_260 rfl hw
    · have hw := o_f c57 hw
      refine g_aload_n h d_D_isFormed_247 rfl rfl ?_
      refine g_iload_n h d_D_isFormed_248 rfl rfl ?_
      refine g_calli h (g_runV (rest := []) h (ct_D_isPlain hL v3 M (p_D_isPlain v3 M)) (cwV 1 h.2.2.2.2.1 (g_V m_ml_D_106 m_im_D_isPlain m_se_D_isPlain m_in_D m_co_D_isPlain) rfl rfl rfl (by decide +kernel) ⟨Nat.le_of_ble_eq_true rfl, Nat.le_of_ble_eq_true rfl⟩) (hL.recv h rfl (by decide) ob_30) rfl rfl (Nat.le_of_ble_eq_true rfl) d_D_isFormed_249) ?_
      refine g_topi (fun r59 er59 => ?_)
      have hw := o_l hw r59 er59
      refine g_if_eq (tgt := 259) h d_D_isFormed_252 (by decide) (fun c60 => ?_) (fun c60 => ?_)
      · have hw := o_t c60 hw
        refine g_iconst (v := 0) h d_D_isFormed_259 (by decide) ?_
        exact g_zret h hQ d_D_isFormed_260 rfl hw
      · have hw := o_f c60 hw
        refine g_iconst (v := 1) h d_D_isFormed_255 (by decide) ?_
        refine g_goto (tgt := 260) h d_D_isFormed_256 (by decide) ?_
        exact g_zret h hQ d_D_isFormed_260 rfl hw
  have hw := o_f c86_22 hw
  rcases Classical.em (v1 = 24) with c86_23 | c86_23
  · refine g_tabIn (tgt := 261) h d_D_isFormed_1 (by rw [c86_23]; decide) (by rw [c86_23]; decide) (by rw [c86_23]; rfl) (by decide) ?_
    have hw := o_t c86_23 hw
    refine g_aload_n h d_D_isFormed_261 rfl rfl ?_
    refine g_iload_n h d_D_isFormed_262 rfl rfl ?_
    refine g_calli h (g_runV (rest := []) h (ct_D_isPlain hL v2 M (p_D_isPlain v2 M)) (cwV 1 h.2.2.2.2.1 (g_V m_ml_D_106 m_im_D_isPlain m_se_D_isPlain m_in_D m_co_D_isPlain) rfl rfl rfl (by decide +kernel) ⟨Nat.le_of_ble_eq_true rfl, Nat.le_of_ble_eq_true rfl⟩) (hL.recv h rfl (by decide) ob_30) rfl rfl (Nat.le_of_ble_eq_true rfl) d_D_isFormed_263) ?_
    refine g_topi (fun r62 er62 => ?_)
    have hw := o_l hw r62 er62
    refine g_if_eq (tgt := 281) h d_D_isFormed_266 (by decide) (fun c63 => ?_) (fun c63 => ?_)
    · have hw := o_t c63 hw
      refine g_iconst (v := 0) h d_D_isFormed_281 (by decide) ?_
      exact g_zret h hQ d_D_isFormed_282 rfl hw
    · have hw := o_f c63 hw
      refine g_aload_n h d_D_isFormed_269 rfl rfl ?_
      refine g_iload_n h d_D_isFormed_270 rfl rfl ?_
      refine g_calli h (g_runV (rest := []) h (ct_D_isPlain hL v3 M (p_D_isPlain v3 M)) (cwV 1 h.2.2.2.2.1 (g_V m_ml_D_106 m_im_D_isPlain m_se_D_isPlain m_in_D m_co_D_isPlain) rfl rfl rfl (by decide +kernel) ⟨Nat.le_of_ble_eq_true rfl, Nat.le_of_ble_eq_true rfl⟩) (hL.recv h rfl (by decide) ob_30) rfl rfl (Nat.le_of_ble_eq_true rfl) d_D_isFormed_271) ?_
      refine g_topi (fun r65 er65 => ?_)
      have hw := o_l hw r65 er65
      refine g_if_eq (tgt := 281) h d_D_isFormed_274 (by decide) (fun c66 => ?_) (fun c66 => ?_)
      · have hw := o_t c66 hw
        refine g_iconst (v := 0) h d_D_isFormed_281 (by decide) ?_
        exact g_zret h hQ d_D_isFormed_282 rfl hw
      · have hw := o_f c66 hw
        refine g_iconst (v := 1) h d_D_isFormed_277 (by decide) ?_
        refine g_goto (tgt := 282) h d_D_isFormed_278 (by decide) ?_
        exact g_zret h hQ d_D_isFormed_282 rfl hw
  have hw := o_f c86_23 hw
  rcases Classical.em (v1 = 25) with c86_24 | c86_24
  · refine g_tabIn (tgt := 283) h d_D_isFormed_1 (by rw [c86_24]; decide) (by rw [c86_24]; decide) (by rw [c86_24]; rfl) (by decide) ?_
    have hw := o_t c86_24 hw
    refine g_aload_n h d_D_isFormed_283 rfl rfl ?_
    refine g_iload_n h d_D_isFormed_284 rfl rfl ?_
    refine g_calli h (g_runV (rest := []) h (ct_D_isRef hL v2 M (p_D_isRef v2 M)) (cwV 1 h.2.2.2.2.1 (g_V m_ml_D_99 m_im_D_isRef m_se_D_isRef m_in_D m_co_D_isRef) rfl rfl rfl (by decide +kernel) ⟨Nat.le_of_ble_eq_true rfl, Nat.le_of_ble_eq_true rfl⟩) (hL.recv h rfl (by decide) ob_30) rfl rfl (Nat.le_of_ble_eq_true rfl) d_D_isFormed_285) ?_
    refine g_topi (fun r68 er68 => ?_)
    have hw := o_l hw r68 er68
    obtain ⟨hn69, hw⟩ := o_nz hw
    exact g_zret h hQ d_D_isFormed_288 hn69 hw
  have hw := o_f c86_24 hw
  rcases Classical.em (v1 = 26) with c86_25 | c86_25
  · refine g_tabIn (tgt := 289) h d_D_isFormed_1 (by rw [c86_25]; decide) (by rw [c86_25]; decide) (by rw [c86_25]; rfl) (by decide) ?_
    have hw := o_t c86_25 hw
    refine g_iload_n h d_D_isFormed_289 rfl rfl ?_
    refine g_bipush (v := 12) h d_D_isFormed_290 (by decide) ?_
    refine g_icmp_eq (tgt := 310) h d_D_isFormed_292 (by decide) (fun c70 => ?_) (fun c70 => ?_)
    · have hw := o_t c70 hw
      refine g_iconst (v := 1) h d_D_isFormed_310 (by decide) ?_
      refine g_goto (tgt := 315) h d_D_isFormed_311 (by decide) ?_
      exact g_zret h hQ d_D_isFormed_315 rfl hw
    · have hw := o_f c70 hw
      refine g_aload_n h d_D_isFormed_295 rfl rfl ?_
      refine g_iload_n h d_D_isFormed_296 rfl rfl ?_
      refine g_calli h (g_runV (rest := []) h (ct_D_isRef hL v2 M (p_D_isRef v2 M)) (cwV 1 h.2.2.2.2.1 (g_V m_ml_D_99 m_im_D_isRef m_se_D_isRef m_in_D m_co_D_isRef) rfl rfl rfl (by decide +kernel) ⟨Nat.le_of_ble_eq_true rfl, Nat.le_of_ble_eq_true rfl⟩) (hL.recv h rfl (by decide) ob_30) rfl rfl (Nat.le_of_ble_eq_true rfl) d_D_isFormed_297) ?_
      refine g_topi (fun r72 er72 => ?_)
      have hw := o_l hw r72 er72
      refine g_if_eq (tgt := 314) h d_D_isFormed_300 (by decide) (fun c73 => ?_) (fun c73 => ?_)
      · have hw := o_t c73 hw
        refine g_iconst (v := 0) h d_D_isFormed_314 (by decide) ?_
        exact g_zret h hQ d_D_isFormed_315 rfl hw
      · have hw := o_f c73 hw
        refine g_iload_n h d_D_isFormed_303 rfl rfl ?_
        refine g_sipush (v := 192) h d_D_isFormed_304 (by decide) ?_
        refine g_icmp_ge (tgt := 314) h d_D_isFormed_307 (by decide) (fun c74 => ?_) (fun c74 => ?_)
        · have hw := o_t c74 hw
          refine g_iconst (v := 0) h d_D_isFormed_314 (by decide) ?_
          exact g_zret h hQ d_D_isFormed_315 rfl hw
        · have hw := o_f c74 hw
          refine g_iconst (v := 1) h d_D_isFormed_310 (by decide) ?_
          refine g_goto (tgt := 315) h d_D_isFormed_311 (by decide) ?_
          exact g_zret h hQ d_D_isFormed_315 rfl hw
  have hw := o_f c86_25 hw
  rcases Classical.em (v1 = 27) with c86_26 | c86_26
  · refine g_tabIn (tgt := 316) h d_D_isFormed_1 (by rw [c86_26]; decide) (by rw [c86_26]; decide) (by rw [c86_26]; rfl) (by decide) ?_
    have hw := o_t c86_26 hw
    refine g_aload_n h d_D_isFormed_316 rfl rfl ?_
    refine g_iload_n h d_D_isFormed_317 rfl rfl ?_
    refine g_calli h (g_runV (rest := []) h (ct_D_isRef hL v2 M (p_D_isRef v2 M)) (cwV 1 h.2.2.2.2.1 (g_V m_ml_D_99 m_im_D_isRef m_se_D_isRef m_in_D m_co_D_isRef) rfl rfl rfl (by decide +kernel) ⟨Nat.le_of_ble_eq_true rfl, Nat.le_of_ble_eq_true rfl⟩) (hL.recv h rfl (by decide) ob_30) rfl rfl (Nat.le_of_ble_eq_true rfl) d_D_isFormed_318) ?_
    refine g_topi (fun r76 er76 => ?_)
    have hw := o_l hw r76 er76
    refine g_if_eq (tgt := 334) h d_D_isFormed_321 (by decide) (fun c77 => ?_) (fun c77 => ?_)
    · have hw := o_t c77 hw
      refine g_iconst (v := 0) h d_D_isFormed_334 (by decide) ?_
      exact g_zret h hQ d_D_isFormed_335 rfl hw
    · have hw := o_f c77 hw
      refine g_iload_n h d_D_isFormed_324 rfl rfl ?_
      refine g_bipush (v := 64) h d_D_isFormed_325 (by decide) ?_
      refine g_icmp_lt (tgt := 334) h d_D_isFormed_327 (by decide) (fun c78 => ?_) (fun c78 => ?_)
      · have hw := o_t c78 hw
        refine g_iconst (v := 0) h d_D_isFormed_334 (by decide) ?_
        exact g_zret h hQ d_D_isFormed_335 rfl hw
      · have hw := o_f c78 hw
        refine g_iconst (v := 1) h d_D_isFormed_330 (by decide) ?_
        refine g_goto (tgt := 335) h d_D_isFormed_331 (by decide) ?_
        exact g_zret h hQ d_D_isFormed_335 rfl hw
  have hw := o_f c86_26 hw
  rcases Classical.em (v1 = 28) with c86_27 | c86_27
  · refine g_tabIn (tgt := 316) h d_D_isFormed_1 (by rw [c86_27]; decide) (by rw [c86_27]; decide) (by rw [c86_27]; rfl) (by decide) ?_
    have hw := o_t c86_27 hw
    refine g_aload_n h d_D_isFormed_316 rfl rfl ?_
    refine g_iload_n h d_D_isFormed_317 rfl rfl ?_
    refine g_calli h (g_runV (rest := []) h (ct_D_isRef hL v2 M (p_D_isRef v2 M)) (cwV 1 h.2.2.2.2.1 (g_V m_ml_D_99 m_im_D_isRef m_se_D_isRef m_in_D m_co_D_isRef) rfl rfl rfl (by decide +kernel) ⟨Nat.le_of_ble_eq_true rfl, Nat.le_of_ble_eq_true rfl⟩) (hL.recv h rfl (by decide) ob_30) rfl rfl (Nat.le_of_ble_eq_true rfl) d_D_isFormed_318) ?_
    refine g_topi (fun r80 er80 => ?_)
    have hw := o_l hw r80 er80
    refine g_if_eq (tgt := 334) h d_D_isFormed_321 (by decide) (fun c81 => ?_) (fun c81 => ?_)
    · have hw := o_t c81 hw
      refine g_iconst (v := 0) h d_D_isFormed_334 (by decide) ?_
      exact g_zret h hQ d_D_isFormed_335 rfl hw
    · have hw := o_f c81 hw
      refine g_iload_n h d_D_isFormed_324 rfl rfl ?_
      refine g_bipush (v := 64) h d_D_isFormed_325 (by decide) ?_
      refine g_icmp_lt (tgt := 334) h d_D_isFormed_327 (by decide) (fun c82 => ?_) (fun c82 => ?_)
      · have hw := o_t c82 hw
        refine g_iconst (v := 0) h d_D_isFormed_334 (by decide) ?_
        exact g_zret h hQ d_D_isFormed_335 rfl hw
      · have hw := o_f c82 hw
        refine g_iconst (v := 1) h d_D_isFormed_330 (by decide) ?_
        refine g_goto (tgt := 335) h d_D_isFormed_331 (by decide) ?_
        exact g_zret h hQ d_D_isFormed_335 rfl hw
  have hw := o_f c86_27 hw
  rcases Classical.em (v1 = 29) with c86_28 | c86_28
  · refine g_tabIn (tgt := 336) h d_D_isFormed_1 (by rw [c86_28]; decide) (by rw [c86_28]; decide) (by rw [c86_28]; rfl) (by decide) ?_
    have hw := o_t c86_28 hw
    refine g_iconst (v := 1) h d_D_isFormed_336 (by decide) ?_
    exact g_zret h hQ d_D_isFormed_337 rfl hw
  have hw := o_f c86_28 hw
  rcases Classical.em (v1 = 30) with c86_29 | c86_29
  · refine g_tabIn (tgt := 143) h d_D_isFormed_1 (by rw [c86_29]; decide) (by rw [c86_29]; decide) (by rw [c86_29]; rfl) (by decide) ?_
    have hw := o_t c86_29 hw
    refine g_iload_n h d_D_isFormed_143 rfl rfl ?_
    refine g_iconst (v := 0) h d_D_isFormed_144 (by decide) ?_
    refine g_aload_n h d_D_isFormed_145 rfl rfl ?_
    refine g_getI (t := 30) (i := 0) (k := 15) (C := "FlowGateModel") (T := T_D) (N := 42) h hL rfl (by decide) ob_30 (by decide) rfl (fun w hw => mc (in_D w hw)) (mc m_fl_D_112) rfl d_D_isFormed_146 ?_
    refine g_iconst (v := 1) h d_D_isFormed_149 (by decide) ?_
    refine g_isub h d_D_isFormed_150 ?_
    refine g_calli h (g_runS (rest := []) h (ct_D_in hL v2 0 ((M.1 30 0 15) - 1) M (p_D_in v2 0 ((M.1 30 0 15) - 1) M)) (cwS 3 h.2.2.2.2.1 (g_S m_ml_D_91 m_st_D_in m_in_D m_co_D_in) rfl rfl rfl (by decide +kernel) ⟨Nat.le_of_ble_eq_true rfl, Nat.le_of_ble_eq_true rfl⟩) rfl rfl (Nat.le_of_ble_eq_true rfl) d_D_isFormed_151) ?_
    refine g_topi (fun r84 er84 => ?_)
    have hw := o_l hw r84 er84
    obtain ⟨hn85, hw⟩ := o_nz hw
    exact g_zret h hQ d_D_isFormed_154 hn85 hw
  have hw := o_f c86_29 hw
  refine g_tabOut (tgt := 336) h d_D_isFormed_1 (sw_out 1 30 (by decide) (by decide) (fun j hj => ?_)) (by decide) ?_
  · rcases (show j = 0 ∨ j = 1 ∨ j = 2 ∨ j = 3 ∨ j = 4 ∨ j = 5 ∨ j = 6 ∨ j = 7 ∨ j = 8 ∨ j = 9 ∨ j = 10 ∨ j = 11 ∨ j = 12 ∨ j = 13 ∨ j = 14 ∨ j = 15 ∨ j = 16 ∨ j = 17 ∨ j = 18 ∨ j = 19 ∨ j = 20 ∨ j = 21 ∨ j = 22 ∨ j = 23 ∨ j = 24 ∨ j = 25 ∨ j = 26 ∨ j = 27 ∨ j = 28 ∨ j = 29 by omega) with rfl | rfl | rfl | rfl | rfl | rfl | rfl | rfl | rfl | rfl | rfl | rfl | rfl | rfl | rfl | rfl | rfl | rfl | rfl | rfl | rfl | rfl | rfl | rfl | rfl | rfl | rfl | rfl | rfl | rfl
    · exact c86_0
    · exact c86_1
    · exact c86_2
    · exact c86_3
    · exact c86_4
    · exact c86_5
    · exact c86_6
    · exact c86_7
    · exact c86_8
    · exact c86_9
    · exact c86_10
    · exact c86_11
    · exact c86_12
    · exact c86_13
    · exact c86_14
    · exact c86_15
    · exact c86_16
    · exact c86_17
    · exact c86_18
    · exact c86_19
    · exact c86_20
    · exact c86_21
    · exact c86_22
    · exact c86_23
    · exact c86_24
    · exact c86_25
    · exact c86_26
    · exact c86_27
    · exact c86_28
    · exact c86_29
  refine g_iconst (v := 1) h d_D_isFormed_336 (by decide) ?_
  exact g_zret h hQ d_D_isFormed_337 rfl hw
set_option maxHeartbeats 4000000 in
set_option maxRecDepth 100000 in
theorem ct_D_fail {Z : ZT} (hL : Lay Z sD) (v1 : Int32) (v2 : Int32) (M : Mm)  {res : Mm} (hw : F_D_fail v1 v2 M = some res) : CtV Z y_D_fail ws_D_fail (({ frames := 0, cells := 0, slots := 0, locals := 0 })) [.ref (za Z 30 0), .int v1, .int v2] M res := by
  refine CtV.of hL (cc := c_D_fail) (maxL := 3) (by decide) rfl (Nat.le_of_ble_eq_true rfl) (fun X h hQ => ?_)
  show G Z X M 0 [(0, .ref (za Z 30 0)), (1, .int v1), (2, .int v2)] []
  rw [F_D_fail] at hw
  refine g_aload_n h d_D_fail_0 rfl rfl ?_
  refine g_getI (t := 30) (i := 0) (k := 34) (C := "FlowGateModel") (T := T_D) (N := 42) h hL rfl (by decide) ob_30 (by decide) rfl (fun w hw => mc (in_D w hw)) (mc m_fl_D_130) rfl d_D_fail_1 ?_
  refine g_if_le (tgt := 8) h d_D_fail_4 (by decide) (fun c1 => ?_) (fun c1 => ?_)
  · have hw := o_t c1 hw
    refine g_aload_n h d_D_fail_8 rfl rfl ?_
    refine g_iload_n h d_D_fail_9 rfl rfl ?_
    refine g_putI (t := 30) (i := 0) (k := 34) (C := "FlowGateModel") (T := T_D) (N := 42) h hL rfl (by decide) ob_30 (by decide) rfl (fun w hw => mc (in_D w hw)) ty_D ty_D_ok nm_D (mc m_fl_D_130) rfl rfl rfl d_D_fail_10 ?_
    refine g_mem (fun M2 eM2 => ?_)
    have hw := o_l hw M2 eM2
    refine g_aload_n h d_D_fail_13 rfl rfl ?_
    refine g_iload_n h d_D_fail_14 rfl rfl ?_
    refine g_putI (t := 30) (i := 0) (k := 35) (C := "FlowGateModel") (T := T_D) (N := 42) h hL rfl (by decide) ob_30 (by decide) rfl (fun w hw => mc (in_D w hw)) ty_D ty_D_ok nm_D (mc m_fl_D_88) rfl rfl rfl d_D_fail_15 ?_
    refine g_mem (fun M3 eM3 => ?_)
    have hw := o_l hw M3 eM3
    exact g_vret h hQ d_D_fail_18 hw
  · have hw := o_f c1 hw
    exact g_vret h hQ d_D_fail_7 hw
