set_option maxHeartbeats 4000000 in
set_option maxRecDepth 100000 in
theorem ct_O_isNumber {Z : ZT} (hL : Lay Z sC) (v0 : Int32) (M : Mm)  {res : Int32 × Mm} (hw : F_O_isNumber v0 M = some res) : CtI Z y_O_isNumber ws_O_isNumber (({ frames := 0, cells := 0, slots := 0, locals := 0 })) [.int v0] M res := by
  refine CtI.of hL (cc := c_O_isNumber) (maxL := 1) (by decide) rfl (Nat.le_of_ble_eq_true rfl) (fun X h hQ => ?_)
  show G Z X M 0 [(0, .int v0)] []
  rw [F_O_isNumber] at hw
  refine g_iload_n h d_O_isNumber_0 rfl rfl ?_
  refine g_iconst (v := 1) h d_O_isNumber_1 (by decide) ?_
  refine g_icmp_lt (tgt := 14) h d_O_isNumber_2 (by decide) (fun c1 => ?_) (fun c1 => ?_)
  · have hw := o_t c1 hw
    refine g_iconst (v := 0) h d_O_isNumber_14 (by decide) ?_
    exact g_zret h hQ d_O_isNumber_15 rfl hw
  · have hw := o_f c1 hw
    refine g_iload_n h d_O_isNumber_5 rfl rfl ?_
    refine g_iconst (v := 4) h d_O_isNumber_6 (by decide) ?_
    refine g_icmp_gt (tgt := 14) h d_O_isNumber_7 (by decide) (fun c2 => ?_) (fun c2 => ?_)
    · have hw := o_t c2 hw
      refine g_iconst (v := 0) h d_O_isNumber_14 (by decide) ?_
      exact g_zret h hQ d_O_isNumber_15 rfl hw
    · have hw := o_f c2 hw
      refine g_iconst (v := 1) h d_O_isNumber_10 (by decide) ?_
      refine g_goto (tgt := 15) h d_O_isNumber_11 (by decide) ?_
      exact g_zret h hQ d_O_isNumber_15 rfl hw
set_option maxHeartbeats 4000000 in
set_option maxRecDepth 100000 in
theorem ct_T_isRow {Z : ZT} (hL : Lay Z sC) (v1 : Int32) (M : Mm)  {res : Int32 × Mm} (hw : F_T_isRow v1 M = some res) : CtI Z y_T_isRow ws_T_isRow (({ frames := 1, cells := 0, slots := 0, locals := 23 })) [.ref (za Z 1 0), .int v1] M res := by
  refine CtI.of hL (cc := c_T_isRow) (maxL := 2) (by decide) rfl (Nat.le_of_ble_eq_true rfl) (fun X h hQ => ?_)
  show G Z X M 0 [(0, .ref (za Z 1 0)), (1, .int v1)] []
  rw [F_T_isRow] at hw
  refine g_iload_n h d_T_isRow_0 rfl rfl ?_
  refine g_bipush (v := 64) h d_T_isRow_1 (by decide) ?_
  refine g_icmp_lt (tgt := 18) h d_T_isRow_3 (by decide) (fun c1 => ?_) (fun c1 => ?_)
  · have hw := o_t c1 hw
    refine g_iconst (v := 0) h d_T_isRow_18 (by decide) ?_
    exact g_zret h hQ d_T_isRow_19 rfl hw
  · have hw := o_f c1 hw
    refine g_aload_n h d_T_isRow_6 rfl rfl ?_
    refine g_iload_n h d_T_isRow_7 rfl rfl ?_
    refine g_calli h (g_runV (rest := []) h (ct_T_isRef hL v1 M (p_T_isRef v1 M)) (cwV 1 h.2.2.2.2.1 (g_V m_ml_T_23 m_im_T_isRef m_se_T_isRef m_in_T m_co_T_isRef) rfl rfl rfl (by decide +kernel) ⟨Nat.le_of_ble_eq_true rfl, Nat.le_of_ble_eq_true rfl⟩) (hL.recv h rfl (by decide) ob_1) rfl rfl (Nat.le_of_ble_eq_true rfl) d_T_isRow_8) ?_
    refine g_topi (fun r3 er3 => ?_)
    have hw := o_l hw r3 er3
    refine g_if_eq (tgt := 18) h d_T_isRow_11 (by decide) (fun c4 => ?_) (fun c4 => ?_)
    · have hw := o_t c4 hw
      refine g_iconst (v := 0) h d_T_isRow_18 (by decide) ?_
      exact g_zret h hQ d_T_isRow_19 rfl hw
    · have hw := o_f c4 hw
      refine g_iconst (v := 1) h d_T_isRow_14 (by decide) ?_
      refine g_goto (tgt := 19) h d_T_isRow_15 (by decide) ?_
      exact g_zret h hQ d_T_isRow_19 rfl hw
set_option maxHeartbeats 4000000 in
set_option maxRecDepth 100000 in
theorem ct_O_isWellFormed {Z : ZT} (hL : Lay Z sC) (v1 : Int32) (v2 : Int32) (v3 : Int32) (M : Mm)  {res : Int32 × Mm} (hw : F_O_isWellFormed v1 v2 v3 M = some res) : CtI Z y_O_isWellFormed ws_O_isWellFormed (({ frames := 2, cells := 0, slots := 0, locals := 44 })) [.ref (za Z 13 0), .int v1, .int v2, .int v3] M res := by
  refine CtI.of hL (cc := c_O_isWellFormed) (maxL := 4) (by decide) rfl (Nat.le_of_ble_eq_true rfl) (fun X h hQ => ?_)
  show G Z X M 0 [(0, .ref (za Z 13 0)), (1, .int v1), (2, .int v2), (3, .int v3)] []
  rw [F_O_isWellFormed] at hw
  refine g_iload_n h d_O_isWellFormed_0 rfl rfl ?_
  rcases Classical.em (v1 = 1) with c82_0 | c82_0
  · refine g_tabIn (tgt := 136) h d_O_isWellFormed_1 (by rw [c82_0]; decide) (by rw [c82_0]; decide) (by rw [c82_0]; rfl) (by decide) ?_
    have hw := o_t c82_0 hw
    refine g_iload_n h d_O_isWellFormed_136 rfl rfl ?_
    refine g_iconst (v := 1) h d_O_isWellFormed_137 (by decide) ?_
    refine g_icmp_lt (tgt := 150) h d_O_isWellFormed_138 (by decide) (fun c1 => ?_) (fun c1 => ?_)
    · have hw := o_t c1 hw
      refine g_iconst (v := 0) h d_O_isWellFormed_150 (by decide) ?_
      exact g_zret h hQ d_O_isWellFormed_151 rfl hw
    · have hw := o_f c1 hw
      refine g_iload_n h d_O_isWellFormed_141 rfl rfl ?_
      refine g_iconst (v := 5) h d_O_isWellFormed_142 (by decide) ?_
      refine g_icmp_gt (tgt := 150) h d_O_isWellFormed_143 (by decide) (fun c2 => ?_) (fun c2 => ?_)
      · have hw := o_t c2 hw
        refine g_iconst (v := 0) h d_O_isWellFormed_150 (by decide) ?_
        exact g_zret h hQ d_O_isWellFormed_151 rfl hw
      · have hw := o_f c2 hw
        refine g_iconst (v := 1) h d_O_isWellFormed_146 (by decide) ?_
        refine g_goto (tgt := 151) h d_O_isWellFormed_147 (by decide) ?_
        exact g_zret h hQ d_O_isWellFormed_151 rfl hw
  have hw := o_f c82_0 hw
  rcases Classical.em (v1 = 2) with c82_1 | c82_1
  · refine g_tabIn (tgt := 152) h d_O_isWellFormed_1 (by rw [c82_1]; decide) (by rw [c82_1]; decide) (by rw [c82_1]; rfl) (by decide) ?_
    have hw := o_t c82_1 hw
    refine g_aload_n h d_O_isWellFormed_152 rfl rfl ?_
    refine g_getR (t := 13) (i := 0) (k := 1) (C := "FlowGate$Form") (T := T_O) (N := 2) h hL rfl (by decide) ob_13 (by decide) rfl (t' := 4) (i' := 0) rfl rfl (fun w hw => mc (in_O w hw)) (mc m_fl_O_15) rfl d_O_isWellFormed_153 ?_
    refine g_iload_n h d_O_isWellFormed_156 rfl rfl ?_
    refine g_calli h (g_runV (rest := []) h (ct_M_hasLocal hL v2 M (p_M_hasLocal v2 M)) (cwV 1 h.2.2.2.2.1 (g_V m_ml_O_50 m_im_M_hasLocal m_se_M_hasLocal m_in_M m_co_M_hasLocal) rfl rfl rfl (by decide +kernel) ⟨Nat.le_of_ble_eq_true rfl, Nat.le_of_ble_eq_true rfl⟩) (hL.recv h rfl (by decide) ob_4) rfl rfl (Nat.le_of_ble_eq_true rfl) d_O_isWellFormed_157) ?_
    refine g_topi (fun r4 er4 => ?_)
    have hw := o_l hw r4 er4
    obtain ⟨hn5, hw⟩ := o_nz hw
    exact g_zret h hQ d_O_isWellFormed_160 hn5 hw
  have hw := o_f c82_1 hw
  rcases Classical.em (v1 = 3) with c82_2 | c82_2
  · refine g_tabIn (tgt := 152) h d_O_isWellFormed_1 (by rw [c82_2]; decide) (by rw [c82_2]; decide) (by rw [c82_2]; rfl) (by decide) ?_
    have hw := o_t c82_2 hw
    refine g_aload_n h d_O_isWellFormed_152 rfl rfl ?_
    refine g_getR (t := 13) (i := 0) (k := 1) (C := "FlowGate$Form") (T := T_O) (N := 2) h hL rfl (by decide) ob_13 (by decide) rfl (t' := 4) (i' := 0) rfl rfl (fun w hw => mc (in_O w hw)) (mc m_fl_O_15) rfl d_O_isWellFormed_153 ?_
    refine g_iload_n h d_O_isWellFormed_156 rfl rfl ?_
    refine g_calli h (g_runV (rest := []) h (ct_M_hasLocal hL v2 M (p_M_hasLocal v2 M)) (cwV 1 h.2.2.2.2.1 (g_V m_ml_O_50 m_im_M_hasLocal m_se_M_hasLocal m_in_M m_co_M_hasLocal) rfl rfl rfl (by decide +kernel) ⟨Nat.le_of_ble_eq_true rfl, Nat.le_of_ble_eq_true rfl⟩) (hL.recv h rfl (by decide) ob_4) rfl rfl (Nat.le_of_ble_eq_true rfl) d_O_isWellFormed_157) ?_
    refine g_topi (fun r7 er7 => ?_)
    have hw := o_l hw r7 er7
    obtain ⟨hn8, hw⟩ := o_nz hw
    exact g_zret h hQ d_O_isWellFormed_160 hn8 hw
  have hw := o_f c82_2 hw
  rcases Classical.em (v1 = 4) with c82_3 | c82_3
  · refine g_tabIn (tgt := 352) h d_O_isWellFormed_1 (by rw [c82_3]; decide) (by rw [c82_3]; decide) (by rw [c82_3]; rfl) (by decide) ?_
    have hw := o_t c82_3 hw
    refine g_iconst (v := 1) h d_O_isWellFormed_352 (by decide) ?_
    exact g_zret h hQ d_O_isWellFormed_353 rfl hw
  have hw := o_f c82_3 hw
  rcases Classical.em (v1 = 5) with c82_4 | c82_4
  · refine g_tabIn (tgt := 352) h d_O_isWellFormed_1 (by rw [c82_4]; decide) (by rw [c82_4]; decide) (by rw [c82_4]; rfl) (by decide) ?_
    have hw := o_t c82_4 hw
    refine g_iconst (v := 1) h d_O_isWellFormed_352 (by decide) ?_
    exact g_zret h hQ d_O_isWellFormed_353 rfl hw
  have hw := o_f c82_4 hw
  rcases Classical.em (v1 = 6) with c82_5 | c82_5
  · refine g_tabIn (tgt := 352) h d_O_isWellFormed_1 (by rw [c82_5]; decide) (by rw [c82_5]; decide) (by rw [c82_5]; rfl) (by decide) ?_
    have hw := o_t c82_5 hw
    refine g_iconst (v := 1) h d_O_isWellFormed_352 (by decide) ?_
    exact g_zret h hQ d_O_isWellFormed_353 rfl hw
  have hw := o_f c82_5 hw
  rcases Classical.em (v1 = 7) with c82_6 | c82_6
  · refine g_tabIn (tgt := 352) h d_O_isWellFormed_1 (by rw [c82_6]; decide) (by rw [c82_6]; decide) (by rw [c82_6]; rfl) (by decide) ?_
    have hw := o_t c82_6 hw
    refine g_iconst (v := 1) h d_O_isWellFormed_352 (by decide) ?_
    exact g_zret h hQ d_O_isWellFormed_353 rfl hw
  have hw := o_f c82_6 hw
  rcases Classical.em (v1 = 8) with c82_7 | c82_7
  · refine g_tabIn (tgt := 352) h d_O_isWellFormed_1 (by rw [c82_7]; decide) (by rw [c82_7]; decide) (by rw [c82_7]; rfl) (by decide) ?_
    have hw := o_t c82_7 hw
    refine g_iconst (v := 1) h d_O_isWellFormed_352 (by decide) ?_
    exact g_zret h hQ d_O_isWellFormed_353 rfl hw
  have hw := o_f c82_7 hw
  rcases Classical.em (v1 = 9) with c82_8 | c82_8
  · refine g_tabIn (tgt := 161) h d_O_isWellFormed_1 (by rw [c82_8]; decide) (by rw [c82_8]; decide) (by rw [c82_8]; rfl) (by decide) ?_
    have hw := o_t c82_8 hw
    refine g_iload_n h d_O_isWellFormed_161 rfl rfl ?_
    refine g_calli h (g_runS (rest := []) h (ct_O_isNumber hL v2 M (p_O_isNumber v2 M)) (cwS 1 h.2.2.2.2.1 (g_S m_ml_O_53 m_st_O_isNumber m_in_O m_co_O_isNumber) rfl rfl rfl (by decide +kernel) ⟨Nat.le_of_ble_eq_true rfl, Nat.le_of_ble_eq_true rfl⟩) rfl rfl (Nat.le_of_ble_eq_true rfl) d_O_isWellFormed_162) ?_
    refine g_topi (fun r10 er10 => ?_)
    have hw := o_l hw r10 er10
    obtain ⟨hn11, hw⟩ := o_nz hw
    exact g_zret h hQ d_O_isWellFormed_165 hn11 hw
  have hw := o_f c82_8 hw
  rcases Classical.em (v1 = 10) with c82_9 | c82_9
  · refine g_tabIn (tgt := 166) h d_O_isWellFormed_1 (by rw [c82_9]; decide) (by rw [c82_9]; decide) (by rw [c82_9]; rfl) (by decide) ?_
    have hw := o_t c82_9 hw
    refine g_iload_n h d_O_isWellFormed_166 rfl rfl ?_
    refine g_calli h (g_runS (rest := []) h (ct_O_isNumber hL v2 M (p_O_isNumber v2 M)) (cwS 1 h.2.2.2.2.1 (g_S m_ml_O_53 m_st_O_isNumber m_in_O m_co_O_isNumber) rfl rfl rfl (by decide +kernel) ⟨Nat.le_of_ble_eq_true rfl, Nat.le_of_ble_eq_true rfl⟩) rfl rfl (Nat.le_of_ble_eq_true rfl) d_O_isWellFormed_167) ?_
    refine g_topi (fun r13 er13 => ?_)
    have hw := o_l hw r13 er13
    refine g_if_eq (tgt := 184) h d_O_isWellFormed_170 (by decide) (fun c14 => ?_) (fun c14 => ?_)
    · have hw := o_t c14 hw
      refine g_iconst (v := 0) h d_O_isWellFormed_184 (by decide) ?_
      exact g_zret h hQ d_O_isWellFormed_185 rfl hw
    · have hw := o_f c14 hw
      refine g_iload_n h d_O_isWellFormed_173 rfl rfl ?_
      refine g_calli h (g_runS (rest := []) h (ct_O_isNumber hL v3 M (p_O_isNumber v3 M)) (cwS 1 h.2.2.2.2.1 (g_S m_ml_O_53 m_st_O_isNumber m_in_O m_co_O_isNumber) rfl rfl rfl (by decide +kernel) ⟨Nat.le_of_ble_eq_true rfl, Nat.le_of_ble_eq_true rfl⟩) rfl rfl (Nat.le_of_ble_eq_true rfl) d_O_isWellFormed_174) ?_
      refine g_topi (fun r16 er16 => ?_)
      have hw := o_l hw r16 er16
      refine g_if_eq (tgt := 184) h d_O_isWellFormed_177 (by decide) (fun c17 => ?_) (fun c17 => ?_)
      · have hw := o_t c17 hw
        refine g_iconst (v := 0) h d_O_isWellFormed_184 (by decide) ?_
        exact g_zret h hQ d_O_isWellFormed_185 rfl hw
      · have hw := o_f c17 hw
        refine g_iconst (v := 1) h d_O_isWellFormed_180 (by decide) ?_
        refine g_goto (tgt := 185) h d_O_isWellFormed_181 (by decide) ?_
        exact g_zret h hQ d_O_isWellFormed_185 rfl hw
  have hw := o_f c82_9 hw
  rcases Classical.em (v1 = 11) with c82_10 | c82_10
  · refine g_tabIn (tgt := 186) h d_O_isWellFormed_1 (by rw [c82_10]; decide) (by rw [c82_10]; decide) (by rw [c82_10]; rfl) (by decide) ?_
    have hw := o_t c82_10 hw
    refine g_iload_n h d_O_isWellFormed_186 rfl rfl ?_
    refine g_iconst (v := 2) h d_O_isWellFormed_187 (by decide) ?_
    refine g_icmp_lt (tgt := 200) h d_O_isWellFormed_188 (by decide) (fun c18 => ?_) (fun c18 => ?_)
    · have hw := o_t c18 hw
      refine g_iconst (v := 0) h d_O_isWellFormed_200 (by decide) ?_
      exact g_zret h hQ d_O_isWellFormed_201 rfl hw
    · have hw := o_f c18 hw
      refine g_iload_n h d_O_isWellFormed_191 rfl rfl ?_
      refine g_iconst (v := 4) h d_O_isWellFormed_192 (by decide) ?_
      refine g_icmp_gt (tgt := 200) h d_O_isWellFormed_193 (by decide) (fun c19 => ?_) (fun c19 => ?_)
      · have hw := o_t c19 hw
        refine g_iconst (v := 0) h d_O_isWellFormed_200 (by decide) ?_
        exact g_zret h hQ d_O_isWellFormed_201 rfl hw
      · have hw := o_f c19 hw
        refine g_iconst (v := 1) h d_O_isWellFormed_196 (by decide) ?_
        refine g_goto (tgt := 201) h d_O_isWellFormed_197 (by decide) ?_
        exact g_zret h hQ d_O_isWellFormed_201 rfl hw
  have hw := o_f c82_10 hw
  rcases Classical.em (v1 = 12) with c82_11 | c82_11
  · refine g_tabIn (tgt := 202) h d_O_isWellFormed_1 (by rw [c82_11]; decide) (by rw [c82_11]; decide) (by rw [c82_11]; rfl) (by decide) ?_
    have hw := o_t c82_11 hw
    refine g_aload_n h d_O_isWellFormed_202 rfl rfl ?_
    refine g_getR (t := 13) (i := 0) (k := 1) (C := "FlowGate$Form") (T := T_O) (N := 2) h hL rfl (by decide) ob_13 (by decide) rfl (t' := 4) (i' := 0) rfl rfl (fun w hw => mc (in_O w hw)) (mc m_fl_O_15) rfl d_O_isWellFormed_203 ?_
    refine g_iload_n h d_O_isWellFormed_206 rfl rfl ?_
    refine g_calli h (g_runV (rest := []) h (ct_M_hasInstruction hL v3 M (p_M_hasInstruction v3 M)) (cwV 1 h.2.2.2.2.1 (g_V m_ml_O_56 m_im_M_hasInstruction m_se_M_hasInstruction m_in_M m_co_M_hasInstruction) rfl rfl rfl (by decide +kernel) ⟨Nat.le_of_ble_eq_true rfl, Nat.le_of_ble_eq_true rfl⟩) (hL.recv h rfl (by decide) ob_4) rfl rfl (Nat.le_of_ble_eq_true rfl) d_O_isWellFormed_207) ?_
    refine g_topi (fun r21 er21 => ?_)
    have hw := o_l hw r21 er21
    obtain ⟨hn22, hw⟩ := o_nz hw
    exact g_zret h hQ d_O_isWellFormed_210 hn22 hw
  have hw := o_f c82_11 hw
  rcases Classical.em (v1 = 13) with c82_12 | c82_12
  · refine g_tabIn (tgt := 202) h d_O_isWellFormed_1 (by rw [c82_12]; decide) (by rw [c82_12]; decide) (by rw [c82_12]; rfl) (by decide) ?_
    have hw := o_t c82_12 hw
    refine g_aload_n h d_O_isWellFormed_202 rfl rfl ?_
    refine g_getR (t := 13) (i := 0) (k := 1) (C := "FlowGate$Form") (T := T_O) (N := 2) h hL rfl (by decide) ob_13 (by decide) rfl (t' := 4) (i' := 0) rfl rfl (fun w hw => mc (in_O w hw)) (mc m_fl_O_15) rfl d_O_isWellFormed_203 ?_
    refine g_iload_n h d_O_isWellFormed_206 rfl rfl ?_
    refine g_calli h (g_runV (rest := []) h (ct_M_hasInstruction hL v3 M (p_M_hasInstruction v3 M)) (cwV 1 h.2.2.2.2.1 (g_V m_ml_O_56 m_im_M_hasInstruction m_se_M_hasInstruction m_in_M m_co_M_hasInstruction) rfl rfl rfl (by decide +kernel) ⟨Nat.le_of_ble_eq_true rfl, Nat.le_of_ble_eq_true rfl⟩) (hL.recv h rfl (by decide) ob_4) rfl rfl (Nat.le_of_ble_eq_true rfl) d_O_isWellFormed_207) ?_
    refine g_topi (fun r24 er24 => ?_)
    have hw := o_l hw r24 er24
    obtain ⟨hn25, hw⟩ := o_nz hw
    exact g_zret h hQ d_O_isWellFormed_210 hn25 hw
  have hw := o_f c82_12 hw
  rcases Classical.em (v1 = 14) with c82_13 | c82_13
  · refine g_tabIn (tgt := 202) h d_O_isWellFormed_1 (by rw [c82_13]; decide) (by rw [c82_13]; decide) (by rw [c82_13]; rfl) (by decide) ?_
    have hw := o_t c82_13 hw
    refine g_aload_n h d_O_isWellFormed_202 rfl rfl ?_
    refine g_getR (t := 13) (i := 0) (k := 1) (C := "FlowGate$Form") (T := T_O) (N := 2) h hL rfl (by decide) ob_13 (by decide) rfl (t' := 4) (i' := 0) rfl rfl (fun w hw => mc (in_O w hw)) (mc m_fl_O_15) rfl d_O_isWellFormed_203 ?_
    refine g_iload_n h d_O_isWellFormed_206 rfl rfl ?_
    refine g_calli h (g_runV (rest := []) h (ct_M_hasInstruction hL v3 M (p_M_hasInstruction v3 M)) (cwV 1 h.2.2.2.2.1 (g_V m_ml_O_56 m_im_M_hasInstruction m_se_M_hasInstruction m_in_M m_co_M_hasInstruction) rfl rfl rfl (by decide +kernel) ⟨Nat.le_of_ble_eq_true rfl, Nat.le_of_ble_eq_true rfl⟩) (hL.recv h rfl (by decide) ob_4) rfl rfl (Nat.le_of_ble_eq_true rfl) d_O_isWellFormed_207) ?_
    refine g_topi (fun r27 er27 => ?_)
    have hw := o_l hw r27 er27
    obtain ⟨hn28, hw⟩ := o_nz hw
    exact g_zret h hQ d_O_isWellFormed_210 hn28 hw
  have hw := o_f c82_13 hw
  rcases Classical.em (v1 = 15) with c82_14 | c82_14
  · refine g_tabIn (tgt := 202) h d_O_isWellFormed_1 (by rw [c82_14]; decide) (by rw [c82_14]; decide) (by rw [c82_14]; rfl) (by decide) ?_
    have hw := o_t c82_14 hw
    refine g_aload_n h d_O_isWellFormed_202 rfl rfl ?_
    refine g_getR (t := 13) (i := 0) (k := 1) (C := "FlowGate$Form") (T := T_O) (N := 2) h hL rfl (by decide) ob_13 (by decide) rfl (t' := 4) (i' := 0) rfl rfl (fun w hw => mc (in_O w hw)) (mc m_fl_O_15) rfl d_O_isWellFormed_203 ?_
    refine g_iload_n h d_O_isWellFormed_206 rfl rfl ?_
    refine g_calli h (g_runV (rest := []) h (ct_M_hasInstruction hL v3 M (p_M_hasInstruction v3 M)) (cwV 1 h.2.2.2.2.1 (g_V m_ml_O_56 m_im_M_hasInstruction m_se_M_hasInstruction m_in_M m_co_M_hasInstruction) rfl rfl rfl (by decide +kernel) ⟨Nat.le_of_ble_eq_true rfl, Nat.le_of_ble_eq_true rfl⟩) (hL.recv h rfl (by decide) ob_4) rfl rfl (Nat.le_of_ble_eq_true rfl) d_O_isWellFormed_207) ?_
    refine g_topi (fun r30 er30 => ?_)
    have hw := o_l hw r30 er30
    obtain ⟨hn31, hw⟩ := o_nz hw
    exact g_zret h hQ d_O_isWellFormed_210 hn31 hw
  have hw := o_f c82_14 hw
  rcases Classical.em (v1 = 16) with c82_15 | c82_15
  · refine g_tabIn (tgt := 152) h d_O_isWellFormed_1 (by rw [c82_15]; decide) (by rw [c82_15]; decide) (by rw [c82_15]; rfl) (by decide) ?_
    have hw := o_t c82_15 hw
    refine g_aload_n h d_O_isWellFormed_152 rfl rfl ?_
    refine g_getR (t := 13) (i := 0) (k := 1) (C := "FlowGate$Form") (T := T_O) (N := 2) h hL rfl (by decide) ob_13 (by decide) rfl (t' := 4) (i' := 0) rfl rfl (fun w hw => mc (in_O w hw)) (mc m_fl_O_15) rfl d_O_isWellFormed_153 ?_
    refine g_iload_n h d_O_isWellFormed_156 rfl rfl ?_
    refine g_calli h (g_runV (rest := []) h (ct_M_hasLocal hL v2 M (p_M_hasLocal v2 M)) (cwV 1 h.2.2.2.2.1 (g_V m_ml_O_50 m_im_M_hasLocal m_se_M_hasLocal m_in_M m_co_M_hasLocal) rfl rfl rfl (by decide +kernel) ⟨Nat.le_of_ble_eq_true rfl, Nat.le_of_ble_eq_true rfl⟩) (hL.recv h rfl (by decide) ob_4) rfl rfl (Nat.le_of_ble_eq_true rfl) d_O_isWellFormed_157) ?_
    refine g_topi (fun r33 er33 => ?_)
    have hw := o_l hw r33 er33
    obtain ⟨hn34, hw⟩ := o_nz hw
    exact g_zret h hQ d_O_isWellFormed_160 hn34 hw
  have hw := o_f c82_15 hw
  rcases Classical.em (v1 = 17) with c82_16 | c82_16
  · refine g_tabIn (tgt := 211) h d_O_isWellFormed_1 (by rw [c82_16]; decide) (by rw [c82_16]; decide) (by rw [c82_16]; rfl) (by decide) ?_
    have hw := o_t c82_16 hw
    refine g_aload_n h d_O_isWellFormed_211 rfl rfl ?_
    refine g_getR (t := 13) (i := 0) (k := 1) (C := "FlowGate$Form") (T := T_O) (N := 2) h hL rfl (by decide) ob_13 (by decide) rfl (t' := 4) (i' := 0) rfl rfl (fun w hw => mc (in_O w hw)) (mc m_fl_O_15) rfl d_O_isWellFormed_212 ?_
    refine g_iload_n h d_O_isWellFormed_215 rfl rfl ?_
    refine g_calli h (g_runV (rest := []) h (ct_M_hasInstruction hL v2 M (p_M_hasInstruction v2 M)) (cwV 1 h.2.2.2.2.1 (g_V m_ml_O_56 m_im_M_hasInstruction m_se_M_hasInstruction m_in_M m_co_M_hasInstruction) rfl rfl rfl (by decide +kernel) ⟨Nat.le_of_ble_eq_true rfl, Nat.le_of_ble_eq_true rfl⟩) (hL.recv h rfl (by decide) ob_4) rfl rfl (Nat.le_of_ble_eq_true rfl) d_O_isWellFormed_216) ?_
    refine g_topi (fun r36 er36 => ?_)
    have hw := o_l hw r36 er36
    refine g_if_eq (tgt := 237) h d_O_isWellFormed_219 (by decide) (fun c37 => ?_) (fun c37 => ?_)
    · have hw := o_t c37 hw
      refine g_iconst (v := 0) h d_O_isWellFormed_237 (by decide) ?_
      exact g_zret h hQ d_O_isWellFormed_238 rfl hw
    · have hw := o_f c37 hw
      refine g_aload_n h d_O_isWellFormed_222 rfl rfl ?_
      refine g_getR (t := 13) (i := 0) (k := 1) (C := "FlowGate$Form") (T := T_O) (N := 2) h hL rfl (by decide) ob_13 (by decide) rfl (t' := 4) (i' := 0) rfl rfl (fun w hw => mc (in_O w hw)) (mc m_fl_O_15) rfl d_O_isWellFormed_223 ?_
      refine g_iload_n h d_O_isWellFormed_226 rfl rfl ?_
      refine g_calli h (g_runV (rest := []) h (ct_M_hasInstruction hL v3 M (p_M_hasInstruction v3 M)) (cwV 1 h.2.2.2.2.1 (g_V m_ml_O_56 m_im_M_hasInstruction m_se_M_hasInstruction m_in_M m_co_M_hasInstruction) rfl rfl rfl (by decide +kernel) ⟨Nat.le_of_ble_eq_true rfl, Nat.le_of_ble_eq_true rfl⟩) (hL.recv h rfl (by decide) ob_4) rfl rfl (Nat.le_of_ble_eq_true rfl) d_O_isWellFormed_227) ?_
      refine g_topi (fun r39 er39 => ?_)
      have hw := o_l hw r39 er39
      refine g_if_eq (tgt := 237) h d_O_isWellFormed_230 (by decide) (fun c40 => ?_) (fun c40 => ?_)
      · have hw := o_t c40 hw
        refine g_iconst (v := 0) h d_O_isWellFormed_237 (by decide) ?_
        exact g_zret h hQ d_O_isWellFormed_238 rfl hw
      · have hw := o_f c40 hw
        refine g_iconst (v := 1) h d_O_isWellFormed_233 (by decide) ?_
        refine g_goto (tgt := 238) h d_O_isWellFormed_234 (by decide) ?_
        exact g_zret h hQ d_O_isWellFormed_238 rfl hw
  have hw := o_f c82_16 hw
  rcases Classical.em (v1 = 18) with c82_17 | c82_17
  · refine g_tabIn (tgt := 352) h d_O_isWellFormed_1 (by rw [c82_17]; decide) (by rw [c82_17]; decide) (by rw [c82_17]; rfl) (by decide) ?_
    have hw := o_t c82_17 hw
    refine g_iconst (v := 1) h d_O_isWellFormed_352 (by decide) ?_
    exact g_zret h hQ d_O_isWellFormed_353 rfl hw
  have hw := o_f c82_17 hw
  rcases Classical.em (v1 = 19) with c82_18 | c82_18
  · refine g_tabIn (tgt := 352) h d_O_isWellFormed_1 (by rw [c82_18]; decide) (by rw [c82_18]; decide) (by rw [c82_18]; rfl) (by decide) ?_
    have hw := o_t c82_18 hw
    refine g_iconst (v := 1) h d_O_isWellFormed_352 (by decide) ?_
    exact g_zret h hQ d_O_isWellFormed_353 rfl hw
  have hw := o_f c82_18 hw
  rcases Classical.em (v1 = 20) with c82_19 | c82_19
  · refine g_tabIn (tgt := 239) h d_O_isWellFormed_1 (by rw [c82_19]; decide) (by rw [c82_19]; decide) (by rw [c82_19]; rfl) (by decide) ?_
    have hw := o_t c82_19 hw
    refine g_aload_n h d_O_isWellFormed_239 rfl rfl ?_
    refine g_getR (t := 13) (i := 0) (k := 0) (C := "FlowGate$Form") (T := T_O) (N := 2) h hL rfl (by decide) ob_13 (by decide) rfl (t' := 1) (i' := 0) rfl rfl (fun w hw => mc (in_O w hw)) (mc m_fl_O_9) rfl d_O_isWellFormed_240 ?_
    refine g_iload_n h d_O_isWellFormed_243 rfl rfl ?_
    refine g_calli h (g_runV (rest := []) h (ct_T_hasClass hL v2 M (p_T_hasClass v2 M)) (cwV 1 h.2.2.2.2.1 (g_V m_ml_O_59 m_im_T_hasClass m_se_T_hasClass m_in_T m_co_T_hasClass) rfl rfl rfl (by decide +kernel) ⟨Nat.le_of_ble_eq_true rfl, Nat.le_of_ble_eq_true rfl⟩) (hL.recv h rfl (by decide) ob_1) rfl rfl (Nat.le_of_ble_eq_true rfl) d_O_isWellFormed_244) ?_
    refine g_topi (fun r42 er42 => ?_)
    have hw := o_l hw r42 er42
    obtain ⟨hn43, hw⟩ := o_nz hw
    exact g_zret h hQ d_O_isWellFormed_247 hn43 hw
  have hw := o_f c82_19 hw
  rcases Classical.em (v1 = 21) with c82_20 | c82_20
  · refine g_tabIn (tgt := 239) h d_O_isWellFormed_1 (by rw [c82_20]; decide) (by rw [c82_20]; decide) (by rw [c82_20]; rfl) (by decide) ?_
    have hw := o_t c82_20 hw
    refine g_aload_n h d_O_isWellFormed_239 rfl rfl ?_
    refine g_getR (t := 13) (i := 0) (k := 0) (C := "FlowGate$Form") (T := T_O) (N := 2) h hL rfl (by decide) ob_13 (by decide) rfl (t' := 1) (i' := 0) rfl rfl (fun w hw => mc (in_O w hw)) (mc m_fl_O_9) rfl d_O_isWellFormed_240 ?_
    refine g_iload_n h d_O_isWellFormed_243 rfl rfl ?_
    refine g_calli h (g_runV (rest := []) h (ct_T_hasClass hL v2 M (p_T_hasClass v2 M)) (cwV 1 h.2.2.2.2.1 (g_V m_ml_O_59 m_im_T_hasClass m_se_T_hasClass m_in_T m_co_T_hasClass) rfl rfl rfl (by decide +kernel) ⟨Nat.le_of_ble_eq_true rfl, Nat.le_of_ble_eq_true rfl⟩) (hL.recv h rfl (by decide) ob_1) rfl rfl (Nat.le_of_ble_eq_true rfl) d_O_isWellFormed_244) ?_
    refine g_topi (fun r45 er45 => ?_)
    have hw := o_l hw r45 er45
    obtain ⟨hn46, hw⟩ := o_nz hw
    exact g_zret h hQ d_O_isWellFormed_247 hn46 hw
  have hw := o_f c82_20 hw
  rcases Classical.em (v1 = 22) with c82_21 | c82_21
  · refine g_tabIn (tgt := 248) h d_O_isWellFormed_1 (by rw [c82_21]; decide) (by rw [c82_21]; decide) (by rw [c82_21]; rfl) (by decide) ?_
    have hw := o_t c82_21 hw
    refine g_aload_n h d_O_isWellFormed_248 rfl rfl ?_
    refine g_getR (t := 13) (i := 0) (k := 0) (C := "FlowGate$Form") (T := T_O) (N := 2) h hL rfl (by decide) ob_13 (by decide) rfl (t' := 1) (i' := 0) rfl rfl (fun w hw => mc (in_O w hw)) (mc m_fl_O_9) rfl d_O_isWellFormed_249 ?_
    refine g_iload_n h d_O_isWellFormed_252 rfl rfl ?_
    refine g_calli h (g_runV (rest := []) h (ct_T_hasClass hL v2 M (p_T_hasClass v2 M)) (cwV 1 h.2.2.2.2.1 (g_V m_ml_O_59 m_im_T_hasClass m_se_T_hasClass m_in_T m_co_T_hasClass) rfl rfl rfl (by decide +kernel) ⟨Nat.le_of_ble_eq_true rfl, Nat.le_of_ble_eq_true rfl⟩) (hL.recv h rfl (by decide) ob_1) rfl rfl (Nat.le_of_ble_eq_true rfl) d_O_isWellFormed_253) ?_
    refine g_topi (fun r48 er48 => ?_)
    have hw := o_l hw r48 er48
    refine g_if_eq (tgt := 274) h d_O_isWellFormed_256 (by decide) (fun c49 => ?_) (fun c49 => ?_)
    · have hw := o_t c49 hw
      refine g_iconst (v := 0) h d_O_isWellFormed_274 (by decide) ?_
      exact g_zret h hQ d_O_isWellFormed_275 rfl hw
    · have hw := o_f c49 hw
      refine g_aload_n h d_O_isWellFormed_259 rfl rfl ?_
      refine g_getR (t := 13) (i := 0) (k := 0) (C := "FlowGate$Form") (T := T_O) (N := 2) h hL rfl (by decide) ob_13 (by decide) rfl (t' := 1) (i' := 0) rfl rfl (fun w hw => mc (in_O w hw)) (mc m_fl_O_9) rfl d_O_isWellFormed_260 ?_
      refine g_iload_n h d_O_isWellFormed_263 rfl rfl ?_
      refine g_calli h (g_runV (rest := []) h (ct_T_isValue hL v3 M (p_T_isValue v3 M)) (cwV 1 h.2.2.2.2.1 (g_V m_ml_O_64 m_im_T_isValue m_se_T_isValue m_in_T m_co_T_isValue) rfl rfl rfl (by decide +kernel) ⟨Nat.le_of_ble_eq_true rfl, Nat.le_of_ble_eq_true rfl⟩) (hL.recv h rfl (by decide) ob_1) rfl rfl (Nat.le_of_ble_eq_true rfl) d_O_isWellFormed_264) ?_
      refine g_topi (fun r51 er51 => ?_)
      have hw := o_l hw r51 er51
      refine g_if_eq (tgt := 274) h d_O_isWellFormed_267 (by decide) (fun c52 => ?_) (fun c52 => ?_)
      · have hw := o_t c52 hw
        refine g_iconst (v := 0) h d_O_isWellFormed_274 (by decide) ?_
        exact g_zret h hQ d_O_isWellFormed_275 rfl hw
      · have hw := o_f c52 hw
        refine g_iconst (v := 1) h d_O_isWellFormed_270 (by decide) ?_
        refine g_goto (tgt := 275) h d_O_isWellFormed_271 (by decide) ?_
        exact g_zret h hQ d_O_isWellFormed_275 rfl hw
  have hw := o_f c82_21 hw
  rcases Classical.em (v1 = 23) with c82_22 | c82_22
  · refine g_tabIn (tgt := 248) h d_O_isWellFormed_1 (by rw [c82_22]; decide) (by rw [c82_22]; decide) (by rw [c82_22]; rfl) (by decide) ?_
    have hw := o_t c82_22 hw
    refine g_aload_n h d_O_isWellFormed_248 rfl rfl ?_
    refine g_getR (t := 13) (i := 0) (k := 0) (C := "FlowGate$Form") (T := T_O) (N := 2) h hL rfl (by decide) ob_13 (by decide) rfl (t' := 1) (i' := 0) rfl rfl (fun w hw => mc (in_O w hw)) (mc m_fl_O_9) rfl d_O_isWellFormed_249 ?_
    refine g_iload_n h d_O_isWellFormed_252 rfl rfl ?_
    refine g_calli h (g_runV (rest := []) h (ct_T_hasClass hL v2 M (p_T_hasClass v2 M)) (cwV 1 h.2.2.2.2.1 (g_V m_ml_O_59 m_im_T_hasClass m_se_T_hasClass m_in_T m_co_T_hasClass) rfl rfl rfl (by decide +kernel) ⟨Nat.le_of_ble_eq_true rfl, Nat.le_of_ble_eq_true rfl⟩) (hL.recv h rfl (by decide) ob_1) rfl rfl (Nat.le_of_ble_eq_true rfl) d_O_isWellFormed_253) ?_
    refine g_topi (fun r54 er54 => ?_)
    have hw := o_l hw r54 er54
    refine g_if_eq (tgt := 274) h d_O_isWellFormed_256 (by decide) (fun c55 => ?_) (fun c55 => ?_)
    · have hw := o_t c55 hw
      refine g_iconst (v := 0) h d_O_isWellFormed_274 (by decide) ?_
      exact g_zret h hQ d_O_isWellFormed_275 rfl hw
    · have hw := o_f c55 hw
      refine g_aload_n h d_O_isWellFormed_259 rfl rfl ?_
      refine g_getR (t := 13) (i := 0) (k := 0) (C := "FlowGate$Form") (T := T_O) (N := 2) h hL rfl (by decide) ob_13 (by decide) rfl (t' := 1) (i' := 0) rfl rfl (fun w hw => mc (in_O w hw)) (mc m_fl_O_9) rfl d_O_isWellFormed_260 ?_
      refine g_iload_n h d_O_isWellFormed_263 rfl rfl ?_
      refine g_calli h (g_runV (rest := []) h (ct_T_isValue hL v3 M (p_T_isValue v3 M)) (cwV 1 h.2.2.2.2.1 (g_V m_ml_O_64 m_im_T_isValue m_se_T_isValue m_in_T m_co_T_isValue) rfl rfl rfl (by decide +kernel) ⟨Nat.le_of_ble_eq_true rfl, Nat.le_of_ble_eq_true rfl⟩) (hL.recv h rfl (by decide) ob_1) rfl rfl (Nat.le_of_ble_eq_true rfl) d_O_isWellFormed_264) ?_
      refine g_topi (fun r57 er57 => ?_)
      have hw := o_l hw r57 er57
      refine g_if_eq (tgt := 274) h d_O_isWellFormed_267 (by decide) (fun c58 => ?_) (fun c58 => ?_)
      · have hw := o_t c58 hw
        refine g_iconst (v := 0) h d_O_isWellFormed_274 (by decide) ?_
        exact g_zret h hQ d_O_isWellFormed_275 rfl hw
      · have hw := o_f c58 hw
        refine g_iconst (v := 1) h d_O_isWellFormed_270 (by decide) ?_
        refine g_goto (tgt := 275) h d_O_isWellFormed_271 (by decide) ?_
        exact g_zret h hQ d_O_isWellFormed_275 rfl hw
  have hw := o_f c82_22 hw
  rcases Classical.em (v1 = 24) with c82_23 | c82_23
  · refine g_tabIn (tgt := 276) h d_O_isWellFormed_1 (by rw [c82_23]; decide) (by rw [c82_23]; decide) (by rw [c82_23]; rfl) (by decide) ?_
    have hw := o_t c82_23 hw
    refine g_aload_n h d_O_isWellFormed_276 rfl rfl ?_
    refine g_getR (t := 13) (i := 0) (k := 0) (C := "FlowGate$Form") (T := T_O) (N := 2) h hL rfl (by decide) ob_13 (by decide) rfl (t' := 1) (i' := 0) rfl rfl (fun w hw => mc (in_O w hw)) (mc m_fl_O_9) rfl d_O_isWellFormed_277 ?_
    refine g_iload_n h d_O_isWellFormed_280 rfl rfl ?_
    refine g_calli h (g_runV (rest := []) h (ct_T_isValue hL v2 M (p_T_isValue v2 M)) (cwV 1 h.2.2.2.2.1 (g_V m_ml_O_64 m_im_T_isValue m_se_T_isValue m_in_T m_co_T_isValue) rfl rfl rfl (by decide +kernel) ⟨Nat.le_of_ble_eq_true rfl, Nat.le_of_ble_eq_true rfl⟩) (hL.recv h rfl (by decide) ob_1) rfl rfl (Nat.le_of_ble_eq_true rfl) d_O_isWellFormed_281) ?_
    refine g_topi (fun r60 er60 => ?_)
    have hw := o_l hw r60 er60
    refine g_if_eq (tgt := 302) h d_O_isWellFormed_284 (by decide) (fun c61 => ?_) (fun c61 => ?_)
    · have hw := o_t c61 hw
      refine g_iconst (v := 0) h d_O_isWellFormed_302 (by decide) ?_
      exact g_zret h hQ d_O_isWellFormed_303 rfl hw
    · have hw := o_f c61 hw
      refine g_aload_n h d_O_isWellFormed_287 rfl rfl ?_
      refine g_getR (t := 13) (i := 0) (k := 0) (C := "FlowGate$Form") (T := T_O) (N := 2) h hL rfl (by decide) ob_13 (by decide) rfl (t' := 1) (i' := 0) rfl rfl (fun w hw => mc (in_O w hw)) (mc m_fl_O_9) rfl d_O_isWellFormed_288 ?_
      refine g_iload_n h d_O_isWellFormed_291 rfl rfl ?_
      refine g_calli h (g_runV (rest := []) h (ct_T_isValue hL v3 M (p_T_isValue v3 M)) (cwV 1 h.2.2.2.2.1 (g_V m_ml_O_64 m_im_T_isValue m_se_T_isValue m_in_T m_co_T_isValue) rfl rfl rfl (by decide +kernel) ⟨Nat.le_of_ble_eq_true rfl, Nat.le_of_ble_eq_true rfl⟩) (hL.recv h rfl (by decide) ob_1) rfl rfl (Nat.le_of_ble_eq_true rfl) d_O_isWellFormed_292) ?_
      refine g_topi (fun r63 er63 => ?_)
      have hw := o_l hw r63 er63
      refine g_if_eq (tgt := 302) h d_O_isWellFormed_295 (by decide) (fun c64 => ?_) (fun c64 => ?_)
      · have hw := o_t c64 hw
        refine g_iconst (v := 0) h d_O_isWellFormed_302 (by decide) ?_
        exact g_zret h hQ d_O_isWellFormed_303 rfl hw
      · have hw := o_f c64 hw
        refine g_iconst (v := 1) h d_O_isWellFormed_298 (by decide) ?_
        refine g_goto (tgt := 303) h d_O_isWellFormed_299 (by decide) ?_
        exact g_zret h hQ d_O_isWellFormed_303 rfl hw
  have hw := o_f c82_23 hw
  rcases Classical.em (v1 = 25) with c82_24 | c82_24
  · refine g_tabIn (tgt := 304) h d_O_isWellFormed_1 (by rw [c82_24]; decide) (by rw [c82_24]; decide) (by rw [c82_24]; rfl) (by decide) ?_
    have hw := o_t c82_24 hw
    refine g_aload_n h d_O_isWellFormed_304 rfl rfl ?_
    refine g_getR (t := 13) (i := 0) (k := 0) (C := "FlowGate$Form") (T := T_O) (N := 2) h hL rfl (by decide) ob_13 (by decide) rfl (t' := 1) (i' := 0) rfl rfl (fun w hw => mc (in_O w hw)) (mc m_fl_O_9) rfl d_O_isWellFormed_305 ?_
    refine g_iload_n h d_O_isWellFormed_308 rfl rfl ?_
    refine g_calli h (g_runV (rest := []) h (ct_T_isRef hL v2 M (p_T_isRef v2 M)) (cwV 1 h.2.2.2.2.1 (g_V m_ml_O_67 m_im_T_isRef m_se_T_isRef m_in_T m_co_T_isRef) rfl rfl rfl (by decide +kernel) ⟨Nat.le_of_ble_eq_true rfl, Nat.le_of_ble_eq_true rfl⟩) (hL.recv h rfl (by decide) ob_1) rfl rfl (Nat.le_of_ble_eq_true rfl) d_O_isWellFormed_309) ?_
    refine g_topi (fun r66 er66 => ?_)
    have hw := o_l hw r66 er66
    obtain ⟨hn67, hw⟩ := o_nz hw
    exact g_zret h hQ d_O_isWellFormed_312 hn67 hw
  have hw := o_f c82_24 hw
  rcases Classical.em (v1 = 26) with c82_25 | c82_25
  · refine g_tabIn (tgt := 313) h d_O_isWellFormed_1 (by rw [c82_25]; decide) (by rw [c82_25]; decide) (by rw [c82_25]; rfl) (by decide) ?_
    have hw := o_t c82_25 hw
    refine g_iload_n h d_O_isWellFormed_313 rfl rfl ?_
    refine g_bipush (v := 12) h d_O_isWellFormed_314 (by decide) ?_
    refine g_icmp_eq (tgt := 337) h d_O_isWellFormed_316 (by decide) (fun c68 => ?_) (fun c68 => ?_)
    · have hw := o_t c68 hw
      refine g_iconst (v := 1) h d_O_isWellFormed_337 (by decide) ?_
      refine g_goto (tgt := 342) h d_O_isWellFormed_338 (by decide) ?_
      exact g_zret h hQ d_O_isWellFormed_342 rfl hw
    · have hw := o_f c68 hw
      refine g_iload_n h d_O_isWellFormed_319 rfl rfl ?_
      refine g_sipush (v := 192) h d_O_isWellFormed_320 (by decide) ?_
      refine g_icmp_ge (tgt := 341) h d_O_isWellFormed_323 (by decide) (fun c69 => ?_) (fun c69 => ?_)
      · have hw := o_t c69 hw
        refine g_iconst (v := 0) h d_O_isWellFormed_341 (by decide) ?_
        exact g_zret h hQ d_O_isWellFormed_342 rfl hw
      · have hw := o_f c69 hw
        refine g_aload_n h d_O_isWellFormed_326 rfl rfl ?_
        refine g_getR (t := 13) (i := 0) (k := 0) (C := "FlowGate$Form") (T := T_O) (N := 2) h hL rfl (by decide) ob_13 (by decide) rfl (t' := 1) (i' := 0) rfl rfl (fun w hw => mc (in_O w hw)) (mc m_fl_O_9) rfl d_O_isWellFormed_327 ?_
        refine g_iload_n h d_O_isWellFormed_330 rfl rfl ?_
        refine g_calli h (g_runV (rest := []) h (ct_T_isRef hL v2 M (p_T_isRef v2 M)) (cwV 1 h.2.2.2.2.1 (g_V m_ml_O_67 m_im_T_isRef m_se_T_isRef m_in_T m_co_T_isRef) rfl rfl rfl (by decide +kernel) ⟨Nat.le_of_ble_eq_true rfl, Nat.le_of_ble_eq_true rfl⟩) (hL.recv h rfl (by decide) ob_1) rfl rfl (Nat.le_of_ble_eq_true rfl) d_O_isWellFormed_331) ?_
        refine g_topi (fun r71 er71 => ?_)
        have hw := o_l hw r71 er71
        refine g_if_eq (tgt := 341) h d_O_isWellFormed_334 (by decide) (fun c72 => ?_) (fun c72 => ?_)
        · have hw := o_t c72 hw
          refine g_iconst (v := 0) h d_O_isWellFormed_341 (by decide) ?_
          exact g_zret h hQ d_O_isWellFormed_342 rfl hw
        · have hw := o_f c72 hw
          refine g_iconst (v := 1) h d_O_isWellFormed_337 (by decide) ?_
          refine g_goto (tgt := 342) h d_O_isWellFormed_338 (by decide) ?_
          exact g_zret h hQ d_O_isWellFormed_342 rfl hw
  have hw := o_f c82_25 hw
  rcases Classical.em (v1 = 27) with c82_26 | c82_26
  · refine g_tabIn (tgt := 343) h d_O_isWellFormed_1 (by rw [c82_26]; decide) (by rw [c82_26]; decide) (by rw [c82_26]; rfl) (by decide) ?_
    have hw := o_t c82_26 hw
    refine g_aload_n h d_O_isWellFormed_343 rfl rfl ?_
    refine g_getR (t := 13) (i := 0) (k := 0) (C := "FlowGate$Form") (T := T_O) (N := 2) h hL rfl (by decide) ob_13 (by decide) rfl (t' := 1) (i' := 0) rfl rfl (fun w hw => mc (in_O w hw)) (mc m_fl_O_9) rfl d_O_isWellFormed_344 ?_
    refine g_iload_n h d_O_isWellFormed_347 rfl rfl ?_
    refine g_calli h (g_runV (rest := []) h (ct_T_isRow hL v2 M (p_T_isRow v2 M)) (cwV 1 h.2.2.2.2.1 (g_V m_ml_O_70 m_im_T_isRow m_se_T_isRow m_in_T m_co_T_isRow) rfl rfl rfl (by decide +kernel) ⟨Nat.le_of_ble_eq_true rfl, Nat.le_of_ble_eq_true rfl⟩) (hL.recv h rfl (by decide) ob_1) rfl rfl (Nat.le_of_ble_eq_true rfl) d_O_isWellFormed_348) ?_
    refine g_topi (fun r74 er74 => ?_)
    have hw := o_l hw r74 er74
    obtain ⟨hn75, hw⟩ := o_nz hw
    exact g_zret h hQ d_O_isWellFormed_351 hn75 hw
  have hw := o_f c82_26 hw
  rcases Classical.em (v1 = 28) with c82_27 | c82_27
  · refine g_tabIn (tgt := 343) h d_O_isWellFormed_1 (by rw [c82_27]; decide) (by rw [c82_27]; decide) (by rw [c82_27]; rfl) (by decide) ?_
    have hw := o_t c82_27 hw
    refine g_aload_n h d_O_isWellFormed_343 rfl rfl ?_
    refine g_getR (t := 13) (i := 0) (k := 0) (C := "FlowGate$Form") (T := T_O) (N := 2) h hL rfl (by decide) ob_13 (by decide) rfl (t' := 1) (i' := 0) rfl rfl (fun w hw => mc (in_O w hw)) (mc m_fl_O_9) rfl d_O_isWellFormed_344 ?_
    refine g_iload_n h d_O_isWellFormed_347 rfl rfl ?_
    refine g_calli h (g_runV (rest := []) h (ct_T_isRow hL v2 M (p_T_isRow v2 M)) (cwV 1 h.2.2.2.2.1 (g_V m_ml_O_70 m_im_T_isRow m_se_T_isRow m_in_T m_co_T_isRow) rfl rfl rfl (by decide +kernel) ⟨Nat.le_of_ble_eq_true rfl, Nat.le_of_ble_eq_true rfl⟩) (hL.recv h rfl (by decide) ob_1) rfl rfl (Nat.le_of_ble_eq_true rfl) d_O_isWellFormed_348) ?_
    refine g_topi (fun r77 er77 => ?_)
    have hw := o_l hw r77 er77
    obtain ⟨hn78, hw⟩ := o_nz hw
    exact g_zret h hQ d_O_isWellFormed_351 hn78 hw
  have hw := o_f c82_27 hw
  rcases Classical.em (v1 = 29) with c82_28 | c82_28
  · refine g_tabIn (tgt := 352) h d_O_isWellFormed_1 (by rw [c82_28]; decide) (by rw [c82_28]; decide) (by rw [c82_28]; rfl) (by decide) ?_
    have hw := o_t c82_28 hw
    refine g_iconst (v := 1) h d_O_isWellFormed_352 (by decide) ?_
    exact g_zret h hQ d_O_isWellFormed_353 rfl hw
  have hw := o_f c82_28 hw
  rcases Classical.em (v1 = 30) with c82_29 | c82_29
  · refine g_tabIn (tgt := 152) h d_O_isWellFormed_1 (by rw [c82_29]; decide) (by rw [c82_29]; decide) (by rw [c82_29]; rfl) (by decide) ?_
    have hw := o_t c82_29 hw
    refine g_aload_n h d_O_isWellFormed_152 rfl rfl ?_
    refine g_getR (t := 13) (i := 0) (k := 1) (C := "FlowGate$Form") (T := T_O) (N := 2) h hL rfl (by decide) ob_13 (by decide) rfl (t' := 4) (i' := 0) rfl rfl (fun w hw => mc (in_O w hw)) (mc m_fl_O_15) rfl d_O_isWellFormed_153 ?_
    refine g_iload_n h d_O_isWellFormed_156 rfl rfl ?_
    refine g_calli h (g_runV (rest := []) h (ct_M_hasLocal hL v2 M (p_M_hasLocal v2 M)) (cwV 1 h.2.2.2.2.1 (g_V m_ml_O_50 m_im_M_hasLocal m_se_M_hasLocal m_in_M m_co_M_hasLocal) rfl rfl rfl (by decide +kernel) ⟨Nat.le_of_ble_eq_true rfl, Nat.le_of_ble_eq_true rfl⟩) (hL.recv h rfl (by decide) ob_4) rfl rfl (Nat.le_of_ble_eq_true rfl) d_O_isWellFormed_157) ?_
    refine g_topi (fun r80 er80 => ?_)
    have hw := o_l hw r80 er80
    obtain ⟨hn81, hw⟩ := o_nz hw
    exact g_zret h hQ d_O_isWellFormed_160 hn81 hw
  have hw := o_f c82_29 hw
  refine g_tabOut (tgt := 352) h d_O_isWellFormed_1 (sw_out 1 30 (by decide) (by decide) (fun j hj => ?_)) (by decide) ?_
  · rcases (show j = 0 ∨ j = 1 ∨ j = 2 ∨ j = 3 ∨ j = 4 ∨ j = 5 ∨ j = 6 ∨ j = 7 ∨ j = 8 ∨ j = 9 ∨ j = 10 ∨ j = 11 ∨ j = 12 ∨ j = 13 ∨ j = 14 ∨ j = 15 ∨ j = 16 ∨ j = 17 ∨ j = 18 ∨ j = 19 ∨ j = 20 ∨ j = 21 ∨ j = 22 ∨ j = 23 ∨ j = 24 ∨ j = 25 ∨ j = 26 ∨ j = 27 ∨ j = 28 ∨ j = 29 by omega) with rfl | rfl | rfl | rfl | rfl | rfl | rfl | rfl | rfl | rfl | rfl | rfl | rfl | rfl | rfl | rfl | rfl | rfl | rfl | rfl | rfl | rfl | rfl | rfl | rfl | rfl | rfl | rfl | rfl | rfl
    · exact c82_0
    · exact c82_1
    · exact c82_2
    · exact c82_3
    · exact c82_4
    · exact c82_5
    · exact c82_6
    · exact c82_7
    · exact c82_8
    · exact c82_9
    · exact c82_10
    · exact c82_11
    · exact c82_12
    · exact c82_13
    · exact c82_14
    · exact c82_15
    · exact c82_16
    · exact c82_17
    · exact c82_18
    · exact c82_19
    · exact c82_20
    · exact c82_21
    · exact c82_22
    · exact c82_23
    · exact c82_24
    · exact c82_25
    · exact c82_26
    · exact c82_27
    · exact c82_28
    · exact c82_29
  refine g_iconst (v := 1) h d_O_isWellFormed_352 (by decide) ?_
  exact g_zret h hQ d_O_isWellFormed_353 rfl hw
set_option maxHeartbeats 4000000 in
set_option maxRecDepth 100000 in
theorem ct_T_isBelow {Z : ZT} (hL : Lay Z sC) (v1 : Int32) (v2 : Int32) (M : Mm)  {res : Int32 × Mm} (hw : F_T_isBelow v1 v2 M = some res) : CtI Z y_T_isBelow ws_T_isBelow (({ frames := 0, cells := 0, slots := 0, locals := 0 })) [.ref (za Z 1 0), .int v1, .int v2] M res := by
  refine CtI.of hL (cc := c_T_isBelow) (maxL := 3) (by decide) rfl (Nat.le_of_ble_eq_true rfl) (fun X h hQ => ?_)
  show G Z X M 0 [(0, .ref (za Z 1 0)), (1, .int v1), (2, .int v2)] []
  rw [F_T_isBelow] at hw
  refine g_aload_n h d_T_isBelow_0 rfl rfl ?_
  refine g_getR (t := 1) (i := 0) (k := 0) (C := "FlowGate$Types") (T := T_T) (N := 3) h hL rfl (by decide) ob_1 (by decide) rfl (t' := 2) (i' := 0) rfl rfl (fun w hw => mc (in_T w hw)) (mc m_fl_T_9) rfl d_T_isBelow_1 ?_
  refine g_iload_n h d_T_isBelow_4 rfl rfl ?_
  obtain ⟨hv1, hw⟩ := o_in hw
  refine g_iald (t := 2) (i := 0) h hL rfl (by decide) rfl rfl hv1 d_T_isBelow_5 ?_
  refine g_iload_n h d_T_isBelow_6 rfl rfl ?_
  refine g_ishr h d_T_isBelow_7 ?_
  refine g_iconst (v := 1) h d_T_isBelow_8 (by decide) ?_
  refine g_iand h d_T_isBelow_9 ?_
  refine g_if_eq (tgt := 17) h d_T_isBelow_10 (by decide) (fun c2 => ?_) (fun c2 => ?_)
  · have hw := o_t c2 hw
    refine g_iconst (v := 0) h d_T_isBelow_17 (by decide) ?_
    exact g_zret h hQ d_T_isBelow_18 rfl hw
  · have hw := o_f c2 hw
    refine g_iconst (v := 1) h d_T_isBelow_13 (by decide) ?_
    refine g_goto (tgt := 18) h d_T_isBelow_14 (by decide) ?_
    exact g_zret h hQ d_T_isBelow_18 rfl hw
set_option maxHeartbeats 4000000 in
set_option maxRecDepth 100000 in
theorem w_O_isHandlerWellFormed_b58 {Z : ZT} {X : XT} (hL : Lay Z sC) (h : Ok Z X "FlowGate$Form" c_O_isHandlerWellFormed ws_O_isHandlerWellFormed 4 ({ frames := 1, cells := 0, slots := 0, locals := 22 })) {res : Int32 × Mm} (hQ : FinI Z X .boolean res)  (v1 : Int32) (s0 : Int32) (M : Mm)  (hw : F_O_isHandlerWellFormed_b58 v1 s0 M = some res) : G Z X M 58 [(0, .ref (za Z 13 0)), (1, .int v1)] [.int s0] := by
  rw [F_O_isHandlerWellFormed_b58] at hw
  refine g_istore_n (lv' := [(2, .int s0), (0, .ref (za Z 13 0)), (1, .int v1)]) h d_O_isHandlerWellFormed_58 rfl (by decide) rfl ?_
  refine g_iload_n h d_O_isHandlerWellFormed_59 rfl rfl ?_
  refine g_if_eq (tgt := 82) h d_O_isHandlerWellFormed_60 (by decide) (fun c1 => ?_) (fun c1 => ?_)
  · have hw := o_t c1 hw
    refine g_iconst (v := 0) h d_O_isHandlerWellFormed_82 (by decide) ?_
    exact g_zret h hQ d_O_isHandlerWellFormed_83 rfl hw
  · have hw := o_f c1 hw
    refine g_aload_n h d_O_isHandlerWellFormed_63 rfl rfl ?_
    refine g_getR (t := 13) (i := 0) (k := 1) (C := "FlowGate$Form") (T := T_O) (N := 2) h hL rfl (by decide) ob_13 (by decide) rfl (t' := 4) (i' := 0) rfl rfl (fun w hw => mc (in_O w hw)) (mc m_fl_O_15) rfl d_O_isHandlerWellFormed_64 ?_
    refine g_aload_n h d_O_isHandlerWellFormed_67 rfl rfl ?_
    refine g_getR (t := 13) (i := 0) (k := 1) (C := "FlowGate$Form") (T := T_O) (N := 2) h hL rfl (by decide) ob_13 (by decide) rfl (t' := 4) (i' := 0) rfl rfl (fun w hw => mc (in_O w hw)) (mc m_fl_O_15) rfl d_O_isHandlerWellFormed_68 ?_
    refine g_getR (t := 4) (i := 0) (k := 6) (C := "FlowGate$Method") (T := T_M) (N := 14) h hL rfl (by decide) ob_4 (by decide) rfl (t' := 10) (i' := 0) rfl rfl (fun w hw => mc (in_M w hw)) (mc m_fl_O_79) rfl d_O_isHandlerWellFormed_71 ?_
    refine g_iload_n h d_O_isHandlerWellFormed_74 rfl rfl ?_
    obtain ⟨hv2, hw⟩ := o_in hw
    refine g_iald (t := 10) (i := 0) h hL rfl (by decide) rfl rfl hv2 d_O_isHandlerWellFormed_75 ?_
    refine g_calli h (g_runV (rest := []) h (ct_M_hasInstruction hL (M.1 10 0 (v1 : Int32).toNatClampNeg) M (p_M_hasInstruction (M.1 10 0 (v1 : Int32).toNatClampNeg) M)) (cwV 1 h.2.2.2.2.1 (g_V m_ml_O_56 m_im_M_hasInstruction m_se_M_hasInstruction m_in_M m_co_M_hasInstruction) rfl rfl rfl (by decide +kernel) ⟨Nat.le_of_ble_eq_true rfl, Nat.le_of_ble_eq_true rfl⟩) (hL.recv h rfl (by decide) ob_4) rfl rfl (Nat.le_of_ble_eq_true rfl) d_O_isHandlerWellFormed_76) ?_
    refine g_topi (fun r4 er4 => ?_)
    have hw := o_l hw r4 er4
    refine g_if_ne (tgt := 84) h d_O_isHandlerWellFormed_79 (by decide) (fun c5 => ?_) (fun c5 => ?_)
    · have hw := o_f c5 hw
      refine g_aload_n h d_O_isHandlerWellFormed_84 rfl rfl ?_
      refine g_getR (t := 13) (i := 0) (k := 1) (C := "FlowGate$Form") (T := T_O) (N := 2) h hL rfl (by decide) ob_13 (by decide) rfl (t' := 4) (i' := 0) rfl rfl (fun w hw => mc (in_O w hw)) (mc m_fl_O_15) rfl d_O_isHandlerWellFormed_85 ?_
      refine g_getR (t := 4) (i := 0) (k := 7) (C := "FlowGate$Method") (T := T_M) (N := 14) h hL rfl (by decide) ob_4 (by decide) rfl (t' := 11) (i' := 0) rfl rfl (fun w hw => mc (in_M w hw)) (mc m_fl_O_82) rfl d_O_isHandlerWellFormed_88 ?_
      refine g_iload_n h d_O_isHandlerWellFormed_91 rfl rfl ?_
      obtain ⟨hv6, hw⟩ := o_in hw
      refine g_iald (t := 11) (i := 0) h hL rfl (by decide) rfl rfl hv6 d_O_isHandlerWellFormed_92 ?_
      refine g_topi (fun n7 en7 => ?_)
      have hw := o_l hw n7 en7
      refine g_istore_n (lv' := [(3, .int n7), (2, .int s0), (0, .ref (za Z 13 0)), (1, .int v1)]) h d_O_isHandlerWellFormed_93 rfl (by decide) rfl ?_
      refine g_aload_n h d_O_isHandlerWellFormed_94 rfl rfl ?_
      refine g_getR (t := 13) (i := 0) (k := 0) (C := "FlowGate$Form") (T := T_O) (N := 2) h hL rfl (by decide) ob_13 (by decide) rfl (t' := 1) (i' := 0) rfl rfl (fun w hw => mc (in_O w hw)) (mc m_fl_O_9) rfl d_O_isHandlerWellFormed_95 ?_
      refine g_iload_n h d_O_isHandlerWellFormed_98 rfl rfl ?_
      refine g_calli h (g_runV (rest := []) h (ct_T_hasClass hL n7 M (p_T_hasClass n7 M)) (cwV 1 h.2.2.2.2.1 (g_V m_ml_O_59 m_im_T_hasClass m_se_T_hasClass m_in_T m_co_T_hasClass) rfl rfl rfl (by decide +kernel) ⟨Nat.le_of_ble_eq_true rfl, Nat.le_of_ble_eq_true rfl⟩) (hL.recv h rfl (by decide) ob_1) rfl rfl (Nat.le_of_ble_eq_true rfl) d_O_isHandlerWellFormed_99) ?_
      refine g_topi (fun r9 er9 => ?_)
      have hw := o_l hw r9 er9
      refine g_if_eq (tgt := 121) h d_O_isHandlerWellFormed_102 (by decide) (fun c10 => ?_) (fun c10 => ?_)
      · have hw := o_t c10 hw
        refine g_iconst (v := 0) h d_O_isHandlerWellFormed_121 (by decide) ?_
        exact g_zret h hQ d_O_isHandlerWellFormed_122 rfl hw
      · have hw := o_f c10 hw
        refine g_aload_n h d_O_isHandlerWellFormed_105 rfl rfl ?_
        refine g_getR (t := 13) (i := 0) (k := 0) (C := "FlowGate$Form") (T := T_O) (N := 2) h hL rfl (by decide) ob_13 (by decide) rfl (t' := 1) (i' := 0) rfl rfl (fun w hw => mc (in_O w hw)) (mc m_fl_O_9) rfl d_O_isHandlerWellFormed_106 ?_
        refine g_iload_n h d_O_isHandlerWellFormed_109 rfl rfl ?_
        refine g_iconst (v := 1) h d_O_isHandlerWellFormed_110 (by decide) ?_
        obtain ⟨r13, M12, hc11, hw⟩ := o_b hw
        refine g_calli h (g_runV (rest := []) h (ct_T_isBelow hL n7 1 M hc11) (cwV 2 h.2.2.2.2.1 (g_V m_ml_O_85 m_im_T_isBelow m_se_T_isBelow m_in_T m_co_T_isBelow) rfl rfl rfl (by decide +kernel) ⟨Nat.le_of_ble_eq_true rfl, Nat.le_of_ble_eq_true rfl⟩) (hL.recv h rfl (by decide) ob_1) rfl rfl (Nat.le_of_ble_eq_true rfl) d_O_isHandlerWellFormed_111) ?_
        refine g_if_eq (tgt := 121) h d_O_isHandlerWellFormed_114 (by decide) (fun c14 => ?_) (fun c14 => ?_)
        · have hw := o_t c14 hw
          refine g_iconst (v := 0) h d_O_isHandlerWellFormed_121 (by decide) ?_
          exact g_zret h hQ d_O_isHandlerWellFormed_122 rfl hw
        · have hw := o_f c14 hw
          refine g_iconst (v := 1) h d_O_isHandlerWellFormed_117 (by decide) ?_
          refine g_goto (tgt := 122) h d_O_isHandlerWellFormed_118 (by decide) ?_
          exact g_zret h hQ d_O_isHandlerWellFormed_122 rfl hw
    · have hw := o_t c5 hw
      refine g_iconst (v := 0) h d_O_isHandlerWellFormed_82 (by decide) ?_
      exact g_zret h hQ d_O_isHandlerWellFormed_83 rfl hw
set_option maxHeartbeats 4000000 in
set_option maxRecDepth 100000 in
theorem w_O_isHandlerWellFormed_b57 {Z : ZT} {X : XT} (hL : Lay Z sC) (h : Ok Z X "FlowGate$Form" c_O_isHandlerWellFormed ws_O_isHandlerWellFormed 4 ({ frames := 1, cells := 0, slots := 0, locals := 22 })) {res : Int32 × Mm} (hQ : FinI Z X .boolean res)  (v1 : Int32) (M : Mm)  (hw : F_O_isHandlerWellFormed_b57 v1 M = some res) : G Z X M 57 [(0, .ref (za Z 13 0)), (1, .int v1)] [] := by
  rw [F_O_isHandlerWellFormed_b57] at hw
  refine g_iconst (v := 0) h d_O_isHandlerWellFormed_57 (by decide) ?_
  refine g_sub [0, 1] rfl ?_
  exact w_O_isHandlerWellFormed_b58 hL h hQ  v1 0 M hw
set_option maxHeartbeats 4000000 in
set_option maxRecDepth 100000 in
theorem ct_O_isHandlerWellFormed {Z : ZT} (hL : Lay Z sC) (v1 : Int32) (M : Mm)  {res : Int32 × Mm} (hw : F_O_isHandlerWellFormed v1 M = some res) : CtI Z y_O_isHandlerWellFormed ws_O_isHandlerWellFormed (({ frames := 1, cells := 0, slots := 0, locals := 22 })) [.ref (za Z 13 0), .int v1] M res := by
  refine CtI.of hL (cc := c_O_isHandlerWellFormed) (maxL := 4) (by decide) rfl (Nat.le_of_ble_eq_true rfl) (fun X h hQ => ?_)
  show G Z X M 0 [(0, .ref (za Z 13 0)), (1, .int v1)] []
  rw [F_O_isHandlerWellFormed] at hw
  refine g_iconst (v := 0) h d_O_isHandlerWellFormed_0 (by decide) ?_
  refine g_aload_n h d_O_isHandlerWellFormed_1 rfl rfl ?_
  refine g_getR (t := 13) (i := 0) (k := 1) (C := "FlowGate$Form") (T := T_O) (N := 2) h hL rfl (by decide) ob_13 (by decide) rfl (t' := 4) (i' := 0) rfl rfl (fun w hw => mc (in_O w hw)) (mc m_fl_O_15) rfl d_O_isHandlerWellFormed_2 ?_
  refine g_getR (t := 4) (i := 0) (k := 4) (C := "FlowGate$Method") (T := T_M) (N := 14) h hL rfl (by decide) ob_4 (by decide) rfl (t' := 8) (i' := 0) rfl rfl (fun w hw => mc (in_M w hw)) (mc m_fl_O_73) rfl d_O_isHandlerWellFormed_5 ?_
  refine g_iload_n h d_O_isHandlerWellFormed_8 rfl rfl ?_
  obtain ⟨hv15, hw⟩ := o_in hw
  refine g_iald (t := 8) (i := 0) h hL rfl (by decide) rfl rfl hv15 d_O_isHandlerWellFormed_9 ?_
  refine g_icmp_gt (tgt := 57) h d_O_isHandlerWellFormed_10 (by decide) (fun c16 => ?_) (fun c16 => ?_)
  · have hw := o_t c16 hw
    refine g_sub [0, 1] rfl ?_
    exact w_O_isHandlerWellFormed_b57 hL h hQ  v1 M hw
  · have hw := o_f c16 hw
    refine g_aload_n h d_O_isHandlerWellFormed_13 rfl rfl ?_
    refine g_getR (t := 13) (i := 0) (k := 1) (C := "FlowGate$Form") (T := T_O) (N := 2) h hL rfl (by decide) ob_13 (by decide) rfl (t' := 4) (i' := 0) rfl rfl (fun w hw => mc (in_O w hw)) (mc m_fl_O_15) rfl d_O_isHandlerWellFormed_14 ?_
    refine g_getR (t := 4) (i := 0) (k := 4) (C := "FlowGate$Method") (T := T_M) (N := 14) h hL rfl (by decide) ob_4 (by decide) rfl (t' := 8) (i' := 0) rfl rfl (fun w hw => mc (in_M w hw)) (mc m_fl_O_73) rfl d_O_isHandlerWellFormed_17 ?_
    refine g_iload_n h d_O_isHandlerWellFormed_20 rfl rfl ?_
    obtain ⟨hv17, hw⟩ := o_in hw
    refine g_iald (t := 8) (i := 0) h hL rfl (by decide) rfl rfl hv17 d_O_isHandlerWellFormed_21 ?_
    refine g_aload_n h d_O_isHandlerWellFormed_22 rfl rfl ?_
    refine g_getR (t := 13) (i := 0) (k := 1) (C := "FlowGate$Form") (T := T_O) (N := 2) h hL rfl (by decide) ob_13 (by decide) rfl (t' := 4) (i' := 0) rfl rfl (fun w hw => mc (in_O w hw)) (mc m_fl_O_15) rfl d_O_isHandlerWellFormed_23 ?_
    refine g_getR (t := 4) (i := 0) (k := 5) (C := "FlowGate$Method") (T := T_M) (N := 14) h hL rfl (by decide) ob_4 (by decide) rfl (t' := 9) (i' := 0) rfl rfl (fun w hw => mc (in_M w hw)) (mc m_fl_O_76) rfl d_O_isHandlerWellFormed_26 ?_
    refine g_iload_n h d_O_isHandlerWellFormed_29 rfl rfl ?_
    obtain ⟨hv18, hw⟩ := o_in hw
    refine g_iald (t := 9) (i := 0) h hL rfl (by decide) rfl rfl hv18 d_O_isHandlerWellFormed_30 ?_
    refine g_icmp_ge (tgt := 57) h d_O_isHandlerWellFormed_31 (by decide) (fun c19 => ?_) (fun c19 => ?_)
    · have hw := o_t c19 hw
      refine g_sub [0, 1] rfl ?_
      exact w_O_isHandlerWellFormed_b57 hL h hQ  v1 M hw
    · have hw := o_f c19 hw
      refine g_aload_n h d_O_isHandlerWellFormed_34 rfl rfl ?_
      refine g_getR (t := 13) (i := 0) (k := 1) (C := "FlowGate$Form") (T := T_O) (N := 2) h hL rfl (by decide) ob_13 (by decide) rfl (t' := 4) (i' := 0) rfl rfl (fun w hw => mc (in_O w hw)) (mc m_fl_O_15) rfl d_O_isHandlerWellFormed_35 ?_
      refine g_getR (t := 4) (i := 0) (k := 5) (C := "FlowGate$Method") (T := T_M) (N := 14) h hL rfl (by decide) ob_4 (by decide) rfl (t' := 9) (i' := 0) rfl rfl (fun w hw => mc (in_M w hw)) (mc m_fl_O_76) rfl d_O_isHandlerWellFormed_38 ?_
      refine g_iload_n h d_O_isHandlerWellFormed_41 rfl rfl ?_
      obtain ⟨hv20, hw⟩ := o_in hw
      refine g_iald (t := 9) (i := 0) h hL rfl (by decide) rfl rfl hv20 d_O_isHandlerWellFormed_42 ?_
      refine g_aload_n h d_O_isHandlerWellFormed_43 rfl rfl ?_
      refine g_getR (t := 13) (i := 0) (k := 1) (C := "FlowGate$Form") (T := T_O) (N := 2) h hL rfl (by decide) ob_13 (by decide) rfl (t' := 4) (i' := 0) rfl rfl (fun w hw => mc (in_O w hw)) (mc m_fl_O_15) rfl d_O_isHandlerWellFormed_44 ?_
      refine g_getI (t := 4) (i := 0) (k := 3) (C := "FlowGate$Method") (T := T_M) (N := 14) h hL rfl (by decide) ob_4 (by decide) rfl (fun w hw => mc (in_M w hw)) (mc m_fl_O_19) rfl d_O_isHandlerWellFormed_47 ?_
      refine g_icmp_gt (tgt := 57) h d_O_isHandlerWellFormed_50 (by decide) (fun c21 => ?_) (fun c21 => ?_)
      · have hw := o_t c21 hw
        refine g_sub [0, 1] rfl ?_
        exact w_O_isHandlerWellFormed_b57 hL h hQ  v1 M hw
      · have hw := o_f c21 hw
        refine g_iconst (v := 1) h d_O_isHandlerWellFormed_53 (by decide) ?_
        refine g_goto (tgt := 58) h d_O_isHandlerWellFormed_54 (by decide) ?_
        refine g_sub [0, 1] rfl ?_
        exact w_O_isHandlerWellFormed_b58 hL h hQ  v1 1 M hw
set_option maxHeartbeats 4000000 in
set_option maxRecDepth 100000 in
theorem ct_G_widthOf {Z : ZT} (hL : Lay Z sC) (v0 : Int32) (M : Mm)  {res : Int32 × Mm} (hw : F_G_widthOf v0 M = some res) : CtI Z y_G_widthOf ws_G_widthOf (({ frames := 0, cells := 0, slots := 0, locals := 0 })) [.int v0] M res := by
  refine CtI.of hL (cc := c_G_widthOf) (maxL := 1) (by decide) rfl (Nat.le_of_ble_eq_true rfl) (fun X h hQ => ?_)
  show G Z X M 0 [(0, .int v0)] []
  rw [F_G_widthOf] at hw
  refine g_iload_n h d_G_widthOf_0 rfl rfl ?_
  refine g_iconst (v := 3) h d_G_widthOf_1 (by decide) ?_
  refine g_icmp_eq (tgt := 10) h d_G_widthOf_2 (by decide) (fun c1 => ?_) (fun c1 => ?_)
  · have hw := o_t c1 hw
    refine g_iconst (v := 2) h d_G_widthOf_10 (by decide) ?_
    refine g_goto (tgt := 15) h d_G_widthOf_11 (by decide) ?_
    exact g_iret h hQ d_G_widthOf_15 hw
  · have hw := o_f c1 hw
    refine g_iload_n h d_G_widthOf_5 rfl rfl ?_
    refine g_iconst (v := 4) h d_G_widthOf_6 (by decide) ?_
    refine g_icmp_ne (tgt := 14) h d_G_widthOf_7 (by decide) (fun c2 => ?_) (fun c2 => ?_)
    · have hw := o_f c2 hw
      refine g_iconst (v := 1) h d_G_widthOf_14 (by decide) ?_
      exact g_iret h hQ d_G_widthOf_15 hw
    · have hw := o_t c2 hw
      refine g_iconst (v := 2) h d_G_widthOf_10 (by decide) ?_
      refine g_goto (tgt := 15) h d_G_widthOf_11 (by decide) ?_
      exact g_iret h hQ d_G_widthOf_15 hw
