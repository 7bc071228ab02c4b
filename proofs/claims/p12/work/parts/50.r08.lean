set_option maxHeartbeats 4000000 in
set_option maxRecDepth 100000 in
theorem ct_D_flows {Z : ZT} (hL : Lay Z sD) (v1 : Int32) (v2 : Int32) (v3 : Int32) (M : Mm)  {res : Int32 × Mm} (hw : F_D_flows v1 v2 v3 M = some res) : CtI Z y_D_flows ws_D_flows (({ frames := 5, cells := 0, slots := 0, locals := 109 })) [.ref (za Z 30 0), .int v1, .int v2, .int v3] M res := by
  refine CtI.of hL (cc := c_D_flows) (maxL := 4) (by decide) rfl (Nat.le_of_ble_eq_true rfl) (fun X h hQ => ?_)
  show G Z X M 0 [(0, .ref (za Z 30 0)), (1, .int v1), (2, .int v2), (3, .int v3)] []
  rw [F_D_flows] at hw
  refine g_iload_n h d_D_flows_0 rfl rfl ?_
  rcases Classical.em (v1 = 9) with c54_0 | c54_0
  · refine g_tabIn (tgt := 60) h d_D_flows_1 (by rw [c54_0]; decide) (by rw [c54_0]; decide) (by rw [c54_0]; rfl) (by decide) ?_
    have hw := o_t c54_0 hw
    refine g_aload_n h d_D_flows_60 rfl rfl ?_
    refine g_iload_n h d_D_flows_61 rfl rfl ?_
    obtain ⟨r3, M2, hc1, hw⟩ := o_b hw
    refine g_calli h (g_runV (rest := []) h (ct_D_takes hL v2 M hc1) (cwV 1 h.2.2.2.2.1 (g_V m_ml_D_224 m_im_D_takes m_se_D_takes m_in_D m_co_D_takes) rfl rfl rfl (by decide +kernel) ⟨Nat.le_of_ble_eq_true rfl, Nat.le_of_ble_eq_true rfl⟩) (hL.recv h rfl (by decide) ob_30) rfl rfl (Nat.le_of_ble_eq_true rfl) d_D_flows_62) ?_
    refine g_if_eq (tgt := 88) h d_D_flows_65 (by decide) (fun c4 => ?_) (fun c4 => ?_)
    · have hw := o_t c4 hw
      refine g_iconst (v := 0) h d_D_flows_88 (by decide) ?_
      exact g_zret h hQ d_D_flows_89 rfl hw
    · have hw := o_f c4 hw
      refine g_aload_n h d_D_flows_68 rfl rfl ?_
      refine g_iload_n h d_D_flows_69 rfl rfl ?_
      obtain ⟨r7, M6, hc5, hw⟩ := o_b hw
      refine g_calli h (g_runV (rest := []) h (ct_D_takes hL v2 M2 hc5) (cwV 1 h.2.2.2.2.1 (g_V m_ml_D_224 m_im_D_takes m_se_D_takes m_in_D m_co_D_takes) rfl rfl rfl (by decide +kernel) ⟨Nat.le_of_ble_eq_true rfl, Nat.le_of_ble_eq_true rfl⟩) (hL.recv h rfl (by decide) ob_30) rfl rfl (Nat.le_of_ble_eq_true rfl) d_D_flows_70) ?_
      refine g_if_eq (tgt := 88) h d_D_flows_73 (by decide) (fun c8 => ?_) (fun c8 => ?_)
      · have hw := o_t c8 hw
        refine g_iconst (v := 0) h d_D_flows_88 (by decide) ?_
        exact g_zret h hQ d_D_flows_89 rfl hw
      · have hw := o_f c8 hw
        refine g_aload_n h d_D_flows_76 rfl rfl ?_
        refine g_iload_n h d_D_flows_77 rfl rfl ?_
        obtain ⟨r11, M10, hc9, hw⟩ := o_b hw
        refine g_calli h (g_runV (rest := []) h (ct_D_put hL v2 M6 hc9) (cwV 1 h.2.2.2.2.1 (g_V m_ml_D_227 m_im_D_put m_se_D_put m_in_D m_co_D_put) rfl rfl rfl (by decide +kernel) ⟨Nat.le_of_ble_eq_true rfl, Nat.le_of_ble_eq_true rfl⟩) (hL.recv h rfl (by decide) ob_30) rfl rfl (Nat.le_of_ble_eq_true rfl) d_D_flows_78) ?_
        refine g_if_eq (tgt := 88) h d_D_flows_81 (by decide) (fun c12 => ?_) (fun c12 => ?_)
        · have hw := o_t c12 hw
          refine g_iconst (v := 0) h d_D_flows_88 (by decide) ?_
          exact g_zret h hQ d_D_flows_89 rfl hw
        · have hw := o_f c12 hw
          refine g_iconst (v := 1) h d_D_flows_84 (by decide) ?_
          refine g_goto (tgt := 89) h d_D_flows_85 (by decide) ?_
          exact g_zret h hQ d_D_flows_89 rfl hw
  have hw := o_f c54_0 hw
  rcases Classical.em (v1 = 10) with c54_1 | c54_1
  · refine g_tabIn (tgt := 90) h d_D_flows_1 (by rw [c54_1]; decide) (by rw [c54_1]; decide) (by rw [c54_1]; rfl) (by decide) ?_
    have hw := o_t c54_1 hw
    refine g_aload_n h d_D_flows_90 rfl rfl ?_
    refine g_iload_n h d_D_flows_91 rfl rfl ?_
    obtain ⟨r15, M14, hc13, hw⟩ := o_b hw
    refine g_calli h (g_runV (rest := []) h (ct_D_takes hL v2 M hc13) (cwV 1 h.2.2.2.2.1 (g_V m_ml_D_224 m_im_D_takes m_se_D_takes m_in_D m_co_D_takes) rfl rfl rfl (by decide +kernel) ⟨Nat.le_of_ble_eq_true rfl, Nat.le_of_ble_eq_true rfl⟩) (hL.recv h rfl (by decide) ob_30) rfl rfl (Nat.le_of_ble_eq_true rfl) d_D_flows_92) ?_
    refine g_if_eq (tgt := 110) h d_D_flows_95 (by decide) (fun c16 => ?_) (fun c16 => ?_)
    · have hw := o_t c16 hw
      refine g_iconst (v := 0) h d_D_flows_110 (by decide) ?_
      exact g_zret h hQ d_D_flows_111 rfl hw
    · have hw := o_f c16 hw
      refine g_aload_n h d_D_flows_98 rfl rfl ?_
      refine g_iload_n h d_D_flows_99 rfl rfl ?_
      obtain ⟨r19, M18, hc17, hw⟩ := o_b hw
      refine g_calli h (g_runV (rest := []) h (ct_D_put hL v3 M14 hc17) (cwV 1 h.2.2.2.2.1 (g_V m_ml_D_227 m_im_D_put m_se_D_put m_in_D m_co_D_put) rfl rfl rfl (by decide +kernel) ⟨Nat.le_of_ble_eq_true rfl, Nat.le_of_ble_eq_true rfl⟩) (hL.recv h rfl (by decide) ob_30) rfl rfl (Nat.le_of_ble_eq_true rfl) d_D_flows_100) ?_
      refine g_if_eq (tgt := 110) h d_D_flows_103 (by decide) (fun c20 => ?_) (fun c20 => ?_)
      · have hw := o_t c20 hw
        refine g_iconst (v := 0) h d_D_flows_110 (by decide) ?_
        exact g_zret h hQ d_D_flows_111 rfl hw
      · have hw := o_f c20 hw
        refine g_iconst (v := 1) h d_D_flows_106 (by decide) ?_
        refine g_goto (tgt := 111) h d_D_flows_107 (by decide) ?_
        exact g_zret h hQ d_D_flows_111 rfl hw
  have hw := o_f c54_1 hw
  rcases Classical.em (v1 = 11) with c54_2 | c54_2
  · refine g_tabIn (tgt := 112) h d_D_flows_1 (by rw [c54_2]; decide) (by rw [c54_2]; decide) (by rw [c54_2]; rfl) (by decide) ?_
    have hw := o_t c54_2 hw
    refine g_aload_n h d_D_flows_112 rfl rfl ?_
    refine g_iload_n h d_D_flows_113 rfl rfl ?_
    obtain ⟨r23, M22, hc21, hw⟩ := o_b hw
    refine g_calli h (g_runV (rest := []) h (ct_D_takes hL v2 M hc21) (cwV 1 h.2.2.2.2.1 (g_V m_ml_D_224 m_im_D_takes m_se_D_takes m_in_D m_co_D_takes) rfl rfl rfl (by decide +kernel) ⟨Nat.le_of_ble_eq_true rfl, Nat.le_of_ble_eq_true rfl⟩) (hL.recv h rfl (by decide) ob_30) rfl rfl (Nat.le_of_ble_eq_true rfl) d_D_flows_114) ?_
    refine g_if_eq (tgt := 140) h d_D_flows_117 (by decide) (fun c24 => ?_) (fun c24 => ?_)
    · have hw := o_t c24 hw
      refine g_iconst (v := 0) h d_D_flows_140 (by decide) ?_
      exact g_zret h hQ d_D_flows_141 rfl hw
    · have hw := o_f c24 hw
      refine g_aload_n h d_D_flows_120 rfl rfl ?_
      refine g_iload_n h d_D_flows_121 rfl rfl ?_
      obtain ⟨r27, M26, hc25, hw⟩ := o_b hw
      refine g_calli h (g_runV (rest := []) h (ct_D_takes hL v2 M22 hc25) (cwV 1 h.2.2.2.2.1 (g_V m_ml_D_224 m_im_D_takes m_se_D_takes m_in_D m_co_D_takes) rfl rfl rfl (by decide +kernel) ⟨Nat.le_of_ble_eq_true rfl, Nat.le_of_ble_eq_true rfl⟩) (hL.recv h rfl (by decide) ob_30) rfl rfl (Nat.le_of_ble_eq_true rfl) d_D_flows_122) ?_
      refine g_if_eq (tgt := 140) h d_D_flows_125 (by decide) (fun c28 => ?_) (fun c28 => ?_)
      · have hw := o_t c28 hw
        refine g_iconst (v := 0) h d_D_flows_140 (by decide) ?_
        exact g_zret h hQ d_D_flows_141 rfl hw
      · have hw := o_f c28 hw
        refine g_aload_n h d_D_flows_128 rfl rfl ?_
        refine g_iconst (v := 1) h d_D_flows_129 (by decide) ?_
        obtain ⟨r31, M30, hc29, hw⟩ := o_b hw
        refine g_calli h (g_runV (rest := []) h (ct_D_put hL 1 M26 hc29) (cwV 1 h.2.2.2.2.1 (g_V m_ml_D_227 m_im_D_put m_se_D_put m_in_D m_co_D_put) rfl rfl rfl (by decide +kernel) ⟨Nat.le_of_ble_eq_true rfl, Nat.le_of_ble_eq_true rfl⟩) (hL.recv h rfl (by decide) ob_30) rfl rfl (Nat.le_of_ble_eq_true rfl) d_D_flows_130) ?_
        refine g_if_eq (tgt := 140) h d_D_flows_133 (by decide) (fun c32 => ?_) (fun c32 => ?_)
        · have hw := o_t c32 hw
          refine g_iconst (v := 0) h d_D_flows_140 (by decide) ?_
          exact g_zret h hQ d_D_flows_141 rfl hw
        · have hw := o_f c32 hw
          refine g_iconst (v := 1) h d_D_flows_136 (by decide) ?_
          refine g_goto (tgt := 141) h d_D_flows_137 (by decide) ?_
          exact g_zret h hQ d_D_flows_141 rfl hw
  have hw := o_f c54_2 hw
  rcases Classical.em (v1 = 12) with c54_3 | c54_3
  · refine g_tabIn (tgt := 142) h d_D_flows_1 (by rw [c54_3]; decide) (by rw [c54_3]; decide) (by rw [c54_3]; rfl) (by decide) ?_
    have hw := o_t c54_3 hw
    refine g_aload_n h d_D_flows_142 rfl rfl ?_
    refine g_iconst (v := 1) h d_D_flows_143 (by decide) ?_
    obtain ⟨r35, M34, hc33, hw⟩ := o_b hw
    refine g_calli h (g_runV (rest := []) h (ct_D_takes hL 1 M hc33) (cwV 1 h.2.2.2.2.1 (g_V m_ml_D_224 m_im_D_takes m_se_D_takes m_in_D m_co_D_takes) rfl rfl rfl (by decide +kernel) ⟨Nat.le_of_ble_eq_true rfl, Nat.le_of_ble_eq_true rfl⟩) (hL.recv h rfl (by decide) ob_30) rfl rfl (Nat.le_of_ble_eq_true rfl) d_D_flows_144) ?_
    obtain ⟨hn36, hw⟩ := o_nz hw
    exact g_zret h hQ d_D_flows_147 hn36 hw
  have hw := o_f c54_3 hw
  rcases Classical.em (v1 = 13) with c54_4 | c54_4
  · refine g_tabIn (tgt := 148) h d_D_flows_1 (by rw [c54_4]; decide) (by rw [c54_4]; decide) (by rw [c54_4]; rfl) (by decide) ?_
    have hw := o_t c54_4 hw
    refine g_aload_n h d_D_flows_148 rfl rfl ?_
    obtain ⟨r39, M38, hc37, hw⟩ := o_b hw
    refine g_calli h (g_runV (rest := []) h (ct_D_takesRef hL M hc37) (cwV 0 h.2.2.2.2.1 (g_V m_ml_D_236 m_im_D_takesRef m_se_D_takesRef m_in_D m_co_D_takesRef) rfl rfl rfl (by decide +kernel) ⟨Nat.le_of_ble_eq_true rfl, Nat.le_of_ble_eq_true rfl⟩) (hL.recv h rfl (by decide) ob_30) rfl rfl (Nat.le_of_ble_eq_true rfl) d_D_flows_149) ?_
    obtain ⟨hn40, hw⟩ := o_nz hw
    exact g_zret h hQ d_D_flows_152 hn40 hw
  have hw := o_f c54_4 hw
  rcases Classical.em (v1 = 14) with c54_5 | c54_5
  · refine g_tabIn (tgt := 184) h d_D_flows_1 (by rw [c54_5]; decide) (by rw [c54_5]; decide) (by rw [c54_5]; rfl) (by decide) ?_
    have hw := o_t c54_5 hw
    refine g_iconst (v := 1) h d_D_flows_184 (by decide) ?_
    exact g_zret h hQ d_D_flows_185 rfl hw
  have hw := o_f c54_5 hw
  rcases Classical.em (v1 = 15) with c54_6 | c54_6
  · refine g_tabIn (tgt := 184) h d_D_flows_1 (by rw [c54_6]; decide) (by rw [c54_6]; decide) (by rw [c54_6]; rfl) (by decide) ?_
    have hw := o_t c54_6 hw
    refine g_iconst (v := 1) h d_D_flows_184 (by decide) ?_
    exact g_zret h hQ d_D_flows_185 rfl hw
  have hw := o_f c54_6 hw
  rcases Classical.em (v1 = 16) with c54_7 | c54_7
  · refine g_tabIn (tgt := 184) h d_D_flows_1 (by rw [c54_7]; decide) (by rw [c54_7]; decide) (by rw [c54_7]; rfl) (by decide) ?_
    have hw := o_t c54_7 hw
    refine g_iconst (v := 1) h d_D_flows_184 (by decide) ?_
    exact g_zret h hQ d_D_flows_185 rfl hw
  have hw := o_f c54_7 hw
  rcases Classical.em (v1 = 17) with c54_8 | c54_8
  · refine g_tabIn (tgt := 142) h d_D_flows_1 (by rw [c54_8]; decide) (by rw [c54_8]; decide) (by rw [c54_8]; rfl) (by decide) ?_
    have hw := o_t c54_8 hw
    refine g_aload_n h d_D_flows_142 rfl rfl ?_
    refine g_iconst (v := 1) h d_D_flows_143 (by decide) ?_
    obtain ⟨r43, M42, hc41, hw⟩ := o_b hw
    refine g_calli h (g_runV (rest := []) h (ct_D_takes hL 1 M hc41) (cwV 1 h.2.2.2.2.1 (g_V m_ml_D_224 m_im_D_takes m_se_D_takes m_in_D m_co_D_takes) rfl rfl rfl (by decide +kernel) ⟨Nat.le_of_ble_eq_true rfl, Nat.le_of_ble_eq_true rfl⟩) (hL.recv h rfl (by decide) ob_30) rfl rfl (Nat.le_of_ble_eq_true rfl) d_D_flows_144) ?_
    obtain ⟨hn44, hw⟩ := o_nz hw
    exact g_zret h hQ d_D_flows_147 hn44 hw
  have hw := o_f c54_8 hw
  rcases Classical.em (v1 = 18) with c54_9 | c54_9
  · refine g_tabIn (tgt := 153) h d_D_flows_1 (by rw [c54_9]; decide) (by rw [c54_9]; decide) (by rw [c54_9]; rfl) (by decide) ?_
    have hw := o_t c54_9 hw
    refine g_aload_n h d_D_flows_153 rfl rfl ?_
    refine g_getI (t := 30) (i := 0) (k := 14) (C := "FlowGateModel") (T := T_D) (N := 42) h hL rfl (by decide) ob_30 (by decide) rfl (fun w hw => mc (in_D w hw)) (mc m_fl_D_109) rfl d_D_flows_154 ?_
    refine g_if_eq (tgt := 171) h d_D_flows_157 (by decide) (fun c45 => ?_) (fun c45 => ?_)
    · have hw := o_t c45 hw
      refine g_iconst (v := 1) h d_D_flows_171 (by decide) ?_
      refine g_goto (tgt := 176) h d_D_flows_172 (by decide) ?_
      exact g_zret h hQ d_D_flows_176 rfl hw
    · have hw := o_f c45 hw
      refine g_aload_n h d_D_flows_160 rfl rfl ?_
      refine g_aload_n h d_D_flows_161 rfl rfl ?_
      refine g_getI (t := 30) (i := 0) (k := 14) (C := "FlowGateModel") (T := T_D) (N := 42) h hL rfl (by decide) ob_30 (by decide) rfl (fun w hw => mc (in_D w hw)) (mc m_fl_D_109) rfl d_D_flows_162 ?_
      obtain ⟨r48, M47, hc46, hw⟩ := o_b hw
      refine g_calli h (g_runV (rest := []) h (ct_D_takesFor hL (M.1 30 0 14) M hc46) (cwV 1 h.2.2.2.2.1 (g_V m_ml_D_240 m_im_D_takesFor m_se_D_takesFor m_in_D m_co_D_takesFor) rfl rfl rfl (by decide +kernel) ⟨Nat.le_of_ble_eq_true rfl, Nat.le_of_ble_eq_true rfl⟩) (hL.recv h rfl (by decide) ob_30) rfl rfl (Nat.le_of_ble_eq_true rfl) d_D_flows_165) ?_
      refine g_if_eq (tgt := 175) h d_D_flows_168 (by decide) (fun c49 => ?_) (fun c49 => ?_)
      · have hw := o_t c49 hw
        refine g_iconst (v := 0) h d_D_flows_175 (by decide) ?_
        exact g_zret h hQ d_D_flows_176 rfl hw
      · have hw := o_f c49 hw
        refine g_iconst (v := 1) h d_D_flows_171 (by decide) ?_
        refine g_goto (tgt := 176) h d_D_flows_172 (by decide) ?_
        exact g_zret h hQ d_D_flows_176 rfl hw
  have hw := o_f c54_9 hw
  rcases Classical.em (v1 = 19) with c54_10 | c54_10
  · refine g_tabIn (tgt := 177) h d_D_flows_1 (by rw [c54_10]; decide) (by rw [c54_10]; decide) (by rw [c54_10]; rfl) (by decide) ?_
    have hw := o_t c54_10 hw
    refine g_aload_n h d_D_flows_177 rfl rfl ?_
    refine g_bipush (v := 17) h d_D_flows_178 (by decide) ?_
    obtain ⟨r52, M51, hc50, hw⟩ := o_b hw
    refine g_calli h (g_runV (rest := []) h (ct_D_takesFor hL 17 M hc50) (cwV 1 h.2.2.2.2.1 (g_V m_ml_D_240 m_im_D_takesFor m_se_D_takesFor m_in_D m_co_D_takesFor) rfl rfl rfl (by decide +kernel) ⟨Nat.le_of_ble_eq_true rfl, Nat.le_of_ble_eq_true rfl⟩) (hL.recv h rfl (by decide) ob_30) rfl rfl (Nat.le_of_ble_eq_true rfl) d_D_flows_180) ?_
    obtain ⟨hn53, hw⟩ := o_nz hw
    exact g_zret h hQ d_D_flows_183 hn53 hw
  have hw := o_f c54_10 hw
  refine g_tabOut (tgt := 184) h d_D_flows_1 (sw_out 9 11 (by decide) (by decide) (fun j hj => ?_)) (by decide) ?_
  · rcases (show j = 0 ∨ j = 1 ∨ j = 2 ∨ j = 3 ∨ j = 4 ∨ j = 5 ∨ j = 6 ∨ j = 7 ∨ j = 8 ∨ j = 9 ∨ j = 10 by omega) with rfl | rfl | rfl | rfl | rfl | rfl | rfl | rfl | rfl | rfl | rfl
    · exact c54_0
    · exact c54_1
    · exact c54_2
    · exact c54_3
    · exact c54_4
    · exact c54_5
    · exact c54_6
    · exact c54_7
    · exact c54_8
    · exact c54_9
    · exact c54_10
  refine g_iconst (v := 1) h d_D_flows_184 (by decide) ?_
  exact g_zret h hQ d_D_flows_185 rfl hw
set_option maxHeartbeats 4000000 in
set_option maxRecDepth 100000 in
theorem ct_D_takesRow {Z : ZT} (hL : Lay Z sD) (v1 : Int32) (M : Mm)  {res : Int32 × Mm} (hw : F_D_takesRow v1 M = some res) : CtI Z y_D_takesRow ws_D_takesRow (({ frames := 3, cells := 0, slots := 0, locals := 61 })) [.ref (za Z 30 0), .int v1] M res := by
  refine CtI.of hL (cc := c_D_takesRow) (maxL := 2) (by decide) rfl (Nat.le_of_ble_eq_true rfl) (fun X h hQ => ?_)
  show G Z X M 0 [(0, .ref (za Z 30 0)), (1, .int v1)] []
  rw [F_D_takesRow] at hw
  refine g_aload_n h d_D_takesRow_0 rfl rfl ?_
  refine g_iload_n h d_D_takesRow_1 rfl rfl ?_
  obtain ⟨r3, M2, hc1, hw⟩ := o_b hw
  refine g_calli h (g_runV (rest := []) h (ct_D_takes hL v1 M hc1) (cwV 1 h.2.2.2.2.1 (g_V m_ml_D_224 m_im_D_takes m_se_D_takes m_in_D m_co_D_takes) rfl rfl rfl (by decide +kernel) ⟨Nat.le_of_ble_eq_true rfl, Nat.le_of_ble_eq_true rfl⟩) (hL.recv h rfl (by decide) ob_30) rfl rfl (Nat.le_of_ble_eq_true rfl) d_D_takesRow_2) ?_
  refine g_if_ne (tgt := 16) h d_D_takesRow_5 (by decide) (fun c4 => ?_) (fun c4 => ?_)
  · have hw := o_f c4 hw
    refine g_iconst (v := 1) h d_D_takesRow_16 (by decide) ?_
    refine g_goto (tgt := 21) h d_D_takesRow_17 (by decide) ?_
    exact g_zret h hQ d_D_takesRow_21 rfl hw
  · have hw := o_t c4 hw
    refine g_aload_n h d_D_takesRow_8 rfl rfl ?_
    refine g_iconst (v := 5) h d_D_takesRow_9 (by decide) ?_
    obtain ⟨r7, M6, hc5, hw⟩ := o_b hw
    refine g_calli h (g_runV (rest := []) h (ct_D_takes hL 5 M2 hc5) (cwV 1 h.2.2.2.2.1 (g_V m_ml_D_224 m_im_D_takes m_se_D_takes m_in_D m_co_D_takes) rfl rfl rfl (by decide +kernel) ⟨Nat.le_of_ble_eq_true rfl, Nat.le_of_ble_eq_true rfl⟩) (hL.recv h rfl (by decide) ob_30) rfl rfl (Nat.le_of_ble_eq_true rfl) d_D_takesRow_10) ?_
    refine g_if_eq (tgt := 20) h d_D_takesRow_13 (by decide) (fun c8 => ?_) (fun c8 => ?_)
    · have hw := o_t c8 hw
      refine g_iconst (v := 0) h d_D_takesRow_20 (by decide) ?_
      exact g_zret h hQ d_D_takesRow_21 rfl hw
    · have hw := o_f c8 hw
      refine g_iconst (v := 1) h d_D_takesRow_16 (by decide) ?_
      refine g_goto (tgt := 21) h d_D_takesRow_17 (by decide) ?_
      exact g_zret h hQ d_D_takesRow_21 rfl hw
