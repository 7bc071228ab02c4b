set_option maxHeartbeats 4000000 in
set_option maxRecDepth 100000 in
theorem w_D_moves_b93 {Z : ZT} {X : XT} (hL : Lay Z sD) (h : Ok Z X "FlowGateModel" c_D_moves ws_D_moves 5 ({ frames := 2, cells := 0, slots := 0, locals := 43 })) {res : Int32 × Mm} (hQ : FinI Z X .boolean res)  (v2 : Int32) (v3 : Int32) (M : Mm)  (hw : F_D_moves_b93 v2 v3 M = some res) : G Z X M 93 [(0, .ref (za Z 30 0)), (2, .int v2), (3, .int v3)] [] := by
  rw [F_D_moves_b93] at hw
  refine g_aload_n h d_D_moves_93 rfl rfl ?_
  refine g_iload_n h d_D_moves_94 rfl rfl ?_
  refine g_iload_n h d_D_moves_95 rfl rfl ?_
  obtain ⟨M2, hc1, hw⟩ := o_v hw
  refine g_callv h (g_runV (rest := []) h (ct_D_touches hL v2 v3 M hc1) (cwV 2 h.2.2.2.2.1 (g_V m_ml_D_230 m_im_D_touches m_se_D_touches m_in_D m_co_D_touches) rfl rfl rfl (by decide +kernel) ⟨Nat.le_of_ble_eq_true rfl, Nat.le_of_ble_eq_true rfl⟩) (hL.recv h rfl (by decide) ob_30) rfl rfl (Nat.le_of_ble_eq_true rfl) d_D_moves_96) ?_
  refine g_aload_n h d_D_moves_99 rfl rfl ?_
  refine g_iload_n h d_D_moves_100 rfl rfl ?_
  obtain ⟨r5, M4, hc3, hw⟩ := o_b hw
  refine g_calli h (g_runV (rest := []) h (ct_D_put hL v3 M2 hc3) (cwV 1 h.2.2.2.2.1 (g_V m_ml_D_227 m_im_D_put m_se_D_put m_in_D m_co_D_put) rfl rfl rfl (by decide +kernel) ⟨Nat.le_of_ble_eq_true rfl, Nat.le_of_ble_eq_true rfl⟩) (hL.recv h rfl (by decide) ob_30) rfl rfl (Nat.le_of_ble_eq_true rfl) d_D_moves_101) ?_
  obtain ⟨hn6, hw⟩ := o_nz hw
  exact g_zret h hQ d_D_moves_104 hn6 hw
set_option maxHeartbeats 4000000 in
set_option maxRecDepth 100000 in
theorem w_D_moves_b172 {Z : ZT} {X : XT} (hL : Lay Z sD) (h : Ok Z X "FlowGateModel" c_D_moves ws_D_moves 5 ({ frames := 2, cells := 0, slots := 0, locals := 43 })) {res : Int32 × Mm} (hQ : FinI Z X .boolean res)  (v2 : Int32) (v3 : Int32) (M : Mm)  (hw : F_D_moves_b172 v2 v3 M = some res) : G Z X M 172 [(0, .ref (za Z 30 0)), (2, .int v2), (3, .int v3)] [] := by
  rw [F_D_moves_b172] at hw
  refine g_aload_n h d_D_moves_172 rfl rfl ?_
  refine g_getR (t := 30) (i := 0) (k := 25) (C := "FlowGateModel") (T := T_D) (N := 42) h hL rfl (by decide) ob_30 (by decide) rfl (t' := 49) (i' := 0) rfl rfl (fun w hw => mc (in_D w hw)) (mc m_fl_D_70) rfl d_D_moves_173 ?_
  refine g_iload_n h d_D_moves_176 rfl rfl ?_
  refine g_iload_n h d_D_moves_177 rfl rfl ?_
  obtain ⟨hv7, hw⟩ := o_in hw
  refine g_iast (t := 49) (i := 0) h hL rfl (by decide) rfl rfl hv7 d_D_moves_178 ?_
  refine g_mem (fun M8 eM8 => ?_)
  have hw := o_l hw M8 eM8
  refine g_iload_n h d_D_moves_179 rfl rfl ?_
  refine g_calli h (g_runS (rest := []) h (ct_D_isWide hL v3 M8 (p_D_isWide v3 M8)) (cwS 1 h.2.2.2.2.1 (g_S m_ml_D_140 m_st_D_isWide m_in_D m_co_D_isWide) rfl rfl rfl (by decide +kernel) ⟨Nat.le_of_ble_eq_true rfl, Nat.le_of_ble_eq_true rfl⟩) rfl rfl (Nat.le_of_ble_eq_true rfl) d_D_moves_180) ?_
  refine g_topi (fun r10 er10 => ?_)
  have hw := o_l hw r10 er10
  refine g_if_eq (tgt := 195) h d_D_moves_183 (by decide) (fun c11 => ?_) (fun c11 => ?_)
  · have hw := o_t c11 hw
    refine g_iconst (v := 1) h d_D_moves_195 (by decide) ?_
    exact g_zret h hQ d_D_moves_196 rfl hw
  · have hw := o_f c11 hw
    refine g_aload_n h d_D_moves_186 rfl rfl ?_
    refine g_getR (t := 30) (i := 0) (k := 25) (C := "FlowGateModel") (T := T_D) (N := 42) h hL rfl (by decide) ob_30 (by decide) rfl (t' := 49) (i' := 0) rfl rfl (fun w hw => mc (in_D w hw)) (mc m_fl_D_70) rfl d_D_moves_187 ?_
    refine g_iload_n h d_D_moves_190 rfl rfl ?_
    refine g_iconst (v := 1) h d_D_moves_191 (by decide) ?_
    refine g_iadd h d_D_moves_192 ?_
    refine g_iconst (v := 0) h d_D_moves_193 (by decide) ?_
    obtain ⟨hv12, hw⟩ := o_in hw
    refine g_iast (t := 49) (i := 0) h hL rfl (by decide) rfl rfl hv12 d_D_moves_194 ?_
    refine g_mem (fun M13 eM13 => ?_)
    have hw := o_l hw M13 eM13
    refine g_iconst (v := 1) h d_D_moves_195 (by decide) ?_
    exact g_zret h hQ d_D_moves_196 rfl hw
set_option maxHeartbeats 4000000 in
set_option maxRecDepth 100000 in
theorem w_D_moves_b135 {Z : ZT} {X : XT} (hL : Lay Z sD) (h : Ok Z X "FlowGateModel" c_D_moves ws_D_moves 5 ({ frames := 2, cells := 0, slots := 0, locals := 43 })) {res : Int32 × Mm} (hQ : FinI Z X .boolean res)  (v2 : Int32) (v3 : Int32) (M : Mm)  (hw : F_D_moves_b135 v2 v3 M = some res) : G Z X M 135 [(0, .ref (za Z 30 0)), (2, .int v2), (3, .int v3)] [] := by
  rw [F_D_moves_b135] at hw
  refine g_aload_n h d_D_moves_135 rfl rfl ?_
  obtain ⟨M15, hc14, hw⟩ := o_v hw
  refine g_callv h (g_runV (rest := []) h (ct_D_drop hL M hc14) (cwV 0 h.2.2.2.2.1 (g_V m_ml_D_218 m_im_D_drop m_se_D_drop m_in_D m_co_D_drop) rfl rfl rfl (by decide +kernel) ⟨Nat.le_of_ble_eq_true rfl, Nat.le_of_ble_eq_true rfl⟩) (hL.recv h rfl (by decide) ob_30) rfl rfl (Nat.le_of_ble_eq_true rfl) d_D_moves_136) ?_
  refine g_aload_n h d_D_moves_139 rfl rfl ?_
  refine g_iload_n h d_D_moves_140 rfl rfl ?_
  refine g_iload_n h d_D_moves_141 rfl rfl ?_
  obtain ⟨M17, hc16, hw⟩ := o_v hw
  refine g_callv h (g_runV (rest := []) h (ct_D_touches hL v2 v3 M15 hc16) (cwV 2 h.2.2.2.2.1 (g_V m_ml_D_230 m_im_D_touches m_se_D_touches m_in_D m_co_D_touches) rfl rfl rfl (by decide +kernel) ⟨Nat.le_of_ble_eq_true rfl, Nat.le_of_ble_eq_true rfl⟩) (hL.recv h rfl (by decide) ob_30) rfl rfl (Nat.le_of_ble_eq_true rfl) d_D_moves_142) ?_
  refine g_iload_n h d_D_moves_145 rfl rfl ?_
  refine g_if_le (tgt := 172) h d_D_moves_146 (by decide) (fun c18 => ?_) (fun c18 => ?_)
  · have hw := o_t c18 hw
    refine g_sub [0, 1, 2] rfl ?_
    exact w_D_moves_b172 hL h hQ  v2 v3 M17 hw
  · have hw := o_f c18 hw
    refine g_aload_n h d_D_moves_149 rfl rfl ?_
    refine g_getR (t := 30) (i := 0) (k := 25) (C := "FlowGateModel") (T := T_D) (N := 42) h hL rfl (by decide) ob_30 (by decide) rfl (t' := 49) (i' := 0) rfl rfl (fun w hw => mc (in_D w hw)) (mc m_fl_D_70) rfl d_D_moves_150 ?_
    refine g_iload_n h d_D_moves_153 rfl rfl ?_
    refine g_iconst (v := 1) h d_D_moves_154 (by decide) ?_
    refine g_isub h d_D_moves_155 ?_
    obtain ⟨hv19, hw⟩ := o_in hw
    refine g_iald (t := 49) (i := 0) h hL rfl (by decide) rfl rfl hv19 d_D_moves_156 ?_
    refine g_calli h (g_runS (rest := []) h (ct_D_isWide hL (M17.1 49 0 (v2 - 1 : Int32).toNatClampNeg) M17 (p_D_isWide (M17.1 49 0 (v2 - 1 : Int32).toNatClampNeg) M17)) (cwS 1 h.2.2.2.2.1 (g_S m_ml_D_140 m_st_D_isWide m_in_D m_co_D_isWide) rfl rfl rfl (by decide +kernel) ⟨Nat.le_of_ble_eq_true rfl, Nat.le_of_ble_eq_true rfl⟩) rfl rfl (Nat.le_of_ble_eq_true rfl) d_D_moves_157) ?_
    refine g_topi (fun r21 er21 => ?_)
    have hw := o_l hw r21 er21
    refine g_if_eq (tgt := 172) h d_D_moves_160 (by decide) (fun c22 => ?_) (fun c22 => ?_)
    · have hw := o_t c22 hw
      refine g_sub [0, 1, 2] rfl ?_
      exact w_D_moves_b172 hL h hQ  v2 v3 M17 hw
    · have hw := o_f c22 hw
      refine g_aload_n h d_D_moves_163 rfl rfl ?_
      refine g_getR (t := 30) (i := 0) (k := 25) (C := "FlowGateModel") (T := T_D) (N := 42) h hL rfl (by decide) ob_30 (by decide) rfl (t' := 49) (i' := 0) rfl rfl (fun w hw => mc (in_D w hw)) (mc m_fl_D_70) rfl d_D_moves_164 ?_
      refine g_iload_n h d_D_moves_167 rfl rfl ?_
      refine g_iconst (v := 1) h d_D_moves_168 (by decide) ?_
      refine g_isub h d_D_moves_169 ?_
      refine g_iconst (v := 0) h d_D_moves_170 (by decide) ?_
      obtain ⟨hv23, hw⟩ := o_in hw
      refine g_iast (t := 49) (i := 0) h hL rfl (by decide) rfl rfl hv23 d_D_moves_171 ?_
      refine g_mem (fun M24 eM24 => ?_)
      have hw := o_l hw M24 eM24
      refine g_sub [0, 1, 2] rfl ?_
      exact w_D_moves_b172 hL h hQ  v2 v3 M24 hw
set_option maxHeartbeats 4000000 in
set_option maxRecDepth 100000 in
theorem w_D_moves_b336 {Z : ZT} {X : XT} (hL : Lay Z sD) (h : Ok Z X "FlowGateModel" c_D_moves ws_D_moves 5 ({ frames := 2, cells := 0, slots := 0, locals := 43 })) {res : Int32 × Mm} (hQ : FinI Z X .boolean res)   (M : Mm)  (hw : F_D_moves_b336 M = some res) : G Z X M 336 [(0, .ref (za Z 30 0))] [] := by
  rw [F_D_moves_b336] at hw
  refine g_aload_n h d_D_moves_336 rfl rfl ?_
  refine g_iconst (v := 0) h d_D_moves_337 (by decide) ?_
  obtain ⟨r27, M26, hc25, hw⟩ := o_b hw
  refine g_calli h (g_runV (rest := []) h (ct_D_single hL 0 M hc25) (cwV 1 h.2.2.2.2.1 (g_V m_ml_D_233 m_im_D_single m_se_D_single m_in_D m_co_D_single) rfl rfl rfl (by decide +kernel) ⟨Nat.le_of_ble_eq_true rfl, Nat.le_of_ble_eq_true rfl⟩) (hL.recv h rfl (by decide) ob_30) rfl rfl (Nat.le_of_ble_eq_true rfl) d_D_moves_338) ?_
  refine g_if_eq (tgt := 352) h d_D_moves_341 (by decide) (fun c28 => ?_) (fun c28 => ?_)
  · have hw := o_t c28 hw
    refine g_iconst (v := 0) h d_D_moves_352 (by decide) ?_
    exact g_zret h hQ d_D_moves_353 rfl hw
  · have hw := o_f c28 hw
    refine g_aload_n h d_D_moves_344 rfl rfl ?_
    refine g_iconst (v := 1) h d_D_moves_345 (by decide) ?_
    obtain ⟨r31, M30, hc29, hw⟩ := o_b hw
    refine g_calli h (g_runV (rest := []) h (ct_D_single hL 1 M26 hc29) (cwV 1 h.2.2.2.2.1 (g_V m_ml_D_233 m_im_D_single m_se_D_single m_in_D m_co_D_single) rfl rfl rfl (by decide +kernel) ⟨Nat.le_of_ble_eq_true rfl, Nat.le_of_ble_eq_true rfl⟩) (hL.recv h rfl (by decide) ob_30) rfl rfl (Nat.le_of_ble_eq_true rfl) d_D_moves_346) ?_
    refine g_if_ne (tgt := 354) h d_D_moves_349 (by decide) (fun c32 => ?_) (fun c32 => ?_)
    · have hw := o_f c32 hw
      refine g_aload_n h d_D_moves_354 rfl rfl ?_
      refine g_iconst (v := 1) h d_D_moves_355 (by decide) ?_
      obtain ⟨r35, M34, hc33, hw⟩ := o_b hw
      refine g_calli h (g_runV (rest := []) h (ct_D_top hL 1 M30 hc33) (cwV 1 h.2.2.2.2.1 (g_V m_ml_D_214 m_im_D_top m_se_D_top m_in_D m_co_D_top) rfl rfl rfl (by decide +kernel) ⟨Nat.le_of_ble_eq_true rfl, Nat.le_of_ble_eq_true rfl⟩) (hL.recv h rfl (by decide) ob_30) rfl rfl (Nat.le_of_ble_eq_true rfl) d_D_moves_356) ?_
      refine g_istore_n (lv' := [(3, .int r35), (0, .ref (za Z 30 0))]) h d_D_moves_359 rfl (by decide) rfl ?_
      refine g_aload_n h d_D_moves_360 rfl rfl ?_
      refine g_iconst (v := 0) h d_D_moves_361 (by decide) ?_
      obtain ⟨r38, M37, hc36, hw⟩ := o_b hw
      refine g_calli h (g_runV (rest := []) h (ct_D_top hL 0 M34 hc36) (cwV 1 h.2.2.2.2.1 (g_V m_ml_D_214 m_im_D_top m_se_D_top m_in_D m_co_D_top) rfl rfl rfl (by decide +kernel) ⟨Nat.le_of_ble_eq_true rfl, Nat.le_of_ble_eq_true rfl⟩) (hL.recv h rfl (by decide) ob_30) rfl rfl (Nat.le_of_ble_eq_true rfl) d_D_moves_362) ?_
      refine g_istore (lv' := [(4, .int r38), (3, .int r35), (0, .ref (za Z 30 0))]) h d_D_moves_365 (by decide) rfl ?_
      refine g_aload_n h d_D_moves_367 rfl rfl ?_
      refine g_iload_n h d_D_moves_368 rfl rfl ?_
      obtain ⟨r41, M40, hc39, hw⟩ := o_b hw
      refine g_calli h (g_runV (rest := []) h (ct_D_put hL r35 M37 hc39) (cwV 1 h.2.2.2.2.1 (g_V m_ml_D_227 m_im_D_put m_se_D_put m_in_D m_co_D_put) rfl rfl rfl (by decide +kernel) ⟨Nat.le_of_ble_eq_true rfl, Nat.le_of_ble_eq_true rfl⟩) (hL.recv h rfl (by decide) ob_30) rfl rfl (Nat.le_of_ble_eq_true rfl) d_D_moves_369) ?_
      refine g_pop h d_D_moves_372 rfl ?_
      refine g_aload_n h d_D_moves_373 rfl rfl ?_
      refine g_iload h d_D_moves_374 rfl ?_
      obtain ⟨r44, M43, hc42, hw⟩ := o_b hw
      refine g_calli h (g_runV (rest := []) h (ct_D_put hL r38 M40 hc42) (cwV 1 h.2.2.2.2.1 (g_V m_ml_D_227 m_im_D_put m_se_D_put m_in_D m_co_D_put) rfl rfl rfl (by decide +kernel) ⟨Nat.le_of_ble_eq_true rfl, Nat.le_of_ble_eq_true rfl⟩) (hL.recv h rfl (by decide) ob_30) rfl rfl (Nat.le_of_ble_eq_true rfl) d_D_moves_376) ?_
      obtain ⟨hn45, hw⟩ := o_nz hw
      exact g_zret h hQ d_D_moves_379 hn45 hw
    · have hw := o_t c32 hw
      refine g_iconst (v := 0) h d_D_moves_352 (by decide) ?_
      exact g_zret h hQ d_D_moves_353 rfl hw
set_option maxHeartbeats 4000000 in
set_option maxRecDepth 100000 in
theorem ct_D_moves {Z : ZT} (hL : Lay Z sD) (v1 : Int32) (v2 : Int32) (M : Mm)  {res : Int32 × Mm} (hw : F_D_moves v1 v2 M = some res) : CtI Z y_D_moves ws_D_moves (({ frames := 2, cells := 0, slots := 0, locals := 43 })) [.ref (za Z 30 0), .int v1, .int v2] M res := by
  refine CtI.of hL (cc := c_D_moves) (maxL := 5) (by decide) rfl (Nat.le_of_ble_eq_true rfl) (fun X h hQ => ?_)
  show G Z X M 0 [(0, .ref (za Z 30 0)), (1, .int v1), (2, .int v2)] []
  rw [F_D_moves] at hw
  refine g_iload_n h d_D_moves_0 rfl rfl ?_
  rcases Classical.em (v1 = 0) with c153_0 | c153_0
  · refine g_tabIn (tgt := 48) h d_D_moves_1 (by rw [c153_0]; decide) (by rw [c153_0]; decide) (by rw [c153_0]; rfl) (by decide) ?_
    have hw := o_t c153_0 hw
    refine g_iconst (v := 1) h d_D_moves_48 (by decide) ?_
    exact g_zret h hQ d_D_moves_49 rfl hw
  have hw := o_f c153_0 hw
  rcases Classical.em (v1 = 1) with c153_1 | c153_1
  · refine g_tabIn (tgt := 50) h d_D_moves_1 (by rw [c153_1]; decide) (by rw [c153_1]; decide) (by rw [c153_1]; rfl) (by decide) ?_
    have hw := o_t c153_1 hw
    refine g_aload_n h d_D_moves_50 rfl rfl ?_
    refine g_iload_n h d_D_moves_51 rfl rfl ?_
    obtain ⟨r60, M59, hc58, hw⟩ := o_b hw
    refine g_calli h (g_runV (rest := []) h (ct_D_put hL v2 M hc58) (cwV 1 h.2.2.2.2.1 (g_V m_ml_D_227 m_im_D_put m_se_D_put m_in_D m_co_D_put) rfl rfl rfl (by decide +kernel) ⟨Nat.le_of_ble_eq_true rfl, Nat.le_of_ble_eq_true rfl⟩) (hL.recv h rfl (by decide) ob_30) rfl rfl (Nat.le_of_ble_eq_true rfl) d_D_moves_52) ?_
    obtain ⟨hn61, hw⟩ := o_nz hw
    exact g_zret h hQ d_D_moves_55 hn61 hw
  have hw := o_f c153_1 hw
  rcases Classical.em (v1 = 2) with c153_2 | c153_2
  · refine g_tabIn (tgt := 56) h d_D_moves_1 (by rw [c153_2]; decide) (by rw [c153_2]; decide) (by rw [c153_2]; rfl) (by decide) ?_
    have hw := o_t c153_2 hw
    refine g_aload_n h d_D_moves_56 rfl rfl ?_
    refine g_getR (t := 30) (i := 0) (k := 25) (C := "FlowGateModel") (T := T_D) (N := 42) h hL rfl (by decide) ob_30 (by decide) rfl (t' := 49) (i' := 0) rfl rfl (fun w hw => mc (in_D w hw)) (mc m_fl_D_70) rfl d_D_moves_57 ?_
    refine g_iload_n h d_D_moves_60 rfl rfl ?_
    obtain ⟨hv62, hw⟩ := o_in hw
    refine g_iald (t := 49) (i := 0) h hL rfl (by decide) rfl rfl hv62 d_D_moves_61 ?_
    refine g_topi (fun n63 en63 => ?_)
    have hw := o_l hw n63 en63
    refine g_istore_n (lv' := [(3, .int n63), (0, .ref (za Z 30 0)), (1, .int v1), (2, .int v2)]) h d_D_moves_62 rfl (by decide) rfl ?_
    refine g_iload_n h d_D_moves_63 rfl rfl ?_
    refine g_if_eq (tgt := 91) h d_D_moves_64 (by decide) (fun c64 => ?_) (fun c64 => ?_)
    · have hw := o_t c64 hw
      refine g_iconst (v := 0) h d_D_moves_91 (by decide) ?_
      exact g_zret h hQ d_D_moves_92 rfl hw
    · have hw := o_f c64 hw
      refine g_iload_n h d_D_moves_67 rfl rfl ?_
      refine g_sipush (v := 2000) h d_D_moves_68 (by decide) ?_
      refine g_icmp_ge (tgt := 91) h d_D_moves_71 (by decide) (fun c65 => ?_) (fun c65 => ?_)
      · have hw := o_t c65 hw
        refine g_iconst (v := 0) h d_D_moves_91 (by decide) ?_
        exact g_zret h hQ d_D_moves_92 rfl hw
      · have hw := o_f c65 hw
        refine g_iload_n h d_D_moves_74 rfl rfl ?_
        refine g_calli h (g_runS (rest := []) h (ct_D_isWide hL n63 M (p_D_isWide n63 M)) (cwS 1 h.2.2.2.2.1 (g_S m_ml_D_140 m_st_D_isWide m_in_D m_co_D_isWide) rfl rfl rfl (by decide +kernel) ⟨Nat.le_of_ble_eq_true rfl, Nat.le_of_ble_eq_true rfl⟩) rfl rfl (Nat.le_of_ble_eq_true rfl) d_D_moves_75) ?_
        refine g_topi (fun r67 er67 => ?_)
        have hw := o_l hw r67 er67
        refine g_if_eq (tgt := 93) h d_D_moves_78 (by decide) (fun c68 => ?_) (fun c68 => ?_)
        · have hw := o_t c68 hw
          refine g_sub [1, 3, 0] rfl ?_
          exact w_D_moves_b93 hL h hQ  v2 n63 M hw
        · have hw := o_f c68 hw
          refine g_iload_n h d_D_moves_81 rfl rfl ?_
          refine g_iconst (v := 1) h d_D_moves_82 (by decide) ?_
          refine g_iadd h d_D_moves_83 ?_
          refine g_aload_n h d_D_moves_84 rfl rfl ?_
          refine g_getI (t := 30) (i := 0) (k := 15) (C := "FlowGateModel") (T := T_D) (N := 42) h hL rfl (by decide) ob_30 (by decide) rfl (fun w hw => mc (in_D w hw)) (mc m_fl_D_112) rfl d_D_moves_85 ?_
          refine g_icmp_lt (tgt := 93) h d_D_moves_88 (by decide) (fun c69 => ?_) (fun c69 => ?_)
          · have hw := o_t c69 hw
            refine g_sub [1, 3, 0] rfl ?_
            exact w_D_moves_b93 hL h hQ  v2 n63 M hw
          · have hw := o_f c69 hw
            refine g_iconst (v := 0) h d_D_moves_91 (by decide) ?_
            exact g_zret h hQ d_D_moves_92 rfl hw
  have hw := o_f c153_2 hw
  rcases Classical.em (v1 = 3) with c153_3 | c153_3
  · refine g_tabIn (tgt := 105) h d_D_moves_1 (by rw [c153_3]; decide) (by rw [c153_3]; decide) (by rw [c153_3]; rfl) (by decide) ?_
    have hw := o_t c153_3 hw
    refine g_aload_n h d_D_moves_105 rfl rfl ?_
    refine g_iconst (v := 0) h d_D_moves_106 (by decide) ?_
    obtain ⟨r72, M71, hc70, hw⟩ := o_b hw
    refine g_calli h (g_runV (rest := []) h (ct_D_top hL 0 M hc70) (cwV 1 h.2.2.2.2.1 (g_V m_ml_D_214 m_im_D_top m_se_D_top m_in_D m_co_D_top) rfl rfl rfl (by decide +kernel) ⟨Nat.le_of_ble_eq_true rfl, Nat.le_of_ble_eq_true rfl⟩) (hL.recv h rfl (by decide) ob_30) rfl rfl (Nat.le_of_ble_eq_true rfl) d_D_moves_107) ?_
    refine g_istore_n (lv' := [(3, .int r72), (0, .ref (za Z 30 0)), (1, .int v1), (2, .int v2)]) h d_D_moves_110 rfl (by decide) rfl ?_
    refine g_iload_n h d_D_moves_111 rfl rfl ?_
    refine g_iconst (v := 1) h d_D_moves_112 (by decide) ?_
    refine g_icmp_lt (tgt := 133) h d_D_moves_113 (by decide) (fun c73 => ?_) (fun c73 => ?_)
    · have hw := o_t c73 hw
      refine g_iconst (v := 0) h d_D_moves_133 (by decide) ?_
      exact g_zret h hQ d_D_moves_134 rfl hw
    · have hw := o_f c73 hw
      refine g_iload_n h d_D_moves_116 rfl rfl ?_
      refine g_calli h (g_runS (rest := []) h (ct_D_isWide hL r72 M71 (p_D_isWide r72 M71)) (cwS 1 h.2.2.2.2.1 (g_S m_ml_D_140 m_st_D_isWide m_in_D m_co_D_isWide) rfl rfl rfl (by decide +kernel) ⟨Nat.le_of_ble_eq_true rfl, Nat.le_of_ble_eq_true rfl⟩) rfl rfl (Nat.le_of_ble_eq_true rfl) d_D_moves_117) ?_
      refine g_topi (fun r75 er75 => ?_)
      have hw := o_l hw r75 er75
      refine g_if_eq (tgt := 135) h d_D_moves_120 (by decide) (fun c76 => ?_) (fun c76 => ?_)
      · have hw := o_t c76 hw
        refine g_sub [1, 3, 0] rfl ?_
        exact w_D_moves_b135 hL h hQ  v2 r72 M71 hw
      · have hw := o_f c76 hw
        refine g_iload_n h d_D_moves_123 rfl rfl ?_
        refine g_iconst (v := 1) h d_D_moves_124 (by decide) ?_
        refine g_iadd h d_D_moves_125 ?_
        refine g_aload_n h d_D_moves_126 rfl rfl ?_
        refine g_getI (t := 30) (i := 0) (k := 15) (C := "FlowGateModel") (T := T_D) (N := 42) h hL rfl (by decide) ob_30 (by decide) rfl (fun w hw => mc (in_D w hw)) (mc m_fl_D_112) rfl d_D_moves_127 ?_
        refine g_icmp_lt (tgt := 135) h d_D_moves_130 (by decide) (fun c77 => ?_) (fun c77 => ?_)
        · have hw := o_t c77 hw
          refine g_sub [1, 3, 0] rfl ?_
          exact w_D_moves_b135 hL h hQ  v2 r72 M71 hw
        · have hw := o_f c77 hw
          refine g_iconst (v := 0) h d_D_moves_133 (by decide) ?_
          exact g_zret h hQ d_D_moves_134 rfl hw
  have hw := o_f c153_3 hw
  rcases Classical.em (v1 = 4) with c153_4 | c153_4
  · refine g_tabIn (tgt := 197) h d_D_moves_1 (by rw [c153_4]; decide) (by rw [c153_4]; decide) (by rw [c153_4]; rfl) (by decide) ?_
    have hw := o_t c153_4 hw
    refine g_aload_n h d_D_moves_197 rfl rfl ?_
    refine g_iconst (v := 0) h d_D_moves_198 (by decide) ?_
    obtain ⟨r80, M79, hc78, hw⟩ := o_b hw
    refine g_calli h (g_runV (rest := []) h (ct_D_single hL 0 M hc78) (cwV 1 h.2.2.2.2.1 (g_V m_ml_D_233 m_im_D_single m_se_D_single m_in_D m_co_D_single) rfl rfl rfl (by decide +kernel) ⟨Nat.le_of_ble_eq_true rfl, Nat.le_of_ble_eq_true rfl⟩) (hL.recv h rfl (by decide) ob_30) rfl rfl (Nat.le_of_ble_eq_true rfl) d_D_moves_199) ?_
    refine g_if_ne (tgt := 207) h d_D_moves_202 (by decide) (fun c81 => ?_) (fun c81 => ?_)
    · have hw := o_f c81 hw
      refine g_aload_n h d_D_moves_207 rfl rfl ?_
      obtain ⟨M83, hc82, hw⟩ := o_v hw
      refine g_callv h (g_runV (rest := []) h (ct_D_drop hL M79 hc82) (cwV 0 h.2.2.2.2.1 (g_V m_ml_D_218 m_im_D_drop m_se_D_drop m_in_D m_co_D_drop) rfl rfl rfl (by decide +kernel) ⟨Nat.le_of_ble_eq_true rfl, Nat.le_of_ble_eq_true rfl⟩) (hL.recv h rfl (by decide) ob_30) rfl rfl (Nat.le_of_ble_eq_true rfl) d_D_moves_208) ?_
      refine g_iconst (v := 1) h d_D_moves_211 (by decide) ?_
      exact g_zret h hQ d_D_moves_212 rfl hw
    · have hw := o_t c81 hw
      refine g_iconst (v := 0) h d_D_moves_205 (by decide) ?_
      exact g_zret h hQ d_D_moves_206 rfl hw
  have hw := o_f c153_4 hw
  rcases Classical.em (v1 = 5) with c153_5 | c153_5
  · refine g_tabIn (tgt := 213) h d_D_moves_1 (by rw [c153_5]; decide) (by rw [c153_5]; decide) (by rw [c153_5]; rfl) (by decide) ?_
    have hw := o_t c153_5 hw
    refine g_aload_n h d_D_moves_213 rfl rfl ?_
    refine g_iconst (v := 0) h d_D_moves_214 (by decide) ?_
    obtain ⟨r86, M85, hc84, hw⟩ := o_b hw
    refine g_calli h (g_runV (rest := []) h (ct_D_single hL 0 M hc84) (cwV 1 h.2.2.2.2.1 (g_V m_ml_D_233 m_im_D_single m_se_D_single m_in_D m_co_D_single) rfl rfl rfl (by decide +kernel) ⟨Nat.le_of_ble_eq_true rfl, Nat.le_of_ble_eq_true rfl⟩) (hL.recv h rfl (by decide) ob_30) rfl rfl (Nat.le_of_ble_eq_true rfl) d_D_moves_215) ?_
    refine g_if_eq (tgt := 237) h d_D_moves_218 (by decide) (fun c87 => ?_) (fun c87 => ?_)
    · have hw := o_t c87 hw
      refine g_iconst (v := 0) h d_D_moves_237 (by decide) ?_
      exact g_zret h hQ d_D_moves_238 rfl hw
    · have hw := o_f c87 hw
      refine g_aload_n h d_D_moves_221 rfl rfl ?_
      refine g_aload_n h d_D_moves_222 rfl rfl ?_
      refine g_iconst (v := 0) h d_D_moves_223 (by decide) ?_
      obtain ⟨r90, M89, hc88, hw⟩ := o_b hw
      refine g_calli h (g_runV (rest := [.ref (za Z 30 0)]) h (ct_D_top hL 0 M85 hc88) (cwV 1 h.2.2.2.2.1 (g_V m_ml_D_214 m_im_D_top m_se_D_top m_in_D m_co_D_top) rfl rfl rfl (by decide +kernel) ⟨Nat.le_of_ble_eq_true rfl, Nat.le_of_ble_eq_true rfl⟩) (hL.recv h rfl (by decide) ob_30) rfl rfl (Nat.le_of_ble_eq_true rfl) d_D_moves_224) ?_
      obtain ⟨r93, M92, hc91, hw⟩ := o_b hw
      refine g_calli h (g_runV (rest := []) h (ct_D_put hL r90 M89 hc91) (cwV 1 h.2.2.2.2.1 (g_V m_ml_D_227 m_im_D_put m_se_D_put m_in_D m_co_D_put) rfl rfl rfl (by decide +kernel) ⟨Nat.le_of_ble_eq_true rfl, Nat.le_of_ble_eq_true rfl⟩) (hL.recv h rfl (by decide) ob_30) rfl rfl (Nat.le_of_ble_eq_true rfl) d_D_moves_227) ?_
      refine g_if_eq (tgt := 237) h d_D_moves_230 (by decide) (fun c94 => ?_) (fun c94 => ?_)
      · have hw := o_t c94 hw
        refine g_iconst (v := 0) h d_D_moves_237 (by decide) ?_
        exact g_zret h hQ d_D_moves_238 rfl hw
      · have hw := o_f c94 hw
        refine g_iconst (v := 1) h d_D_moves_233 (by decide) ?_
        refine g_goto (tgt := 238) h d_D_moves_234 (by decide) ?_
        exact g_zret h hQ d_D_moves_238 rfl hw
  have hw := o_f c153_5 hw
  rcases Classical.em (v1 = 6) with c153_6 | c153_6
  · refine g_tabIn (tgt := 239) h d_D_moves_1 (by rw [c153_6]; decide) (by rw [c153_6]; decide) (by rw [c153_6]; rfl) (by decide) ?_
    have hw := o_t c153_6 hw
    refine g_aload_n h d_D_moves_239 rfl rfl ?_
    refine g_iconst (v := 0) h d_D_moves_240 (by decide) ?_
    obtain ⟨r97, M96, hc95, hw⟩ := o_b hw
    refine g_calli h (g_runV (rest := []) h (ct_D_single hL 0 M hc95) (cwV 1 h.2.2.2.2.1 (g_V m_ml_D_233 m_im_D_single m_se_D_single m_in_D m_co_D_single) rfl rfl rfl (by decide +kernel) ⟨Nat.le_of_ble_eq_true rfl, Nat.le_of_ble_eq_true rfl⟩) (hL.recv h rfl (by decide) ob_30) rfl rfl (Nat.le_of_ble_eq_true rfl) d_D_moves_241) ?_
    refine g_if_eq (tgt := 255) h d_D_moves_244 (by decide) (fun c98 => ?_) (fun c98 => ?_)
    · have hw := o_t c98 hw
      refine g_iconst (v := 0) h d_D_moves_255 (by decide) ?_
      exact g_zret h hQ d_D_moves_256 rfl hw
    · have hw := o_f c98 hw
      refine g_aload_n h d_D_moves_247 rfl rfl ?_
      refine g_iconst (v := 1) h d_D_moves_248 (by decide) ?_
      obtain ⟨r101, M100, hc99, hw⟩ := o_b hw
      refine g_calli h (g_runV (rest := []) h (ct_D_single hL 1 M96 hc99) (cwV 1 h.2.2.2.2.1 (g_V m_ml_D_233 m_im_D_single m_se_D_single m_in_D m_co_D_single) rfl rfl rfl (by decide +kernel) ⟨Nat.le_of_ble_eq_true rfl, Nat.le_of_ble_eq_true rfl⟩) (hL.recv h rfl (by decide) ob_30) rfl rfl (Nat.le_of_ble_eq_true rfl) d_D_moves_249) ?_
      refine g_if_ne (tgt := 257) h d_D_moves_252 (by decide) (fun c102 => ?_) (fun c102 => ?_)
      · have hw := o_f c102 hw
        refine g_aload_n h d_D_moves_257 rfl rfl ?_
        refine g_iconst (v := 0) h d_D_moves_258 (by decide) ?_
        obtain ⟨r105, M104, hc103, hw⟩ := o_b hw
        refine g_calli h (g_runV (rest := []) h (ct_D_top hL 0 M100 hc103) (cwV 1 h.2.2.2.2.1 (g_V m_ml_D_214 m_im_D_top m_se_D_top m_in_D m_co_D_top) rfl rfl rfl (by decide +kernel) ⟨Nat.le_of_ble_eq_true rfl, Nat.le_of_ble_eq_true rfl⟩) (hL.recv h rfl (by decide) ob_30) rfl rfl (Nat.le_of_ble_eq_true rfl) d_D_moves_259) ?_
        refine g_istore_n (lv' := [(3, .int r105), (0, .ref (za Z 30 0)), (1, .int v1), (2, .int v2)]) h d_D_moves_262 rfl (by decide) rfl ?_
        refine g_aload_n h d_D_moves_263 rfl rfl ?_
        refine g_iconst (v := 1) h d_D_moves_264 (by decide) ?_
        obtain ⟨r108, M107, hc106, hw⟩ := o_b hw
        refine g_calli h (g_runV (rest := []) h (ct_D_top hL 1 M104 hc106) (cwV 1 h.2.2.2.2.1 (g_V m_ml_D_214 m_im_D_top m_se_D_top m_in_D m_co_D_top) rfl rfl rfl (by decide +kernel) ⟨Nat.le_of_ble_eq_true rfl, Nat.le_of_ble_eq_true rfl⟩) (hL.recv h rfl (by decide) ob_30) rfl rfl (Nat.le_of_ble_eq_true rfl) d_D_moves_265) ?_
        refine g_istore (lv' := [(4, .int r108), (3, .int r105), (0, .ref (za Z 30 0)), (1, .int v1), (2, .int v2)]) h d_D_moves_268 (by decide) rfl ?_
        refine g_aload_n h d_D_moves_270 rfl rfl ?_
        obtain ⟨M110, hc109, hw⟩ := o_v hw
        refine g_callv h (g_runV (rest := []) h (ct_D_drop hL M107 hc109) (cwV 0 h.2.2.2.2.1 (g_V m_ml_D_218 m_im_D_drop m_se_D_drop m_in_D m_co_D_drop) rfl rfl rfl (by decide +kernel) ⟨Nat.le_of_ble_eq_true rfl, Nat.le_of_ble_eq_true rfl⟩) (hL.recv h rfl (by decide) ob_30) rfl rfl (Nat.le_of_ble_eq_true rfl) d_D_moves_271) ?_
        refine g_aload_n h d_D_moves_274 rfl rfl ?_
        obtain ⟨M112, hc111, hw⟩ := o_v hw
        refine g_callv h (g_runV (rest := []) h (ct_D_drop hL M110 hc111) (cwV 0 h.2.2.2.2.1 (g_V m_ml_D_218 m_im_D_drop m_se_D_drop m_in_D m_co_D_drop) rfl rfl rfl (by decide +kernel) ⟨Nat.le_of_ble_eq_true rfl, Nat.le_of_ble_eq_true rfl⟩) (hL.recv h rfl (by decide) ob_30) rfl rfl (Nat.le_of_ble_eq_true rfl) d_D_moves_275) ?_
        refine g_aload_n h d_D_moves_278 rfl rfl ?_
        refine g_iload_n h d_D_moves_279 rfl rfl ?_
        obtain ⟨r115, M114, hc113, hw⟩ := o_b hw
        refine g_calli h (g_runV (rest := []) h (ct_D_put hL r105 M112 hc113) (cwV 1 h.2.2.2.2.1 (g_V m_ml_D_227 m_im_D_put m_se_D_put m_in_D m_co_D_put) rfl rfl rfl (by decide +kernel) ⟨Nat.le_of_ble_eq_true rfl, Nat.le_of_ble_eq_true rfl⟩) (hL.recv h rfl (by decide) ob_30) rfl rfl (Nat.le_of_ble_eq_true rfl) d_D_moves_280) ?_
        refine g_pop h d_D_moves_283 rfl ?_
        refine g_aload_n h d_D_moves_284 rfl rfl ?_
        refine g_iload h d_D_moves_285 rfl ?_
        obtain ⟨r118, M117, hc116, hw⟩ := o_b hw
        refine g_calli h (g_runV (rest := []) h (ct_D_put hL r108 M114 hc116) (cwV 1 h.2.2.2.2.1 (g_V m_ml_D_227 m_im_D_put m_se_D_put m_in_D m_co_D_put) rfl rfl rfl (by decide +kernel) ⟨Nat.le_of_ble_eq_true rfl, Nat.le_of_ble_eq_true rfl⟩) (hL.recv h rfl (by decide) ob_30) rfl rfl (Nat.le_of_ble_eq_true rfl) d_D_moves_287) ?_
        refine g_pop h d_D_moves_290 rfl ?_
        refine g_iload_n h d_D_moves_291 rfl rfl ?_
        refine g_bipush (v := 7) h d_D_moves_292 (by decide) ?_
        refine g_icmp_eq (tgt := 305) h d_D_moves_294 (by decide) (fun c119 => ?_) (fun c119 => ?_)
        · have hw := o_t c119 hw
          refine g_iconst (v := 1) h d_D_moves_305 (by decide) ?_
          refine g_goto (tgt := 310) h d_D_moves_306 (by decide) ?_
          exact g_zret h hQ d_D_moves_310 rfl hw
        · have hw := o_f c119 hw
          refine g_aload_n h d_D_moves_297 rfl rfl ?_
          refine g_iload_n h d_D_moves_298 rfl rfl ?_
          obtain ⟨r122, M121, hc120, hw⟩ := o_b hw
          refine g_calli h (g_runV (rest := []) h (ct_D_put hL r105 M117 hc120) (cwV 1 h.2.2.2.2.1 (g_V m_ml_D_227 m_im_D_put m_se_D_put m_in_D m_co_D_put) rfl rfl rfl (by decide +kernel) ⟨Nat.le_of_ble_eq_true rfl, Nat.le_of_ble_eq_true rfl⟩) (hL.recv h rfl (by decide) ob_30) rfl rfl (Nat.le_of_ble_eq_true rfl) d_D_moves_299) ?_
          refine g_if_eq (tgt := 309) h d_D_moves_302 (by decide) (fun c123 => ?_) (fun c123 => ?_)
          · have hw := o_t c123 hw
            refine g_iconst (v := 0) h d_D_moves_309 (by decide) ?_
            exact g_zret h hQ d_D_moves_310 rfl hw
          · have hw := o_f c123 hw
            refine g_iconst (v := 1) h d_D_moves_305 (by decide) ?_
            refine g_goto (tgt := 310) h d_D_moves_306 (by decide) ?_
            exact g_zret h hQ d_D_moves_310 rfl hw
      · have hw := o_t c102 hw
        refine g_iconst (v := 0) h d_D_moves_255 (by decide) ?_
        exact g_zret h hQ d_D_moves_256 rfl hw
  have hw := o_f c153_6 hw
  rcases Classical.em (v1 = 7) with c153_7 | c153_7
  · refine g_tabIn (tgt := 239) h d_D_moves_1 (by rw [c153_7]; decide) (by rw [c153_7]; decide) (by rw [c153_7]; rfl) (by decide) ?_
    have hw := o_t c153_7 hw
    refine g_aload_n h d_D_moves_239 rfl rfl ?_
    refine g_iconst (v := 0) h d_D_moves_240 (by decide) ?_
    obtain ⟨r126, M125, hc124, hw⟩ := o_b hw
    refine g_calli h (g_runV (rest := []) h (ct_D_single hL 0 M hc124) (cwV 1 h.2.2.2.2.1 (g_V m_ml_D_233 m_im_D_single m_se_D_single m_in_D m_co_D_single) rfl rfl rfl (by decide +kernel) ⟨Nat.le_of_ble_eq_true rfl, Nat.le_of_ble_eq_true rfl⟩) (hL.recv h rfl (by decide) ob_30) rfl rfl (Nat.le_of_ble_eq_true rfl) d_D_moves_241) ?_
    refine g_if_eq (tgt := 255) h d_D_moves_244 (by decide) (fun c127 => ?_) (fun c127 => ?_)
    · have hw := o_t c127 hw
      refine g_iconst (v := 0) h d_D_moves_255 (by decide) ?_
      exact g_zret h hQ d_D_moves_256 rfl hw
    · have hw := o_f c127 hw
      refine g_aload_n h d_D_moves_247 rfl rfl ?_
      refine g_iconst (v := 1) h d_D_moves_248 (by decide) ?_
      obtain ⟨r130, M129, hc128, hw⟩ := o_b hw
      refine g_calli h (g_runV (rest := []) h (ct_D_single hL 1 M125 hc128) (cwV 1 h.2.2.2.2.1 (g_V m_ml_D_233 m_im_D_single m_se_D_single m_in_D m_co_D_single) rfl rfl rfl (by decide +kernel) ⟨Nat.le_of_ble_eq_true rfl, Nat.le_of_ble_eq_true rfl⟩) (hL.recv h rfl (by decide) ob_30) rfl rfl (Nat.le_of_ble_eq_true rfl) d_D_moves_249) ?_
      refine g_if_ne (tgt := 257) h d_D_moves_252 (by decide) (fun c131 => ?_) (fun c131 => ?_)
      · have hw := o_f c131 hw
        refine g_aload_n h d_D_moves_257 rfl rfl ?_
        refine g_iconst (v := 0) h d_D_moves_258 (by decide) ?_
        obtain ⟨r134, M133, hc132, hw⟩ := o_b hw
        refine g_calli h (g_runV (rest := []) h (ct_D_top hL 0 M129 hc132) (cwV 1 h.2.2.2.2.1 (g_V m_ml_D_214 m_im_D_top m_se_D_top m_in_D m_co_D_top) rfl rfl rfl (by decide +kernel) ⟨Nat.le_of_ble_eq_true rfl, Nat.le_of_ble_eq_true rfl⟩) (hL.recv h rfl (by decide) ob_30) rfl rfl (Nat.le_of_ble_eq_true rfl) d_D_moves_259) ?_
        refine g_istore_n (lv' := [(3, .int r134), (0, .ref (za Z 30 0)), (1, .int v1), (2, .int v2)]) h d_D_moves_262 rfl (by decide) rfl ?_
        refine g_aload_n h d_D_moves_263 rfl rfl ?_
        refine g_iconst (v := 1) h d_D_moves_264 (by decide) ?_
        obtain ⟨r137, M136, hc135, hw⟩ := o_b hw
        refine g_calli h (g_runV (rest := []) h (ct_D_top hL 1 M133 hc135) (cwV 1 h.2.2.2.2.1 (g_V m_ml_D_214 m_im_D_top m_se_D_top m_in_D m_co_D_top) rfl rfl rfl (by decide +kernel) ⟨Nat.le_of_ble_eq_true rfl, Nat.le_of_ble_eq_true rfl⟩) (hL.recv h rfl (by decide) ob_30) rfl rfl (Nat.le_of_ble_eq_true rfl) d_D_moves_265) ?_
        refine g_istore (lv' := [(4, .int r137), (3, .int r134), (0, .ref (za Z 30 0)), (1, .int v1), (2, .int v2)]) h d_D_moves_268 (by decide) rfl ?_
        refine g_aload_n h d_D_moves_270 rfl rfl ?_
        obtain ⟨M139, hc138, hw⟩ := o_v hw
        refine g_callv h (g_runV (rest := []) h (ct_D_drop hL M136 hc138) (cwV 0 h.2.2.2.2.1 (g_V m_ml_D_218 m_im_D_drop m_se_D_drop m_in_D m_co_D_drop) rfl rfl rfl (by decide +kernel) ⟨Nat.le_of_ble_eq_true rfl, Nat.le_of_ble_eq_true rfl⟩) (hL.recv h rfl (by decide) ob_30) rfl rfl (Nat.le_of_ble_eq_true rfl) d_D_moves_271) ?_
        refine g_aload_n h d_D_moves_274 rfl rfl ?_
        obtain ⟨M141, hc140, hw⟩ := o_v hw
        refine g_callv h (g_runV (rest := []) h (ct_D_drop hL M139 hc140) (cwV 0 h.2.2.2.2.1 (g_V m_ml_D_218 m_im_D_drop m_se_D_drop m_in_D m_co_D_drop) rfl rfl rfl (by decide +kernel) ⟨Nat.le_of_ble_eq_true rfl, Nat.le_of_ble_eq_true rfl⟩) (hL.recv h rfl (by decide) ob_30) rfl rfl (Nat.le_of_ble_eq_true rfl) d_D_moves_275) ?_
        refine g_aload_n h d_D_moves_278 rfl rfl ?_
        refine g_iload_n h d_D_moves_279 rfl rfl ?_
        obtain ⟨r144, M143, hc142, hw⟩ := o_b hw
        refine g_calli h (g_runV (rest := []) h (ct_D_put hL r134 M141 hc142) (cwV 1 h.2.2.2.2.1 (g_V m_ml_D_227 m_im_D_put m_se_D_put m_in_D m_co_D_put) rfl rfl rfl (by decide +kernel) ⟨Nat.le_of_ble_eq_true rfl, Nat.le_of_ble_eq_true rfl⟩) (hL.recv h rfl (by decide) ob_30) rfl rfl (Nat.le_of_ble_eq_true rfl) d_D_moves_280) ?_
        refine g_pop h d_D_moves_283 rfl ?_
        refine g_aload_n h d_D_moves_284 rfl rfl ?_
        refine g_iload h d_D_moves_285 rfl ?_
        obtain ⟨r147, M146, hc145, hw⟩ := o_b hw
        refine g_calli h (g_runV (rest := []) h (ct_D_put hL r137 M143 hc145) (cwV 1 h.2.2.2.2.1 (g_V m_ml_D_227 m_im_D_put m_se_D_put m_in_D m_co_D_put) rfl rfl rfl (by decide +kernel) ⟨Nat.le_of_ble_eq_true rfl, Nat.le_of_ble_eq_true rfl⟩) (hL.recv h rfl (by decide) ob_30) rfl rfl (Nat.le_of_ble_eq_true rfl) d_D_moves_287) ?_
        refine g_pop h d_D_moves_290 rfl ?_
        refine g_iload_n h d_D_moves_291 rfl rfl ?_
        refine g_bipush (v := 7) h d_D_moves_292 (by decide) ?_
        refine g_icmp_eq (tgt := 305) h d_D_moves_294 (by decide) (fun c148 => ?_) (fun c148 => ?_)
        · have hw := o_t c148 hw
          refine g_iconst (v := 1) h d_D_moves_305 (by decide) ?_
          refine g_goto (tgt := 310) h d_D_moves_306 (by decide) ?_
          exact g_zret h hQ d_D_moves_310 rfl hw
        · have hw := o_f c148 hw
          refine g_aload_n h d_D_moves_297 rfl rfl ?_
          refine g_iload_n h d_D_moves_298 rfl rfl ?_
          obtain ⟨r151, M150, hc149, hw⟩ := o_b hw
          refine g_calli h (g_runV (rest := []) h (ct_D_put hL r134 M146 hc149) (cwV 1 h.2.2.2.2.1 (g_V m_ml_D_227 m_im_D_put m_se_D_put m_in_D m_co_D_put) rfl rfl rfl (by decide +kernel) ⟨Nat.le_of_ble_eq_true rfl, Nat.le_of_ble_eq_true rfl⟩) (hL.recv h rfl (by decide) ob_30) rfl rfl (Nat.le_of_ble_eq_true rfl) d_D_moves_299) ?_
          refine g_if_eq (tgt := 309) h d_D_moves_302 (by decide) (fun c152 => ?_) (fun c152 => ?_)
          · have hw := o_t c152 hw
            refine g_iconst (v := 0) h d_D_moves_309 (by decide) ?_
            exact g_zret h hQ d_D_moves_310 rfl hw
          · have hw := o_f c152 hw
            refine g_iconst (v := 1) h d_D_moves_305 (by decide) ?_
            refine g_goto (tgt := 310) h d_D_moves_306 (by decide) ?_
            exact g_zret h hQ d_D_moves_310 rfl hw
      · have hw := o_t c131 hw
        refine g_iconst (v := 0) h d_D_moves_255 (by decide) ?_
        exact g_zret h hQ d_D_moves_256 rfl hw
  have hw := o_f c153_7 hw
  refine g_tabOut (tgt := 311) h d_D_moves_1 (sw_out 0 8 (by decide) (by decide) (fun j hj => ?_)) (by decide) ?_
  · rcases (show j = 0 ∨ j = 1 ∨ j = 2 ∨ j = 3 ∨ j = 4 ∨ j = 5 ∨ j = 6 ∨ j = 7 by omega) with rfl | rfl | rfl | rfl | rfl | rfl | rfl | rfl
    · exact c153_0
    · exact c153_1
    · exact c153_2
    · exact c153_3
    · exact c153_4
    · exact c153_5
    · exact c153_6
    · exact c153_7
  refine g_aload_n h d_D_moves_311 rfl rfl ?_
  refine g_getI (t := 30) (i := 0) (k := 31) (C := "FlowGateModel") (T := T_D) (N := 42) h hL rfl (by decide) ob_30 (by decide) rfl (fun w hw => mc (in_D w hw)) (mc m_fl_D_183) rfl d_D_moves_312 ?_
  refine g_if_le (tgt := 336) h d_D_moves_315 (by decide) (fun c46 => ?_) (fun c46 => ?_)
  · have hw := o_t c46 hw
    refine g_sub [0] rfl ?_
    exact w_D_moves_b336 hL h hQ  M hw
  · have hw := o_f c46 hw
    refine g_aload_n h d_D_moves_318 rfl rfl ?_
    refine g_iconst (v := 0) h d_D_moves_319 (by decide) ?_
    obtain ⟨r49, M48, hc47, hw⟩ := o_b hw
    refine g_calli h (g_runV (rest := []) h (ct_D_single hL 0 M hc47) (cwV 1 h.2.2.2.2.1 (g_V m_ml_D_233 m_im_D_single m_se_D_single m_in_D m_co_D_single) rfl rfl rfl (by decide +kernel) ⟨Nat.le_of_ble_eq_true rfl, Nat.le_of_ble_eq_true rfl⟩) (hL.recv h rfl (by decide) ob_30) rfl rfl (Nat.le_of_ble_eq_true rfl) d_D_moves_320) ?_
    refine g_if_ne (tgt := 336) h d_D_moves_323 (by decide) (fun c50 => ?_) (fun c50 => ?_)
    · have hw := o_f c50 hw
      refine g_sub [0] rfl ?_
      exact w_D_moves_b336 hL h hQ  M48 hw
    · have hw := o_t c50 hw
      refine g_aload_n h d_D_moves_326 rfl rfl ?_
      refine g_aload_n h d_D_moves_327 rfl rfl ?_
      refine g_iconst (v := 0) h d_D_moves_328 (by decide) ?_
      obtain ⟨r53, M52, hc51, hw⟩ := o_b hw
      refine g_calli h (g_runV (rest := [.ref (za Z 30 0)]) h (ct_D_top hL 0 M48 hc51) (cwV 1 h.2.2.2.2.1 (g_V m_ml_D_214 m_im_D_top m_se_D_top m_in_D m_co_D_top) rfl rfl rfl (by decide +kernel) ⟨Nat.le_of_ble_eq_true rfl, Nat.le_of_ble_eq_true rfl⟩) (hL.recv h rfl (by decide) ob_30) rfl rfl (Nat.le_of_ble_eq_true rfl) d_D_moves_329) ?_
      obtain ⟨r56, M55, hc54, hw⟩ := o_b hw
      refine g_calli h (g_runV (rest := []) h (ct_D_put hL r53 M52 hc54) (cwV 1 h.2.2.2.2.1 (g_V m_ml_D_227 m_im_D_put m_se_D_put m_in_D m_co_D_put) rfl rfl rfl (by decide +kernel) ⟨Nat.le_of_ble_eq_true rfl, Nat.le_of_ble_eq_true rfl⟩) (hL.recv h rfl (by decide) ob_30) rfl rfl (Nat.le_of_ble_eq_true rfl) d_D_moves_332) ?_
      obtain ⟨hn57, hw⟩ := o_nz hw
      exact g_zret h hQ d_D_moves_335 hn57 hw
set_option maxHeartbeats 4000000 in
set_option maxRecDepth 100000 in
theorem ct_D_takes {Z : ZT} (hL : Lay Z sD) (v1 : Int32) (M : Mm)  {res : Int32 × Mm} (hw : F_D_takes v1 M = some res) : CtI Z y_D_takes ws_D_takes (({ frames := 2, cells := 0, slots := 0, locals := 40 })) [.ref (za Z 30 0), .int v1] M res := by
  refine CtI.of hL (cc := c_D_takes) (maxL := 2) (by decide) rfl (Nat.le_of_ble_eq_true rfl) (fun X h hQ => ?_)
  show G Z X M 0 [(0, .ref (za Z 30 0)), (1, .int v1)] []
  rw [F_D_takes] at hw
  refine g_aload_n h d_D_takes_0 rfl rfl ?_
  refine g_getI (t := 30) (i := 0) (k := 31) (C := "FlowGateModel") (T := T_D) (N := 42) h hL rfl (by decide) ob_30 (by decide) rfl (fun w hw => mc (in_D w hw)) (mc m_fl_D_183) rfl d_D_takes_1 ?_
  refine g_if_eq (tgt := 16) h d_D_takes_4 (by decide) (fun c1 => ?_) (fun c1 => ?_)
  · have hw := o_t c1 hw
    refine g_iconst (v := 0) h d_D_takes_16 (by decide) ?_
    exact g_zret h hQ d_D_takes_17 rfl hw
  · have hw := o_f c1 hw
    refine g_aload_n h d_D_takes_7 rfl rfl ?_
    refine g_iconst (v := 0) h d_D_takes_8 (by decide) ?_
    obtain ⟨r4, M3, hc2, hw⟩ := o_b hw
    refine g_calli h (g_runV (rest := []) h (ct_D_top hL 0 M hc2) (cwV 1 h.2.2.2.2.1 (g_V m_ml_D_214 m_im_D_top m_se_D_top m_in_D m_co_D_top) rfl rfl rfl (by decide +kernel) ⟨Nat.le_of_ble_eq_true rfl, Nat.le_of_ble_eq_true rfl⟩) (hL.recv h rfl (by decide) ob_30) rfl rfl (Nat.le_of_ble_eq_true rfl) d_D_takes_9) ?_
    refine g_iload_n h d_D_takes_12 rfl rfl ?_
    refine g_icmp_eq (tgt := 18) h d_D_takes_13 (by decide) (fun c5 => ?_) (fun c5 => ?_)
    · have hw := o_t c5 hw
      refine g_aload_n h d_D_takes_18 rfl rfl ?_
      obtain ⟨M7, hc6, hw⟩ := o_v hw
      refine g_callv h (g_runV (rest := []) h (ct_D_drop hL M3 hc6) (cwV 0 h.2.2.2.2.1 (g_V m_ml_D_218 m_im_D_drop m_se_D_drop m_in_D m_co_D_drop) rfl rfl rfl (by decide +kernel) ⟨Nat.le_of_ble_eq_true rfl, Nat.le_of_ble_eq_true rfl⟩) (hL.recv h rfl (by decide) ob_30) rfl rfl (Nat.le_of_ble_eq_true rfl) d_D_takes_19) ?_
      refine g_iconst (v := 1) h d_D_takes_22 (by decide) ?_
      exact g_zret h hQ d_D_takes_23 rfl hw
    · have hw := o_f c5 hw
      refine g_iconst (v := 0) h d_D_takes_16 (by decide) ?_
      exact g_zret h hQ d_D_takes_17 rfl hw
set_option maxHeartbeats 4000000 in
set_option maxRecDepth 100000 in
theorem w_D_takesRef_b30 {Z : ZT} {X : XT} (hL : Lay Z sD) (h : Ok Z X "FlowGateModel" c_D_takesRef ws_D_takesRef 1 ({ frames := 3, cells := 0, slots := 0, locals := 64 })) {res : Int32 × Mm} (hQ : FinI Z X .boolean res)   (M : Mm)  (hw : F_D_takesRef_b30 M = some res) : G Z X M 30 [(0, .ref (za Z 30 0))] [] := by
  rw [F_D_takesRef_b30] at hw
  refine g_aload_n h d_D_takesRef_30 rfl rfl ?_
  obtain ⟨M2, hc1, hw⟩ := o_v hw
  refine g_callv h (g_runV (rest := []) h (ct_D_drop hL M hc1) (cwV 0 h.2.2.2.2.1 (g_V m_ml_D_218 m_im_D_drop m_se_D_drop m_in_D m_co_D_drop) rfl rfl rfl (by decide +kernel) ⟨Nat.le_of_ble_eq_true rfl, Nat.le_of_ble_eq_true rfl⟩) (hL.recv h rfl (by decide) ob_30) rfl rfl (Nat.le_of_ble_eq_true rfl) d_D_takesRef_31) ?_
  refine g_iconst (v := 1) h d_D_takesRef_34 (by decide) ?_
  exact g_zret h hQ d_D_takesRef_35 rfl hw
set_option maxHeartbeats 4000000 in
set_option maxRecDepth 100000 in
theorem ct_D_takesRef {Z : ZT} (hL : Lay Z sD)  (M : Mm)  {res : Int32 × Mm} (hw : F_D_takesRef M = some res) : CtI Z y_D_takesRef ws_D_takesRef (({ frames := 3, cells := 0, slots := 0, locals := 64 })) [.ref (za Z 30 0)] M res := by
  refine CtI.of hL (cc := c_D_takesRef) (maxL := 1) (by decide) rfl (Nat.le_of_ble_eq_true rfl) (fun X h hQ => ?_)
  show G Z X M 0 [(0, .ref (za Z 30 0))] []
  rw [F_D_takesRef] at hw
  refine g_aload_n h d_D_takesRef_0 rfl rfl ?_
  refine g_getI (t := 30) (i := 0) (k := 31) (C := "FlowGateModel") (T := T_D) (N := 42) h hL rfl (by decide) ob_30 (by decide) rfl (fun w hw => mc (in_D w hw)) (mc m_fl_D_183) rfl d_D_takesRef_1 ?_
  refine g_if_eq (tgt := 28) h d_D_takesRef_4 (by decide) (fun c3 => ?_) (fun c3 => ?_)
  · have hw := o_t c3 hw
    refine g_iconst (v := 0) h d_D_takesRef_28 (by decide) ?_
    exact g_zret h hQ d_D_takesRef_29 rfl hw
  · have hw := o_f c3 hw
    refine g_aload_n h d_D_takesRef_7 rfl rfl ?_
    refine g_iconst (v := 0) h d_D_takesRef_8 (by decide) ?_
    obtain ⟨r6, M5, hc4, hw⟩ := o_b hw
    refine g_calli h (g_runV (rest := []) h (ct_D_top hL 0 M hc4) (cwV 1 h.2.2.2.2.1 (g_V m_ml_D_214 m_im_D_top m_se_D_top m_in_D m_co_D_top) rfl rfl rfl (by decide +kernel) ⟨Nat.le_of_ble_eq_true rfl, Nat.le_of_ble_eq_true rfl⟩) (hL.recv h rfl (by decide) ob_30) rfl rfl (Nat.le_of_ble_eq_true rfl) d_D_takesRef_9) ?_
    refine g_iconst (v := 5) h d_D_takesRef_12 (by decide) ?_
    refine g_icmp_eq (tgt := 30) h d_D_takesRef_13 (by decide) (fun c7 => ?_) (fun c7 => ?_)
    · have hw := o_t c7 hw
      refine g_sub [0] rfl ?_
      exact w_D_takesRef_b30 hL h hQ  M5 hw
    · have hw := o_f c7 hw
      refine g_aload_n h d_D_takesRef_16 rfl rfl ?_
      refine g_aload_n h d_D_takesRef_17 rfl rfl ?_
      refine g_iconst (v := 0) h d_D_takesRef_18 (by decide) ?_
      obtain ⟨r10, M9, hc8, hw⟩ := o_b hw
      refine g_calli h (g_runV (rest := [.ref (za Z 30 0)]) h (ct_D_top hL 0 M5 hc8) (cwV 1 h.2.2.2.2.1 (g_V m_ml_D_214 m_im_D_top m_se_D_top m_in_D m_co_D_top) rfl rfl rfl (by decide +kernel) ⟨Nat.le_of_ble_eq_true rfl, Nat.le_of_ble_eq_true rfl⟩) (hL.recv h rfl (by decide) ob_30) rfl rfl (Nat.le_of_ble_eq_true rfl) d_D_takesRef_19) ?_
      refine g_calli h (g_runV (rest := []) h (ct_D_isRef hL r10 M9 (p_D_isRef r10 M9)) (cwV 1 h.2.2.2.2.1 (g_V m_ml_D_99 m_im_D_isRef m_se_D_isRef m_in_D m_co_D_isRef) rfl rfl rfl (by decide +kernel) ⟨Nat.le_of_ble_eq_true rfl, Nat.le_of_ble_eq_true rfl⟩) (hL.recv h rfl (by decide) ob_30) rfl rfl (Nat.le_of_ble_eq_true rfl) d_D_takesRef_22) ?_
      refine g_topi (fun r12 er12 => ?_)
      have hw := o_l hw r12 er12
      refine g_if_ne (tgt := 30) h d_D_takesRef_25 (by decide) (fun c13 => ?_) (fun c13 => ?_)
      · have hw := o_f c13 hw
        refine g_sub [0] rfl ?_
        exact w_D_takesRef_b30 hL h hQ  M9 hw
      · have hw := o_t c13 hw
        refine g_iconst (v := 0) h d_D_takesRef_28 (by decide) ?_
        exact g_zret h hQ d_D_takesRef_29 rfl hw
set_option maxHeartbeats 4000000 in
set_option maxRecDepth 100000 in
theorem ct_D_takesFor {Z : ZT} (hL : Lay Z sD) (v1 : Int32) (M : Mm)  {res : Int32 × Mm} (hw : F_D_takesFor v1 M = some res) : CtI Z y_D_takesFor ws_D_takesFor (({ frames := 4, cells := 0, slots := 0, locals := 88 })) [.ref (za Z 30 0), .int v1] M res := by
  refine CtI.of hL (cc := c_D_takesFor) (maxL := 2) (by decide) rfl (Nat.le_of_ble_eq_true rfl) (fun X h hQ => ?_)
  show G Z X M 0 [(0, .ref (za Z 30 0)), (1, .int v1)] []
  rw [F_D_takesFor] at hw
  refine g_aload_n h d_D_takesFor_0 rfl rfl ?_
  refine g_getI (t := 30) (i := 0) (k := 31) (C := "FlowGateModel") (T := T_D) (N := 42) h hL rfl (by decide) ob_30 (by decide) rfl (fun w hw => mc (in_D w hw)) (mc m_fl_D_183) rfl d_D_takesFor_1 ?_
  refine g_if_eq (tgt := 20) h d_D_takesFor_4 (by decide) (fun c1 => ?_) (fun c1 => ?_)
  · have hw := o_t c1 hw
    refine g_iconst (v := 0) h d_D_takesFor_20 (by decide) ?_
    exact g_zret h hQ d_D_takesFor_21 rfl hw
  · have hw := o_f c1 hw
    refine g_aload_n h d_D_takesFor_7 rfl rfl ?_
    refine g_aload_n h d_D_takesFor_8 rfl rfl ?_
    refine g_iconst (v := 0) h d_D_takesFor_9 (by decide) ?_
    obtain ⟨r4, M3, hc2, hw⟩ := o_b hw
    refine g_calli h (g_runV (rest := [.ref (za Z 30 0)]) h (ct_D_top hL 0 M hc2) (cwV 1 h.2.2.2.2.1 (g_V m_ml_D_214 m_im_D_top m_se_D_top m_in_D m_co_D_top) rfl rfl rfl (by decide +kernel) ⟨Nat.le_of_ble_eq_true rfl, Nat.le_of_ble_eq_true rfl⟩) (hL.recv h rfl (by decide) ob_30) rfl rfl (Nat.le_of_ble_eq_true rfl) d_D_takesFor_10) ?_
    refine g_iload_n h d_D_takesFor_13 rfl rfl ?_
    obtain ⟨r7, M6, hc5, hw⟩ := o_b hw
    refine g_calli h (g_runV (rest := []) h (ct_D_goesFor hL r4 v1 M3 hc5) (cwV 2 h.2.2.2.2.1 (g_V m_ml_D_221 m_im_D_goesFor m_se_D_goesFor m_in_D m_co_D_goesFor) rfl rfl rfl (by decide +kernel) ⟨Nat.le_of_ble_eq_true rfl, Nat.le_of_ble_eq_true rfl⟩) (hL.recv h rfl (by decide) ob_30) rfl rfl (Nat.le_of_ble_eq_true rfl) d_D_takesFor_14) ?_
    refine g_if_ne (tgt := 22) h d_D_takesFor_17 (by decide) (fun c8 => ?_) (fun c8 => ?_)
    · have hw := o_f c8 hw
      refine g_aload_n h d_D_takesFor_22 rfl rfl ?_
      obtain ⟨M10, hc9, hw⟩ := o_v hw
      refine g_callv h (g_runV (rest := []) h (ct_D_drop hL M6 hc9) (cwV 0 h.2.2.2.2.1 (g_V m_ml_D_218 m_im_D_drop m_se_D_drop m_in_D m_co_D_drop) rfl rfl rfl (by decide +kernel) ⟨Nat.le_of_ble_eq_true rfl, Nat.le_of_ble_eq_true rfl⟩) (hL.recv h rfl (by decide) ob_30) rfl rfl (Nat.le_of_ble_eq_true rfl) d_D_takesFor_23) ?_
      refine g_iconst (v := 1) h d_D_takesFor_26 (by decide) ?_
      exact g_zret h hQ d_D_takesFor_27 rfl hw
    · have hw := o_t c8 hw
      refine g_iconst (v := 0) h d_D_takesFor_20 (by decide) ?_
      exact g_zret h hQ d_D_takesFor_21 rfl hw
