set_option maxHeartbeats 4000000 in
set_option maxRecDepth 100000 in
theorem ct_D_isPlain {Z : ZT} (hL : Lay Z sD) (v1 : Int32) (M : Mm)  {res : Int32 × Mm} (hw : F_D_isPlain v1 M = some res) : CtI Z y_D_isPlain ws_D_isPlain (({ frames := 3, cells := 0, slots := 0, locals := 64 })) [.ref (za Z 30 0), .int v1] M res := by
  refine CtI.of hL (cc := c_D_isPlain) (maxL := 2) (by decide) rfl (Nat.le_of_ble_eq_true rfl) (fun X h hQ => ?_)
  show G Z X M 0 [(0, .ref (za Z 30 0)), (1, .int v1)] []
  rw [F_D_isPlain] at hw
  refine g_iload_n h d_D_isPlain_0 rfl rfl ?_
  refine g_iconst (v := 1) h d_D_isPlain_1 (by decide) ?_
  refine g_iconst (v := 4) h d_D_isPlain_2 (by decide) ?_
  refine g_calli h (g_runS (rest := []) h (ct_D_in hL v1 1 4 M (p_D_in v1 1 4 M)) (cwS 3 h.2.2.2.2.1 (g_S m_ml_D_91 m_st_D_in m_in_D m_co_D_in) rfl rfl rfl (by decide +kernel) ⟨Nat.le_of_ble_eq_true rfl, Nat.le_of_ble_eq_true rfl⟩) rfl rfl (Nat.le_of_ble_eq_true rfl) d_D_isPlain_3) ?_
  refine g_topi (fun r2 er2 => ?_)
  have hw := o_l hw r2 er2
  refine g_if_ne (tgt := 17) h d_D_isPlain_6 (by decide) (fun c3 => ?_) (fun c3 => ?_)
  · have hw := o_f c3 hw
    refine g_iconst (v := 1) h d_D_isPlain_17 (by decide) ?_
    refine g_goto (tgt := 22) h d_D_isPlain_18 (by decide) ?_
    exact g_zret h hQ d_D_isPlain_22 rfl hw
  · have hw := o_t c3 hw
    refine g_aload_n h d_D_isPlain_9 rfl rfl ?_
    refine g_iload_n h d_D_isPlain_10 rfl rfl ?_
    refine g_calli h (g_runV (rest := []) h (ct_D_isRef hL v1 M (p_D_isRef v1 M)) (cwV 1 h.2.2.2.2.1 (g_V m_ml_D_99 m_im_D_isRef m_se_D_isRef m_in_D m_co_D_isRef) rfl rfl rfl (by decide +kernel) ⟨Nat.le_of_ble_eq_true rfl, Nat.le_of_ble_eq_true rfl⟩) (hL.recv h rfl (by decide) ob_30) rfl rfl (Nat.le_of_ble_eq_true rfl) d_D_isPlain_11) ?_
    refine g_topi (fun r5 er5 => ?_)
    have hw := o_l hw r5 er5
    refine g_if_eq (tgt := 21) h d_D_isPlain_14 (by decide) (fun c6 => ?_) (fun c6 => ?_)
    · have hw := o_t c6 hw
      refine g_iconst (v := 0) h d_D_isPlain_21 (by decide) ?_
      exact g_zret h hQ d_D_isPlain_22 rfl hw
    · have hw := o_f c6 hw
      refine g_iconst (v := 1) h d_D_isPlain_17 (by decide) ?_
      refine g_goto (tgt := 22) h d_D_isPlain_18 (by decide) ?_
      exact g_zret h hQ d_D_isPlain_22 rfl hw
set_option maxHeartbeats 4000000 in
set_option maxRecDepth 100000 in
theorem w_D_begin_b12 {Z : ZT} {X : XT} (hL : Lay Z sD) (h : Ok Z X "FlowGateModel" c_D_begin ws_D_begin 4 ({ frames := 4, cells := 0, slots := 0, locals := 85 })) {res : Int32 × Mm} (hQ : FinI Z X .int res)  (v1 : Int32) (v2 : Int32) (v3 : Int32) (M : Mm)  (hw : F_D_begin_b12 v1 v2 v3 M = some res) : G Z X M 12 [(0, .ref (za Z 30 0)), (1, .int v1), (2, .int v2), (3, .int v3)] [] := by
  rw [F_D_begin_b12] at hw
  refine g_iload_n h d_D_begin_12 rfl rfl ?_
  refine g_iconst (v := 0) h d_D_begin_13 (by decide) ?_
  refine g_bipush (v := 12) h d_D_begin_14 (by decide) ?_
  refine g_calli h (g_runS (rest := []) h (ct_D_in hL v2 0 12 M (p_D_in v2 0 12 M)) (cwS 3 h.2.2.2.2.1 (g_S m_ml_D_91 m_st_D_in m_in_D m_co_D_in) rfl rfl rfl (by decide +kernel) ⟨Nat.le_of_ble_eq_true rfl, Nat.le_of_ble_eq_true rfl⟩) rfl rfl (Nat.le_of_ble_eq_true rfl) d_D_begin_16) ?_
  refine g_topi (fun r2 er2 => ?_)
  have hw := o_l hw r2 er2
  refine g_if_eq (tgt := 32) h d_D_begin_19 (by decide) (fun c3 => ?_) (fun c3 => ?_)
  · have hw := o_t c3 hw
    refine g_iconst (v := -1) h d_D_begin_32 (by decide) ?_
    exact g_iret h hQ d_D_begin_33 hw
  · have hw := o_f c3 hw
    refine g_iload_n h d_D_begin_22 rfl rfl ?_
    refine g_iconst (v := 0) h d_D_begin_23 (by decide) ?_
    refine g_bipush (v := 12) h d_D_begin_24 (by decide) ?_
    refine g_calli h (g_runS (rest := []) h (ct_D_in hL v3 0 12 M (p_D_in v3 0 12 M)) (cwS 3 h.2.2.2.2.1 (g_S m_ml_D_91 m_st_D_in m_in_D m_co_D_in) rfl rfl rfl (by decide +kernel) ⟨Nat.le_of_ble_eq_true rfl, Nat.le_of_ble_eq_true rfl⟩) rfl rfl (Nat.le_of_ble_eq_true rfl) d_D_begin_26) ?_
    refine g_topi (fun r5 er5 => ?_)
    have hw := o_l hw r5 er5
    refine g_if_ne (tgt := 34) h d_D_begin_29 (by decide) (fun c6 => ?_) (fun c6 => ?_)
    · have hw := o_f c6 hw
      refine g_aload_n h d_D_begin_34 rfl rfl ?_
      refine g_iload_n h d_D_begin_35 rfl rfl ?_
      refine g_putI (t := 30) (i := 0) (k := 14) (C := "FlowGateModel") (T := T_D) (N := 42) h hL rfl (by decide) ob_30 (by decide) rfl (fun w hw => mc (in_D w hw)) ty_D ty_D_ok nm_D (mc m_fl_D_109) rfl rfl rfl d_D_begin_36 ?_
      refine g_mem (fun M7 eM7 => ?_)
      have hw := o_l hw M7 eM7
      refine g_aload_n h d_D_begin_39 rfl rfl ?_
      refine g_iload_n h d_D_begin_40 rfl rfl ?_
      refine g_putI (t := 30) (i := 0) (k := 15) (C := "FlowGateModel") (T := T_D) (N := 42) h hL rfl (by decide) ob_30 (by decide) rfl (fun w hw => mc (in_D w hw)) ty_D ty_D_ok nm_D (mc m_fl_D_112) rfl rfl rfl d_D_begin_41 ?_
      refine g_mem (fun M8 eM8 => ?_)
      have hw := o_l hw M8 eM8
      refine g_aload_n h d_D_begin_44 rfl rfl ?_
      refine g_iload_n h d_D_begin_45 rfl rfl ?_
      refine g_putI (t := 30) (i := 0) (k := 16) (C := "FlowGateModel") (T := T_D) (N := 42) h hL rfl (by decide) ob_30 (by decide) rfl (fun w hw => mc (in_D w hw)) ty_D ty_D_ok nm_D (mc m_fl_D_115) rfl rfl rfl d_D_begin_46 ?_
      refine g_mem (fun M9 eM9 => ?_)
      have hw := o_l hw M9 eM9
      refine g_aload_n h d_D_begin_49 rfl rfl ?_
      refine g_iconst (v := 0) h d_D_begin_50 (by decide) ?_
      refine g_putI (t := 30) (i := 0) (k := 11) (C := "FlowGateModel") (T := T_D) (N := 42) h hL rfl (by decide) ob_30 (by decide) rfl (fun w hw => mc (in_D w hw)) ty_D ty_D_ok nm_D (mc m_fl_D_118) rfl rfl rfl d_D_begin_51 ?_
      refine g_mem (fun M10 eM10 => ?_)
      have hw := o_l hw M10 eM10
      refine g_aload_n h d_D_begin_54 rfl rfl ?_
      refine g_iconst (v := 0) h d_D_begin_55 (by decide) ?_
      refine g_putI (t := 30) (i := 0) (k := 12) (C := "FlowGateModel") (T := T_D) (N := 42) h hL rfl (by decide) ob_30 (by decide) rfl (fun w hw => mc (in_D w hw)) ty_D ty_D_ok nm_D (mc m_fl_D_121) rfl rfl rfl d_D_begin_56 ?_
      refine g_mem (fun M11 eM11 => ?_)
      have hw := o_l hw M11 eM11
      refine g_aload_n h d_D_begin_59 rfl rfl ?_
      refine g_iconst (v := 0) h d_D_begin_60 (by decide) ?_
      refine g_putI (t := 30) (i := 0) (k := 13) (C := "FlowGateModel") (T := T_D) (N := 42) h hL rfl (by decide) ob_30 (by decide) rfl (fun w hw => mc (in_D w hw)) ty_D ty_D_ok nm_D (mc m_fl_D_124) rfl rfl rfl d_D_begin_61 ?_
      refine g_mem (fun M12 eM12 => ?_)
      have hw := o_l hw M12 eM12
      refine g_iconst (v := 1) h d_D_begin_64 (by decide) ?_
      exact g_iret h hQ d_D_begin_65 hw
    · have hw := o_t c6 hw
      refine g_iconst (v := -1) h d_D_begin_32 (by decide) ?_
      exact g_iret h hQ d_D_begin_33 hw
set_option maxHeartbeats 4000000 in
set_option maxRecDepth 100000 in
theorem ct_D_begin {Z : ZT} (hL : Lay Z sD) (v1 : Int32) (v2 : Int32) (v3 : Int32) (M : Mm)  {res : Int32 × Mm} (hw : F_D_begin v1 v2 v3 M = some res) : CtI Z y_D_begin ws_D_begin (({ frames := 4, cells := 0, slots := 0, locals := 85 })) [.ref (za Z 30 0), .int v1, .int v2, .int v3] M res := by
  refine CtI.of hL (cc := c_D_begin) (maxL := 4) (by decide) rfl (Nat.le_of_ble_eq_true rfl) (fun X h hQ => ?_)
  show G Z X M 0 [(0, .ref (za Z 30 0)), (1, .int v1), (2, .int v2), (3, .int v3)] []
  rw [F_D_begin] at hw
  refine g_iload_n h d_D_begin_0 rfl rfl ?_
  refine g_if_eq (tgt := 12) h d_D_begin_1 (by decide) (fun c13 => ?_) (fun c13 => ?_)
  · have hw := o_t c13 hw
    refine g_sub [0, 1, 2, 3] rfl ?_
    exact w_D_begin_b12 hL h hQ  v1 v2 v3 M hw
  · have hw := o_f c13 hw
    refine g_aload_n h d_D_begin_4 rfl rfl ?_
    refine g_iload_n h d_D_begin_5 rfl rfl ?_
    refine g_calli h (g_runV (rest := []) h (ct_D_isPlain hL v1 M (p_D_isPlain v1 M)) (cwV 1 h.2.2.2.2.1 (g_V m_ml_D_106 m_im_D_isPlain m_se_D_isPlain m_in_D m_co_D_isPlain) rfl rfl rfl (by decide +kernel) ⟨Nat.le_of_ble_eq_true rfl, Nat.le_of_ble_eq_true rfl⟩) (hL.recv h rfl (by decide) ob_30) rfl rfl (Nat.le_of_ble_eq_true rfl) d_D_begin_6) ?_
    refine g_topi (fun r15 er15 => ?_)
    have hw := o_l hw r15 er15
    refine g_if_eq (tgt := 32) h d_D_begin_9 (by decide) (fun c16 => ?_) (fun c16 => ?_)
    · have hw := o_t c16 hw
      refine g_iconst (v := -1) h d_D_begin_32 (by decide) ?_
      exact g_iret h hQ d_D_begin_33 hw
    · have hw := o_f c16 hw
      refine g_sub [0, 1, 2, 3] rfl ?_
      exact w_D_begin_b12 hL h hQ  v1 v2 v3 M hw
set_option maxHeartbeats 4000000 in
set_option maxRecDepth 100000 in
theorem ct_D_argument {Z : ZT} (hL : Lay Z sD) (v1 : Int32) (M : Mm)  {res : Int32 × Mm} (hw : F_D_argument v1 M = some res) : CtI Z y_D_argument ws_D_argument (({ frames := 4, cells := 0, slots := 0, locals := 85 })) [.ref (za Z 30 0), .int v1] M res := by
  refine CtI.of hL (cc := c_D_argument) (maxL := 2) (by decide) rfl (Nat.le_of_ble_eq_true rfl) (fun X h hQ => ?_)
  show G Z X M 0 [(0, .ref (za Z 30 0)), (1, .int v1)] []
  rw [F_D_argument] at hw
  refine g_aload_n h d_D_argument_0 rfl rfl ?_
  refine g_iload_n h d_D_argument_1 rfl rfl ?_
  refine g_calli h (g_runV (rest := []) h (ct_D_isPlain hL v1 M (p_D_isPlain v1 M)) (cwV 1 h.2.2.2.2.1 (g_V m_ml_D_106 m_im_D_isPlain m_se_D_isPlain m_in_D m_co_D_isPlain) rfl rfl rfl (by decide +kernel) ⟨Nat.le_of_ble_eq_true rfl, Nat.le_of_ble_eq_true rfl⟩) (hL.recv h rfl (by decide) ob_30) rfl rfl (Nat.le_of_ble_eq_true rfl) d_D_argument_2) ?_
  refine g_topi (fun r2 er2 => ?_)
  have hw := o_l hw r2 er2
  refine g_if_ne (tgt := 10) h d_D_argument_5 (by decide) (fun c3 => ?_) (fun c3 => ?_)
  · have hw := o_f c3 hw
    refine g_aload_n h d_D_argument_10 rfl rfl ?_
    refine g_getI (t := 30) (i := 0) (k := 13) (C := "FlowGateModel") (T := T_D) (N := 42) h hL rfl (by decide) ob_30 (by decide) rfl (fun w hw => mc (in_D w hw)) (mc m_fl_D_124) rfl d_D_argument_11 ?_
    refine g_bipush (v := 6) h d_D_argument_14 (by decide) ?_
    refine g_icmp_ne (tgt := 22) h d_D_argument_16 (by decide) (fun c4 => ?_) (fun c4 => ?_)
    · have hw := o_f c4 hw
      refine g_aload_n h d_D_argument_22 rfl rfl ?_
      refine g_getR (t := 30) (i := 0) (k := 10) (C := "FlowGateModel") (T := T_D) (N := 42) h hL rfl (by decide) ob_30 (by decide) rfl (t' := 40) (i' := 0) rfl rfl (fun w hw => mc (in_D w hw)) (mc m_fl_D_42) rfl d_D_argument_23 ?_
      refine g_aload_n h d_D_argument_26 rfl rfl ?_
      refine g_getI (t := 30) (i := 0) (k := 13) (C := "FlowGateModel") (T := T_D) (N := 42) h hL rfl (by decide) ob_30 (by decide) rfl (fun w hw => mc (in_D w hw)) (mc m_fl_D_124) rfl d_D_argument_27 ?_
      refine g_iload_n h d_D_argument_30 rfl rfl ?_
      obtain ⟨hv5, hw⟩ := o_in hw
      refine g_iast (t := 40) (i := 0) h hL rfl (by decide) rfl rfl hv5 d_D_argument_31 ?_
      refine g_mem (fun M6 eM6 => ?_)
      have hw := o_l hw M6 eM6
      refine g_aload_n h d_D_argument_32 rfl rfl ?_
      refine g_dup h d_D_argument_33 rfl ?_
      refine g_getI (t := 30) (i := 0) (k := 13) (C := "FlowGateModel") (T := T_D) (N := 42) h hL rfl (by decide) ob_30 (by decide) rfl (fun w hw => mc (in_D w hw)) (mc m_fl_D_124) rfl d_D_argument_34 ?_
      refine g_iconst (v := 1) h d_D_argument_37 (by decide) ?_
      refine g_iadd h d_D_argument_38 ?_
      refine g_putI (t := 30) (i := 0) (k := 13) (C := "FlowGateModel") (T := T_D) (N := 42) h hL rfl (by decide) ob_30 (by decide) rfl (fun w hw => mc (in_D w hw)) ty_D ty_D_ok nm_D (mc m_fl_D_124) rfl rfl rfl d_D_argument_39 ?_
      refine g_mem (fun M7 eM7 => ?_)
      have hw := o_l hw M7 eM7
      refine g_aload_n h d_D_argument_42 rfl rfl ?_
      refine g_getI (t := 30) (i := 0) (k := 13) (C := "FlowGateModel") (T := T_D) (N := 42) h hL rfl (by decide) ob_30 (by decide) rfl (fun w hw => mc (in_D w hw)) (mc m_fl_D_124) rfl d_D_argument_43 ?_
      exact g_iret h hQ d_D_argument_46 hw
    · have hw := o_t c4 hw
      refine g_bipush (v := -2) h d_D_argument_19 (by decide) ?_
      exact g_iret h hQ d_D_argument_21 hw
  · have hw := o_t c3 hw
    refine g_iconst (v := -1) h d_D_argument_8 (by decide) ?_
    exact g_iret h hQ d_D_argument_9 hw
set_option maxHeartbeats 4000000 in
set_option maxRecDepth 100000 in
theorem ct_D_add {Z : ZT} (hL : Lay Z sD) (v1 : Int32) (v2 : Int32) (v3 : Int32) (M : Mm)  {res : Int32 × Mm} (hw : F_D_add v1 v2 v3 M = some res) : CtI Z y_D_add ws_D_add (({ frames := 1, cells := 0, slots := 0, locals := 22 })) [.ref (za Z 30 0), .int v1, .int v2, .int v3] M res := by
  refine CtI.of hL (cc := c_D_add) (maxL := 4) (by decide) rfl (Nat.le_of_ble_eq_true rfl) (fun X h hQ => ?_)
  show G Z X M 0 [(0, .ref (za Z 30 0)), (1, .int v1), (2, .int v2), (3, .int v3)] []
  rw [F_D_add] at hw
  refine g_iload_n h d_D_add_0 rfl rfl ?_
  refine g_iconst (v := 0) h d_D_add_1 (by decide) ?_
  refine g_bipush (v := 30) h d_D_add_2 (by decide) ?_
  refine g_calli h (g_runS (rest := []) h (ct_D_in hL v1 0 30 M (p_D_in v1 0 30 M)) (cwS 3 h.2.2.2.2.1 (g_S m_ml_D_91 m_st_D_in m_in_D m_co_D_in) rfl rfl rfl (by decide +kernel) ⟨Nat.le_of_ble_eq_true rfl, Nat.le_of_ble_eq_true rfl⟩) rfl rfl (Nat.le_of_ble_eq_true rfl) d_D_add_4) ?_
  refine g_topi (fun r2 er2 => ?_)
  have hw := o_l hw r2 er2
  refine g_if_ne (tgt := 12) h d_D_add_7 (by decide) (fun c3 => ?_) (fun c3 => ?_)
  · have hw := o_f c3 hw
    refine g_aload_n h d_D_add_12 rfl rfl ?_
    refine g_getI (t := 30) (i := 0) (k := 11) (C := "FlowGateModel") (T := T_D) (N := 42) h hL rfl (by decide) ob_30 (by decide) rfl (fun w hw => mc (in_D w hw)) (mc m_fl_D_118) rfl d_D_add_13 ?_
    refine g_bipush (v := 48) h d_D_add_16 (by decide) ?_
    refine g_icmp_ne (tgt := 24) h d_D_add_18 (by decide) (fun c4 => ?_) (fun c4 => ?_)
    · have hw := o_f c4 hw
      refine g_aload_n h d_D_add_24 rfl rfl ?_
      refine g_getR (t := 30) (i := 0) (k := 3) (C := "FlowGateModel") (T := T_D) (N := 42) h hL rfl (by decide) ob_30 (by decide) rfl (t' := 33) (i' := 0) rfl rfl (fun w hw => mc (in_D w hw)) (mc m_fl_D_21) rfl d_D_add_25 ?_
      refine g_aload_n h d_D_add_28 rfl rfl ?_
      refine g_getI (t := 30) (i := 0) (k := 11) (C := "FlowGateModel") (T := T_D) (N := 42) h hL rfl (by decide) ob_30 (by decide) rfl (fun w hw => mc (in_D w hw)) (mc m_fl_D_118) rfl d_D_add_29 ?_
      refine g_iload_n h d_D_add_32 rfl rfl ?_
      obtain ⟨hv5, hw⟩ := o_in hw
      refine g_iast (t := 33) (i := 0) h hL rfl (by decide) rfl rfl hv5 d_D_add_33 ?_
      refine g_mem (fun M6 eM6 => ?_)
      have hw := o_l hw M6 eM6
      refine g_aload_n h d_D_add_34 rfl rfl ?_
      refine g_getR (t := 30) (i := 0) (k := 4) (C := "FlowGateModel") (T := T_D) (N := 42) h hL rfl (by decide) ob_30 (by decide) rfl (t' := 34) (i' := 0) rfl rfl (fun w hw => mc (in_D w hw)) (mc m_fl_D_24) rfl d_D_add_35 ?_
      refine g_aload_n h d_D_add_38 rfl rfl ?_
      refine g_getI (t := 30) (i := 0) (k := 11) (C := "FlowGateModel") (T := T_D) (N := 42) h hL rfl (by decide) ob_30 (by decide) rfl (fun w hw => mc (in_D w hw)) (mc m_fl_D_118) rfl d_D_add_39 ?_
      refine g_iload_n h d_D_add_42 rfl rfl ?_
      obtain ⟨hv7, hw⟩ := o_in hw
      refine g_iast (t := 34) (i := 0) h hL rfl (by decide) rfl rfl hv7 d_D_add_43 ?_
      refine g_mem (fun M8 eM8 => ?_)
      have hw := o_l hw M8 eM8
      refine g_aload_n h d_D_add_44 rfl rfl ?_
      refine g_getR (t := 30) (i := 0) (k := 5) (C := "FlowGateModel") (T := T_D) (N := 42) h hL rfl (by decide) ob_30 (by decide) rfl (t' := 35) (i' := 0) rfl rfl (fun w hw => mc (in_D w hw)) (mc m_fl_D_27) rfl d_D_add_45 ?_
      refine g_aload_n h d_D_add_48 rfl rfl ?_
      refine g_getI (t := 30) (i := 0) (k := 11) (C := "FlowGateModel") (T := T_D) (N := 42) h hL rfl (by decide) ob_30 (by decide) rfl (fun w hw => mc (in_D w hw)) (mc m_fl_D_118) rfl d_D_add_49 ?_
      refine g_iload_n h d_D_add_52 rfl rfl ?_
      obtain ⟨hv9, hw⟩ := o_in hw
      refine g_iast (t := 35) (i := 0) h hL rfl (by decide) rfl rfl hv9 d_D_add_53 ?_
      refine g_mem (fun M10 eM10 => ?_)
      have hw := o_l hw M10 eM10
      refine g_aload_n h d_D_add_54 rfl rfl ?_
      refine g_dup h d_D_add_55 rfl ?_
      refine g_getI (t := 30) (i := 0) (k := 11) (C := "FlowGateModel") (T := T_D) (N := 42) h hL rfl (by decide) ob_30 (by decide) rfl (fun w hw => mc (in_D w hw)) (mc m_fl_D_118) rfl d_D_add_56 ?_
      refine g_iconst (v := 1) h d_D_add_59 (by decide) ?_
      refine g_iadd h d_D_add_60 ?_
      refine g_putI (t := 30) (i := 0) (k := 11) (C := "FlowGateModel") (T := T_D) (N := 42) h hL rfl (by decide) ob_30 (by decide) rfl (fun w hw => mc (in_D w hw)) ty_D ty_D_ok nm_D (mc m_fl_D_118) rfl rfl rfl d_D_add_61 ?_
      refine g_mem (fun M11 eM11 => ?_)
      have hw := o_l hw M11 eM11
      refine g_aload_n h d_D_add_64 rfl rfl ?_
      refine g_getI (t := 30) (i := 0) (k := 11) (C := "FlowGateModel") (T := T_D) (N := 42) h hL rfl (by decide) ob_30 (by decide) rfl (fun w hw => mc (in_D w hw)) (mc m_fl_D_118) rfl d_D_add_65 ?_
      refine g_iconst (v := 1) h d_D_add_68 (by decide) ?_
      refine g_isub h d_D_add_69 ?_
      exact g_iret h hQ d_D_add_70 hw
    · have hw := o_t c4 hw
      refine g_bipush (v := -2) h d_D_add_21 (by decide) ?_
      exact g_iret h hQ d_D_add_23 hw
  · have hw := o_t c3 hw
    refine g_iconst (v := -1) h d_D_add_10 (by decide) ?_
    exact g_iret h hQ d_D_add_11 hw
set_option maxHeartbeats 4000000 in
set_option maxRecDepth 100000 in
theorem ct_D_change {Z : ZT} (hL : Lay Z sD) (v1 : Int32) (v2 : Int32) (v3 : Int32) (v4 : Int32) (M : Mm)  {res : Int32 × Mm} (hw : F_D_change v1 v2 v3 v4 M = some res) : CtI Z y_D_change ws_D_change (({ frames := 1, cells := 0, slots := 0, locals := 22 })) [.ref (za Z 30 0), .int v1, .int v2, .int v3, .int v4] M res := by
  refine CtI.of hL (cc := c_D_change) (maxL := 6) (by decide) rfl (Nat.le_of_ble_eq_true rfl) (fun X h hQ => ?_)
  show G Z X M 0 [(0, .ref (za Z 30 0)), (1, .int v1), (2, .int v2), (3, .int v3), (4, .int v4)] []
  rw [F_D_change] at hw
  refine g_iload_n h d_D_change_0 rfl rfl ?_
  refine g_iconst (v := 0) h d_D_change_1 (by decide) ?_
  refine g_aload_n h d_D_change_2 rfl rfl ?_
  refine g_getI (t := 30) (i := 0) (k := 11) (C := "FlowGateModel") (T := T_D) (N := 42) h hL rfl (by decide) ob_30 (by decide) rfl (fun w hw => mc (in_D w hw)) (mc m_fl_D_118) rfl d_D_change_3 ?_
  refine g_iconst (v := 1) h d_D_change_6 (by decide) ?_
  refine g_isub h d_D_change_7 ?_
  refine g_calli h (g_runS (rest := []) h (ct_D_in hL v1 0 ((M.1 30 0 11) - 1) M (p_D_in v1 0 ((M.1 30 0 11) - 1) M)) (cwS 3 h.2.2.2.2.1 (g_S m_ml_D_91 m_st_D_in m_in_D m_co_D_in) rfl rfl rfl (by decide +kernel) ⟨Nat.le_of_ble_eq_true rfl, Nat.le_of_ble_eq_true rfl⟩) rfl rfl (Nat.le_of_ble_eq_true rfl) d_D_change_8) ?_
  refine g_topi (fun r2 er2 => ?_)
  have hw := o_l hw r2 er2
  refine g_if_eq (tgt := 24) h d_D_change_11 (by decide) (fun c3 => ?_) (fun c3 => ?_)
  · have hw := o_t c3 hw
    refine g_iconst (v := -1) h d_D_change_24 (by decide) ?_
    exact g_iret h hQ d_D_change_25 hw
  · have hw := o_f c3 hw
    refine g_iload_n h d_D_change_14 rfl rfl ?_
    refine g_iconst (v := 0) h d_D_change_15 (by decide) ?_
    refine g_bipush (v := 30) h d_D_change_16 (by decide) ?_
    refine g_calli h (g_runS (rest := []) h (ct_D_in hL v2 0 30 M (p_D_in v2 0 30 M)) (cwS 3 h.2.2.2.2.1 (g_S m_ml_D_91 m_st_D_in m_in_D m_co_D_in) rfl rfl rfl (by decide +kernel) ⟨Nat.le_of_ble_eq_true rfl, Nat.le_of_ble_eq_true rfl⟩) rfl rfl (Nat.le_of_ble_eq_true rfl) d_D_change_18) ?_
    refine g_topi (fun r5 er5 => ?_)
    have hw := o_l hw r5 er5
    refine g_if_ne (tgt := 26) h d_D_change_21 (by decide) (fun c6 => ?_) (fun c6 => ?_)
    · have hw := o_f c6 hw
      refine g_aload_n h d_D_change_26 rfl rfl ?_
      refine g_getR (t := 30) (i := 0) (k := 3) (C := "FlowGateModel") (T := T_D) (N := 42) h hL rfl (by decide) ob_30 (by decide) rfl (t' := 33) (i' := 0) rfl rfl (fun w hw => mc (in_D w hw)) (mc m_fl_D_21) rfl d_D_change_27 ?_
      refine g_iload_n h d_D_change_30 rfl rfl ?_
      obtain ⟨hv7, hw⟩ := o_in hw
      refine g_iald (t := 33) (i := 0) h hL rfl (by decide) rfl rfl hv7 d_D_change_31 ?_
      refine g_topi (fun n8 en8 => ?_)
      have hw := o_l hw n8 en8
      refine g_istore (lv' := [(5, .int n8), (0, .ref (za Z 30 0)), (1, .int v1), (2, .int v2), (3, .int v3), (4, .int v4)]) h d_D_change_32 (by decide) rfl ?_
      refine g_aload_n h d_D_change_34 rfl rfl ?_
      refine g_getR (t := 30) (i := 0) (k := 3) (C := "FlowGateModel") (T := T_D) (N := 42) h hL rfl (by decide) ob_30 (by decide) rfl (t' := 33) (i' := 0) rfl rfl (fun w hw => mc (in_D w hw)) (mc m_fl_D_21) rfl d_D_change_35 ?_
      refine g_iload_n h d_D_change_38 rfl rfl ?_
      refine g_iload_n h d_D_change_39 rfl rfl ?_
      obtain ⟨hv9, hw⟩ := o_in hw
      refine g_iast (t := 33) (i := 0) h hL rfl (by decide) rfl rfl hv9 d_D_change_40 ?_
      refine g_mem (fun M10 eM10 => ?_)
      have hw := o_l hw M10 eM10
      refine g_aload_n h d_D_change_41 rfl rfl ?_
      refine g_getR (t := 30) (i := 0) (k := 4) (C := "FlowGateModel") (T := T_D) (N := 42) h hL rfl (by decide) ob_30 (by decide) rfl (t' := 34) (i' := 0) rfl rfl (fun w hw => mc (in_D w hw)) (mc m_fl_D_24) rfl d_D_change_42 ?_
      refine g_iload_n h d_D_change_45 rfl rfl ?_
      refine g_iload_n h d_D_change_46 rfl rfl ?_
      obtain ⟨hv11, hw⟩ := o_in hw
      refine g_iast (t := 34) (i := 0) h hL rfl (by decide) rfl rfl hv11 d_D_change_47 ?_
      refine g_mem (fun M12 eM12 => ?_)
      have hw := o_l hw M12 eM12
      refine g_aload_n h d_D_change_48 rfl rfl ?_
      refine g_getR (t := 30) (i := 0) (k := 5) (C := "FlowGateModel") (T := T_D) (N := 42) h hL rfl (by decide) ob_30 (by decide) rfl (t' := 35) (i' := 0) rfl rfl (fun w hw => mc (in_D w hw)) (mc m_fl_D_27) rfl d_D_change_49 ?_
      refine g_iload_n h d_D_change_52 rfl rfl ?_
      refine g_iload h d_D_change_53 rfl ?_
      obtain ⟨hv13, hw⟩ := o_in hw
      refine g_iast (t := 35) (i := 0) h hL rfl (by decide) rfl rfl hv13 d_D_change_55 ?_
      refine g_mem (fun M14 eM14 => ?_)
      have hw := o_l hw M14 eM14
      refine g_iload h d_D_change_56 rfl ?_
      exact g_iret h hQ d_D_change_58 hw
    · have hw := o_t c6 hw
      refine g_iconst (v := -1) h d_D_change_24 (by decide) ?_
      exact g_iret h hQ d_D_change_25 hw
set_option maxHeartbeats 4000000 in
set_option maxRecDepth 100000 in
theorem ct_D_handler {Z : ZT} (hL : Lay Z sD) (v1 : Int32) (v2 : Int32) (v3 : Int32) (v4 : Int32) (M : Mm)  {res : Int32 × Mm} (hw : F_D_handler v1 v2 v3 v4 M = some res) : CtI Z y_D_handler ws_D_handler (({ frames := 0, cells := 0, slots := 0, locals := 0 })) [.ref (za Z 30 0), .int v1, .int v2, .int v3, .int v4] M res := by
  refine CtI.of hL (cc := c_D_handler) (maxL := 5) (by decide) rfl (Nat.le_of_ble_eq_true rfl) (fun X h hQ => ?_)
  show G Z X M 0 [(0, .ref (za Z 30 0)), (1, .int v1), (2, .int v2), (3, .int v3), (4, .int v4)] []
  rw [F_D_handler] at hw
  refine g_aload_n h d_D_handler_0 rfl rfl ?_
  refine g_getI (t := 30) (i := 0) (k := 12) (C := "FlowGateModel") (T := T_D) (N := 42) h hL rfl (by decide) ob_30 (by decide) rfl (fun w hw => mc (in_D w hw)) (mc m_fl_D_121) rfl d_D_handler_1 ?_
  refine g_iconst (v := 3) h d_D_handler_4 (by decide) ?_
  refine g_icmp_ne (tgt := 11) h d_D_handler_5 (by decide) (fun c1 => ?_) (fun c1 => ?_)
  · have hw := o_f c1 hw
    refine g_aload_n h d_D_handler_11 rfl rfl ?_
    refine g_getR (t := 30) (i := 0) (k := 6) (C := "FlowGateModel") (T := T_D) (N := 42) h hL rfl (by decide) ob_30 (by decide) rfl (t' := 36) (i' := 0) rfl rfl (fun w hw => mc (in_D w hw)) (mc m_fl_D_30) rfl d_D_handler_12 ?_
    refine g_aload_n h d_D_handler_15 rfl rfl ?_
    refine g_getI (t := 30) (i := 0) (k := 12) (C := "FlowGateModel") (T := T_D) (N := 42) h hL rfl (by decide) ob_30 (by decide) rfl (fun w hw => mc (in_D w hw)) (mc m_fl_D_121) rfl d_D_handler_16 ?_
    refine g_iload_n h d_D_handler_19 rfl rfl ?_
    obtain ⟨hv2, hw⟩ := o_in hw
    refine g_iast (t := 36) (i := 0) h hL rfl (by decide) rfl rfl hv2 d_D_handler_20 ?_
    refine g_mem (fun M3 eM3 => ?_)
    have hw := o_l hw M3 eM3
    refine g_aload_n h d_D_handler_21 rfl rfl ?_
    refine g_getR (t := 30) (i := 0) (k := 7) (C := "FlowGateModel") (T := T_D) (N := 42) h hL rfl (by decide) ob_30 (by decide) rfl (t' := 37) (i' := 0) rfl rfl (fun w hw => mc (in_D w hw)) (mc m_fl_D_33) rfl d_D_handler_22 ?_
    refine g_aload_n h d_D_handler_25 rfl rfl ?_
    refine g_getI (t := 30) (i := 0) (k := 12) (C := "FlowGateModel") (T := T_D) (N := 42) h hL rfl (by decide) ob_30 (by decide) rfl (fun w hw => mc (in_D w hw)) (mc m_fl_D_121) rfl d_D_handler_26 ?_
    refine g_iload_n h d_D_handler_29 rfl rfl ?_
    obtain ⟨hv4, hw⟩ := o_in hw
    refine g_iast (t := 37) (i := 0) h hL rfl (by decide) rfl rfl hv4 d_D_handler_30 ?_
    refine g_mem (fun M5 eM5 => ?_)
    have hw := o_l hw M5 eM5
    refine g_aload_n h d_D_handler_31 rfl rfl ?_
    refine g_getR (t := 30) (i := 0) (k := 8) (C := "FlowGateModel") (T := T_D) (N := 42) h hL rfl (by decide) ob_30 (by decide) rfl (t' := 38) (i' := 0) rfl rfl (fun w hw => mc (in_D w hw)) (mc m_fl_D_36) rfl d_D_handler_32 ?_
    refine g_aload_n h d_D_handler_35 rfl rfl ?_
    refine g_getI (t := 30) (i := 0) (k := 12) (C := "FlowGateModel") (T := T_D) (N := 42) h hL rfl (by decide) ob_30 (by decide) rfl (fun w hw => mc (in_D w hw)) (mc m_fl_D_121) rfl d_D_handler_36 ?_
    refine g_iload_n h d_D_handler_39 rfl rfl ?_
    obtain ⟨hv6, hw⟩ := o_in hw
    refine g_iast (t := 38) (i := 0) h hL rfl (by decide) rfl rfl hv6 d_D_handler_40 ?_
    refine g_mem (fun M7 eM7 => ?_)
    have hw := o_l hw M7 eM7
    refine g_aload_n h d_D_handler_41 rfl rfl ?_
    refine g_getR (t := 30) (i := 0) (k := 9) (C := "FlowGateModel") (T := T_D) (N := 42) h hL rfl (by decide) ob_30 (by decide) rfl (t' := 39) (i' := 0) rfl rfl (fun w hw => mc (in_D w hw)) (mc m_fl_D_39) rfl d_D_handler_42 ?_
    refine g_aload_n h d_D_handler_45 rfl rfl ?_
    refine g_getI (t := 30) (i := 0) (k := 12) (C := "FlowGateModel") (T := T_D) (N := 42) h hL rfl (by decide) ob_30 (by decide) rfl (fun w hw => mc (in_D w hw)) (mc m_fl_D_121) rfl d_D_handler_46 ?_
    refine g_iload h d_D_handler_49 rfl ?_
    obtain ⟨hv8, hw⟩ := o_in hw
    refine g_iast (t := 39) (i := 0) h hL rfl (by decide) rfl rfl hv8 d_D_handler_51 ?_
    refine g_mem (fun M9 eM9 => ?_)
    have hw := o_l hw M9 eM9
    refine g_aload_n h d_D_handler_52 rfl rfl ?_
    refine g_dup h d_D_handler_53 rfl ?_
    refine g_getI (t := 30) (i := 0) (k := 12) (C := "FlowGateModel") (T := T_D) (N := 42) h hL rfl (by decide) ob_30 (by decide) rfl (fun w hw => mc (in_D w hw)) (mc m_fl_D_121) rfl d_D_handler_54 ?_
    refine g_iconst (v := 1) h d_D_handler_57 (by decide) ?_
    refine g_iadd h d_D_handler_58 ?_
    refine g_putI (t := 30) (i := 0) (k := 12) (C := "FlowGateModel") (T := T_D) (N := 42) h hL rfl (by decide) ob_30 (by decide) rfl (fun w hw => mc (in_D w hw)) ty_D ty_D_ok nm_D (mc m_fl_D_121) rfl rfl rfl d_D_handler_59 ?_
    refine g_mem (fun M10 eM10 => ?_)
    have hw := o_l hw M10 eM10
    refine g_aload_n h d_D_handler_62 rfl rfl ?_
    refine g_getI (t := 30) (i := 0) (k := 12) (C := "FlowGateModel") (T := T_D) (N := 42) h hL rfl (by decide) ob_30 (by decide) rfl (fun w hw => mc (in_D w hw)) (mc m_fl_D_121) rfl d_D_handler_63 ?_
    exact g_iret h hQ d_D_handler_66 hw
  · have hw := o_t c1 hw
    refine g_bipush (v := -2) h d_D_handler_8 (by decide) ?_
    exact g_iret h hQ d_D_handler_10 hw
set_option maxHeartbeats 4000000 in
set_option maxRecDepth 100000 in
theorem ct_D_isGoal {Z : ZT} (hL : Lay Z sD) (v1 : Int32) (M : Mm)  {res : Int32 × Mm} (hw : F_D_isGoal v1 M = some res) : CtI Z y_D_isGoal ws_D_isGoal (({ frames := 1, cells := 0, slots := 0, locals := 22 })) [.ref (za Z 30 0), .int v1] M res := by
  refine CtI.of hL (cc := c_D_isGoal) (maxL := 2) (by decide) rfl (Nat.le_of_ble_eq_true rfl) (fun X h hQ => ?_)
  show G Z X M 0 [(0, .ref (za Z 30 0)), (1, .int v1)] []
  rw [F_D_isGoal] at hw
  refine g_iload_n h d_D_isGoal_0 rfl rfl ?_
  refine g_iconst (v := 0) h d_D_isGoal_1 (by decide) ?_
  refine g_aload_n h d_D_isGoal_2 rfl rfl ?_
  refine g_getI (t := 30) (i := 0) (k := 11) (C := "FlowGateModel") (T := T_D) (N := 42) h hL rfl (by decide) ob_30 (by decide) rfl (fun w hw => mc (in_D w hw)) (mc m_fl_D_118) rfl d_D_isGoal_3 ?_
  refine g_iconst (v := 1) h d_D_isGoal_6 (by decide) ?_
  refine g_isub h d_D_isGoal_7 ?_
  refine g_calli h (g_runS (rest := []) h (ct_D_in hL v1 0 ((M.1 30 0 11) - 1) M (p_D_in v1 0 ((M.1 30 0 11) - 1) M)) (cwS 3 h.2.2.2.2.1 (g_S m_ml_D_91 m_st_D_in m_in_D m_co_D_in) rfl rfl rfl (by decide +kernel) ⟨Nat.le_of_ble_eq_true rfl, Nat.le_of_ble_eq_true rfl⟩) rfl rfl (Nat.le_of_ble_eq_true rfl) d_D_isGoal_8) ?_
  refine g_topi (fun r2 er2 => ?_)
  have hw := o_l hw r2 er2
  obtain ⟨hn3, hw⟩ := o_nz hw
  exact g_zret h hQ d_D_isGoal_11 hn3 hw
