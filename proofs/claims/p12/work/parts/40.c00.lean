set_option maxHeartbeats 4000000 in
set_option maxRecDepth 100000 in
theorem ct_T_hasClass {Z : ZT} (hL : Lay Z sC) (v1 : Int32) (M : Mm)  {res : Int32 × Mm} (hw : F_T_hasClass v1 M = some res) : CtI Z y_T_hasClass ws_T_hasClass (({ frames := 0, cells := 0, slots := 0, locals := 0 })) [.ref (za Z 1 0), .int v1] M res := by
  refine CtI.of hL (cc := c_T_hasClass) (maxL := 2) (by decide) rfl (Nat.le_of_ble_eq_true rfl) (fun X h hQ => ?_)
  show G Z X M 0 [(0, .ref (za Z 1 0)), (1, .int v1)] []
  rw [F_T_hasClass] at hw
  refine g_iload_n h d_T_hasClass_0 rfl rfl ?_
  refine g_if_lt (tgt := 16) h d_T_hasClass_1 (by decide) (fun c1 => ?_) (fun c1 => ?_)
  · have hw := o_t c1 hw
    refine g_iconst (v := 0) h d_T_hasClass_16 (by decide) ?_
    exact g_zret h hQ d_T_hasClass_17 rfl hw
  · have hw := o_f c1 hw
    refine g_iload_n h d_T_hasClass_4 rfl rfl ?_
    refine g_aload_n h d_T_hasClass_5 rfl rfl ?_
    refine g_getI (t := 1) (i := 0) (k := 2) (C := "FlowGate$Types") (T := T_T) (N := 3) h hL rfl (by decide) ob_1 (by decide) rfl (fun w hw => mc (in_T w hw)) (mc m_fl_T_19) rfl d_T_hasClass_6 ?_
    refine g_icmp_ge (tgt := 16) h d_T_hasClass_9 (by decide) (fun c2 => ?_) (fun c2 => ?_)
    · have hw := o_t c2 hw
      refine g_iconst (v := 0) h d_T_hasClass_16 (by decide) ?_
      exact g_zret h hQ d_T_hasClass_17 rfl hw
    · have hw := o_f c2 hw
      refine g_iconst (v := 1) h d_T_hasClass_12 (by decide) ?_
      refine g_goto (tgt := 17) h d_T_hasClass_13 (by decide) ?_
      exact g_zret h hQ d_T_hasClass_17 rfl hw
set_option maxHeartbeats 4000000 in
set_option maxRecDepth 100000 in
theorem ct_T_append {Z : ZT} (hL : Lay Z sC) (v1 : Int32) (v2 : Int32) (M : Mm)  {res : Int32 × Mm} (hw : F_T_append v1 v2 M = some res) : CtI Z y_T_append ws_T_append (({ frames := 0, cells := 0, slots := 0, locals := 0 })) [.ref (za Z 1 0), .int v1, .int v2] M res := by
  refine CtI.of hL (cc := c_T_append) (maxL := 3) (by decide) rfl (Nat.le_of_ble_eq_true rfl) (fun X h hQ => ?_)
  show G Z X M 0 [(0, .ref (za Z 1 0)), (1, .int v1), (2, .int v2)] []
  rw [F_T_append] at hw
  refine g_aload_n h d_T_append_0 rfl rfl ?_
  refine g_getR (t := 1) (i := 0) (k := 0) (C := "FlowGate$Types") (T := T_T) (N := 3) h hL rfl (by decide) ob_1 (by decide) rfl (t' := 2) (i' := 0) rfl rfl (fun w hw => mc (in_T w hw)) (mc m_fl_T_9) rfl d_T_append_1 ?_
  refine g_aload_n h d_T_append_4 rfl rfl ?_
  refine g_getI (t := 1) (i := 0) (k := 2) (C := "FlowGate$Types") (T := T_T) (N := 3) h hL rfl (by decide) ob_1 (by decide) rfl (fun w hw => mc (in_T w hw)) (mc m_fl_T_19) rfl d_T_append_5 ?_
  refine g_aload_n h d_T_append_8 rfl rfl ?_
  refine g_getR (t := 1) (i := 0) (k := 0) (C := "FlowGate$Types") (T := T_T) (N := 3) h hL rfl (by decide) ob_1 (by decide) rfl (t' := 2) (i' := 0) rfl rfl (fun w hw => mc (in_T w hw)) (mc m_fl_T_9) rfl d_T_append_9 ?_
  refine g_iload_n h d_T_append_12 rfl rfl ?_
  obtain ⟨hv1, hw⟩ := o_in hw
  refine g_iald (t := 2) (i := 0) h hL rfl (by decide) rfl rfl hv1 d_T_append_13 ?_
  refine g_iconst (v := 1) h d_T_append_14 (by decide) ?_
  refine g_aload_n h d_T_append_15 rfl rfl ?_
  refine g_getI (t := 1) (i := 0) (k := 2) (C := "FlowGate$Types") (T := T_T) (N := 3) h hL rfl (by decide) ob_1 (by decide) rfl (fun w hw => mc (in_T w hw)) (mc m_fl_T_19) rfl d_T_append_16 ?_
  refine g_ishl h d_T_append_19 ?_
  refine g_ior h d_T_append_20 ?_
  obtain ⟨hv2, hw⟩ := o_in hw
  refine g_iast (t := 2) (i := 0) h hL rfl (by decide) rfl rfl hv2 d_T_append_21 ?_
  refine g_mem (fun M3 eM3 => ?_)
  have hw := o_l hw M3 eM3
  refine g_aload_n h d_T_append_22 rfl rfl ?_
  refine g_getR (t := 1) (i := 0) (k := 1) (C := "FlowGate$Types") (T := T_T) (N := 3) h hL rfl (by decide) ob_1 (by decide) rfl (t' := 3) (i' := 0) rfl rfl (fun w hw => mc (in_T w hw)) (mc m_fl_T_15) rfl d_T_append_23 ?_
  refine g_aload_n h d_T_append_26 rfl rfl ?_
  refine g_getI (t := 1) (i := 0) (k := 2) (C := "FlowGate$Types") (T := T_T) (N := 3) h hL rfl (by decide) ob_1 (by decide) rfl (fun w hw => mc (in_T w hw)) (mc m_fl_T_19) rfl d_T_append_27 ?_
  refine g_iload_n h d_T_append_30 rfl rfl ?_
  obtain ⟨hv4, hw⟩ := o_in hw
  refine g_zast (t := 3) (i := 0) h hL rfl (by decide) rfl rfl hv4 d_T_append_31 ?_
  refine g_mem (fun M5 eM5 => ?_)
  have hw := o_l hw M5 eM5
  refine g_aload_n h d_T_append_32 rfl rfl ?_
  refine g_dup h d_T_append_33 rfl ?_
  refine g_getI (t := 1) (i := 0) (k := 2) (C := "FlowGate$Types") (T := T_T) (N := 3) h hL rfl (by decide) ob_1 (by decide) rfl (fun w hw => mc (in_T w hw)) (mc m_fl_T_19) rfl d_T_append_34 ?_
  refine g_iconst (v := 1) h d_T_append_37 (by decide) ?_
  refine g_iadd h d_T_append_38 ?_
  refine g_putI (t := 1) (i := 0) (k := 2) (C := "FlowGate$Types") (T := T_T) (N := 3) h hL rfl (by decide) ob_1 (by decide) rfl (fun w hw => mc (in_T w hw)) ty_T ty_T_ok nm_T (mc m_fl_T_19) rfl rfl rfl d_T_append_39 ?_
  refine g_mem (fun M6 eM6 => ?_)
  have hw := o_l hw M6 eM6
  refine g_aload_n h d_T_append_42 rfl rfl ?_
  refine g_getI (t := 1) (i := 0) (k := 2) (C := "FlowGate$Types") (T := T_T) (N := 3) h hL rfl (by decide) ob_1 (by decide) rfl (fun w hw => mc (in_T w hw)) (mc m_fl_T_19) rfl d_T_append_43 ?_
  refine g_iconst (v := 1) h d_T_append_46 (by decide) ?_
  refine g_isub h d_T_append_47 ?_
  exact g_iret h hQ d_T_append_48 hw
set_option maxHeartbeats 4000000 in
set_option maxRecDepth 100000 in
theorem ct_G_cls {Z : ZT} (hL : Lay Z sC) (v1 : Int32) (v2 : Int32) (M : Mm)  {res : Int32 × Mm} (hw : F_G_cls v1 v2 M = some res) : CtI Z y_G_cls ws_G_cls (({ frames := 1, cells := 0, slots := 0, locals := 22 })) [.ref (za Z 0 0), .int v1, .int v2] M res := by
  refine CtI.of hL (cc := c_G_cls) (maxL := 3) (by decide) rfl (Nat.le_of_ble_eq_true rfl) (fun X h hQ => ?_)
  show G Z X M 0 [(0, .ref (za Z 0 0)), (1, .int v1), (2, .int v2)] []
  rw [F_G_cls] at hw
  refine g_aload_n h d_G_cls_0 rfl rfl ?_
  refine g_getR (t := 0) (i := 0) (k := 0) (C := "FlowGate") (T := T_G) (N := 6) h hL rfl (by decide) ob_0 (by decide) rfl (t' := 1) (i' := 0) rfl rfl (fun w hw => mc (in_G w hw)) (mc m_fl_G_10) rfl d_G_cls_1 ?_
  refine g_iload_n h d_G_cls_4 rfl rfl ?_
  refine g_calli h (g_runV (rest := []) h (ct_T_hasClass hL v1 M (p_T_hasClass v1 M)) (cwV 1 h.2.2.2.2.1 (g_V m_ml_G_43 m_im_T_hasClass m_se_T_hasClass m_in_T m_co_T_hasClass) rfl rfl rfl (by decide +kernel) ⟨Nat.le_of_ble_eq_true rfl, Nat.le_of_ble_eq_true rfl⟩) (hL.recv h rfl (by decide) ob_1) rfl rfl (Nat.le_of_ble_eq_true rfl) d_G_cls_5) ?_
  refine g_topi (fun r2 er2 => ?_)
  have hw := o_l hw r2 er2
  refine g_if_ne (tgt := 13) h d_G_cls_8 (by decide) (fun c3 => ?_) (fun c3 => ?_)
  · have hw := o_f c3 hw
    refine g_aload_n h d_G_cls_13 rfl rfl ?_
    refine g_getR (t := 0) (i := 0) (k := 0) (C := "FlowGate") (T := T_G) (N := 6) h hL rfl (by decide) ob_0 (by decide) rfl (t' := 1) (i' := 0) rfl rfl (fun w hw => mc (in_G w hw)) (mc m_fl_G_10) rfl d_G_cls_14 ?_
    refine g_getI (t := 1) (i := 0) (k := 2) (C := "FlowGate$Types") (T := T_T) (N := 3) h hL rfl (by decide) ob_1 (by decide) rfl (fun w hw => mc (in_T w hw)) (mc m_fl_G_47) rfl d_G_cls_17 ?_
    refine g_bipush (v := 10) h d_G_cls_20 (by decide) ?_
    refine g_icmp_ne (tgt := 28) h d_G_cls_22 (by decide) (fun c4 => ?_) (fun c4 => ?_)
    · have hw := o_f c4 hw
      refine g_aload_n h d_G_cls_28 rfl rfl ?_
      refine g_getR (t := 0) (i := 0) (k := 0) (C := "FlowGate") (T := T_G) (N := 6) h hL rfl (by decide) ob_0 (by decide) rfl (t' := 1) (i' := 0) rfl rfl (fun w hw => mc (in_G w hw)) (mc m_fl_G_10) rfl d_G_cls_29 ?_
      refine g_iload_n h d_G_cls_32 rfl rfl ?_
      refine g_iload_n h d_G_cls_33 rfl rfl ?_
      obtain ⟨r7, M6, hc5, hw⟩ := o_b hw
      refine g_calli h (g_runV (rest := []) h (ct_T_append hL v1 v2 M hc5) (cwV 2 h.2.2.2.2.1 (g_V m_ml_G_50 m_im_T_append m_se_T_append m_in_T m_co_T_append) rfl rfl rfl (by decide +kernel) ⟨Nat.le_of_ble_eq_true rfl, Nat.le_of_ble_eq_true rfl⟩) (hL.recv h rfl (by decide) ob_1) rfl rfl (Nat.le_of_ble_eq_true rfl) d_G_cls_34) ?_
      exact g_iret h hQ d_G_cls_37 hw
    · have hw := o_t c4 hw
      refine g_bipush (v := -2) h d_G_cls_25 (by decide) ?_
      exact g_iret h hQ d_G_cls_27 hw
  · have hw := o_t c3 hw
    refine g_iconst (v := -1) h d_G_cls_11 (by decide) ?_
    exact g_iret h hQ d_G_cls_12 hw
set_option maxHeartbeats 4000000 in
set_option maxRecDepth 100000 in
theorem ct_T_isRef {Z : ZT} (hL : Lay Z sC) (v1 : Int32) (M : Mm)  {res : Int32 × Mm} (hw : F_T_isRef v1 M = some res) : CtI Z y_T_isRef ws_T_isRef (({ frames := 0, cells := 0, slots := 0, locals := 0 })) [.ref (za Z 1 0), .int v1] M res := by
  refine CtI.of hL (cc := c_T_isRef) (maxL := 4) (by decide) rfl (Nat.le_of_ble_eq_true rfl) (fun X h hQ => ?_)
  show G Z X M 0 [(0, .ref (za Z 1 0)), (1, .int v1)] []
  rw [F_T_isRef] at hw
  refine g_iload_n h d_T_isRef_0 rfl rfl ?_
  refine g_bipush (v := 6) h d_T_isRef_1 (by decide) ?_
  refine g_ishr h d_T_isRef_3 ?_
  refine g_topi (fun n1 en1 => ?_)
  have hw := o_l hw n1 en1
  refine g_istore_n (lv' := [(2, .int n1), (0, .ref (za Z 1 0)), (1, .int v1)]) h d_T_isRef_4 rfl (by decide) rfl ?_
  refine g_iload_n h d_T_isRef_5 rfl rfl ?_
  refine g_if_lt (tgt := 14) h d_T_isRef_6 (by decide) (fun c2 => ?_) (fun c2 => ?_)
  · have hw := o_t c2 hw
    refine g_iconst (v := 0) h d_T_isRef_14 (by decide) ?_
    exact g_zret h hQ d_T_isRef_15 rfl hw
  · have hw := o_f c2 hw
    refine g_iload_n h d_T_isRef_9 rfl rfl ?_
    refine g_iconst (v := 3) h d_T_isRef_10 (by decide) ?_
    refine g_icmp_le (tgt := 16) h d_T_isRef_11 (by decide) (fun c3 => ?_) (fun c3 => ?_)
    · have hw := o_t c3 hw
      refine g_iload_n h d_T_isRef_16 rfl rfl ?_
      refine g_bipush (v := 63) h d_T_isRef_17 (by decide) ?_
      refine g_iand h d_T_isRef_19 ?_
      refine g_topi (fun n4 en4 => ?_)
      have hw := o_l hw n4 en4
      refine g_istore_n (lv' := [(3, .int n4), (2, .int n1), (0, .ref (za Z 1 0)), (1, .int v1)]) h d_T_isRef_20 rfl (by decide) rfl ?_
      refine g_iload_n h d_T_isRef_21 rfl rfl ?_
      refine g_bipush (v := 12) h d_T_isRef_22 (by decide) ?_
      refine g_icmp_ne (tgt := 37) h d_T_isRef_24 (by decide) (fun c5 => ?_) (fun c5 => ?_)
      · have hw := o_f c5 hw
        refine g_iload_n h d_T_isRef_37 rfl rfl ?_
        refine g_bipush (v := 16) h d_T_isRef_38 (by decide) ?_
        refine g_icmp_lt (tgt := 58) h d_T_isRef_40 (by decide) (fun c6 => ?_) (fun c6 => ?_)
        · have hw := o_t c6 hw
          refine g_iconst (v := 0) h d_T_isRef_58 (by decide) ?_
          exact g_zret h hQ d_T_isRef_59 rfl hw
        · have hw := o_f c6 hw
          refine g_iload_n h d_T_isRef_43 rfl rfl ?_
          refine g_bipush (v := 16) h d_T_isRef_44 (by decide) ?_
          refine g_aload_n h d_T_isRef_46 rfl rfl ?_
          refine g_getI (t := 1) (i := 0) (k := 2) (C := "FlowGate$Types") (T := T_T) (N := 3) h hL rfl (by decide) ob_1 (by decide) rfl (fun w hw => mc (in_T w hw)) (mc m_fl_T_19) rfl d_T_isRef_47 ?_
          refine g_iadd h d_T_isRef_50 ?_
          refine g_icmp_ge (tgt := 58) h d_T_isRef_51 (by decide) (fun c7 => ?_) (fun c7 => ?_)
          · have hw := o_t c7 hw
            refine g_iconst (v := 0) h d_T_isRef_58 (by decide) ?_
            exact g_zret h hQ d_T_isRef_59 rfl hw
          · have hw := o_f c7 hw
            refine g_iconst (v := 1) h d_T_isRef_54 (by decide) ?_
            refine g_goto (tgt := 59) h d_T_isRef_55 (by decide) ?_
            exact g_zret h hQ d_T_isRef_59 rfl hw
      · have hw := o_t c5 hw
        refine g_iload_n h d_T_isRef_27 rfl rfl ?_
        refine g_if_le (tgt := 35) h d_T_isRef_28 (by decide) (fun c8 => ?_) (fun c8 => ?_)
        · have hw := o_t c8 hw
          refine g_iconst (v := 0) h d_T_isRef_35 (by decide) ?_
          exact g_zret h hQ d_T_isRef_36 rfl hw
        · have hw := o_f c8 hw
          refine g_iconst (v := 1) h d_T_isRef_31 (by decide) ?_
          refine g_goto (tgt := 36) h d_T_isRef_32 (by decide) ?_
          exact g_zret h hQ d_T_isRef_36 rfl hw
    · have hw := o_f c3 hw
      refine g_iconst (v := 0) h d_T_isRef_14 (by decide) ?_
      exact g_zret h hQ d_T_isRef_15 rfl hw
set_option maxHeartbeats 4000000 in
set_option maxRecDepth 100000 in
theorem w_T_isValue_b10 {Z : ZT} {X : XT} (hL : Lay Z sC) (h : Ok Z X "FlowGate$Types" c_T_isValue ws_T_isValue 2 ({ frames := 1, cells := 0, slots := 0, locals := 23 })) {res : Int32 × Mm} (hQ : FinI Z X .boolean res)  (v1 : Int32) (M : Mm)  (hw : F_T_isValue_b10 v1 M = some res) : G Z X M 10 [(0, .ref (za Z 1 0)), (1, .int v1)] [] := by
  rw [F_T_isValue_b10] at hw
  refine g_aload_n h d_T_isValue_10 rfl rfl ?_
  refine g_iload_n h d_T_isValue_11 rfl rfl ?_
  refine g_calli h (g_runV (rest := []) h (ct_T_isRef hL v1 M (p_T_isRef v1 M)) (cwV 1 h.2.2.2.2.1 (g_V m_ml_T_23 m_im_T_isRef m_se_T_isRef m_in_T m_co_T_isRef) rfl rfl rfl (by decide +kernel) ⟨Nat.le_of_ble_eq_true rfl, Nat.le_of_ble_eq_true rfl⟩) (hL.recv h rfl (by decide) ob_1) rfl rfl (Nat.le_of_ble_eq_true rfl) d_T_isValue_12) ?_
  refine g_topi (fun r2 er2 => ?_)
  have hw := o_l hw r2 er2
  refine g_if_eq (tgt := 22) h d_T_isValue_15 (by decide) (fun c3 => ?_) (fun c3 => ?_)
  · have hw := o_t c3 hw
    refine g_iconst (v := 0) h d_T_isValue_22 (by decide) ?_
    exact g_zret h hQ d_T_isValue_23 rfl hw
  · have hw := o_f c3 hw
    refine g_iconst (v := 1) h d_T_isValue_18 (by decide) ?_
    refine g_goto (tgt := 23) h d_T_isValue_19 (by decide) ?_
    exact g_zret h hQ d_T_isValue_23 rfl hw
set_option maxHeartbeats 4000000 in
set_option maxRecDepth 100000 in
theorem ct_T_isValue {Z : ZT} (hL : Lay Z sC) (v1 : Int32) (M : Mm)  {res : Int32 × Mm} (hw : F_T_isValue v1 M = some res) : CtI Z y_T_isValue ws_T_isValue (({ frames := 1, cells := 0, slots := 0, locals := 23 })) [.ref (za Z 1 0), .int v1] M res := by
  refine CtI.of hL (cc := c_T_isValue) (maxL := 2) (by decide) rfl (Nat.le_of_ble_eq_true rfl) (fun X h hQ => ?_)
  show G Z X M 0 [(0, .ref (za Z 1 0)), (1, .int v1)] []
  rw [F_T_isValue] at hw
  refine g_iload_n h d_T_isValue_0 rfl rfl ?_
  refine g_iconst (v := 1) h d_T_isValue_1 (by decide) ?_
  refine g_icmp_lt (tgt := 10) h d_T_isValue_2 (by decide) (fun c4 => ?_) (fun c4 => ?_)
  · have hw := o_t c4 hw
    refine g_sub [0, 1] rfl ?_
    exact w_T_isValue_b10 hL h hQ  v1 M hw
  · have hw := o_f c4 hw
    refine g_iload_n h d_T_isValue_5 rfl rfl ?_
    refine g_iconst (v := 4) h d_T_isValue_6 (by decide) ?_
    refine g_icmp_le (tgt := 18) h d_T_isValue_7 (by decide) (fun c5 => ?_) (fun c5 => ?_)
    · have hw := o_t c5 hw
      refine g_iconst (v := 1) h d_T_isValue_18 (by decide) ?_
      refine g_goto (tgt := 23) h d_T_isValue_19 (by decide) ?_
      exact g_zret h hQ d_T_isValue_23 rfl hw
    · have hw := o_f c5 hw
      refine g_sub [0, 1] rfl ?_
      exact w_T_isValue_b10 hL h hQ  v1 M hw
set_option maxHeartbeats 4000000 in
set_option maxRecDepth 100000 in
theorem ct_M_restart {Z : ZT} (hL : Lay Z sC) (v1 : Int32) (v2 : Int32) (v3 : Int32) (M : Mm)  {res : Mm} (hw : F_M_restart v1 v2 v3 M = some res) : CtV Z y_M_restart ws_M_restart (({ frames := 0, cells := 0, slots := 0, locals := 0 })) [.ref (za Z 4 0), .int v1, .int v2, .int v3] M res := by
  refine CtV.of hL (cc := c_M_restart) (maxL := 4) (by decide) rfl (Nat.le_of_ble_eq_true rfl) (fun X h hQ => ?_)
  show G Z X M 0 [(0, .ref (za Z 4 0)), (1, .int v1), (2, .int v2), (3, .int v3)] []
  rw [F_M_restart] at hw
  refine g_aload_n h d_M_restart_0 rfl rfl ?_
  refine g_iload_n h d_M_restart_1 rfl rfl ?_
  refine g_putI (t := 4) (i := 0) (k := 11) (C := "FlowGate$Method") (T := T_M) (N := 14) h hL rfl (by decide) ob_4 (by decide) rfl (fun w hw => mc (in_M w hw)) ty_M ty_M_ok nm_M (mc m_fl_M_36) rfl rfl rfl d_M_restart_2 ?_
  refine g_mem (fun M1 eM1 => ?_)
  have hw := o_l hw M1 eM1
  refine g_aload_n h d_M_restart_5 rfl rfl ?_
  refine g_iload_n h d_M_restart_6 rfl rfl ?_
  refine g_putI (t := 4) (i := 0) (k := 12) (C := "FlowGate$Method") (T := T_M) (N := 14) h hL rfl (by decide) ob_4 (by decide) rfl (fun w hw => mc (in_M w hw)) ty_M ty_M_ok nm_M (mc m_fl_M_40) rfl rfl rfl d_M_restart_7 ?_
  refine g_mem (fun M2 eM2 => ?_)
  have hw := o_l hw M2 eM2
  refine g_aload_n h d_M_restart_10 rfl rfl ?_
  refine g_iload_n h d_M_restart_11 rfl rfl ?_
  refine g_putI (t := 4) (i := 0) (k := 13) (C := "FlowGate$Method") (T := T_M) (N := 14) h hL rfl (by decide) ob_4 (by decide) rfl (fun w hw => mc (in_M w hw)) ty_M ty_M_ok nm_M (mc m_fl_M_43) rfl rfl rfl d_M_restart_12 ?_
  refine g_mem (fun M3 eM3 => ?_)
  have hw := o_l hw M3 eM3
  refine g_aload_n h d_M_restart_15 rfl rfl ?_
  refine g_iconst (v := 0) h d_M_restart_16 (by decide) ?_
  refine g_putI (t := 4) (i := 0) (k := 3) (C := "FlowGate$Method") (T := T_M) (N := 14) h hL rfl (by decide) ob_4 (by decide) rfl (fun w hw => mc (in_M w hw)) ty_M ty_M_ok nm_M (mc m_fl_M_46) rfl rfl rfl d_M_restart_17 ?_
  refine g_mem (fun M4 eM4 => ?_)
  have hw := o_l hw M4 eM4
  refine g_aload_n h d_M_restart_20 rfl rfl ?_
  refine g_iconst (v := 0) h d_M_restart_21 (by decide) ?_
  refine g_putI (t := 4) (i := 0) (k := 8) (C := "FlowGate$Method") (T := T_M) (N := 14) h hL rfl (by decide) ob_4 (by decide) rfl (fun w hw => mc (in_M w hw)) ty_M ty_M_ok nm_M (mc m_fl_M_49) rfl rfl rfl d_M_restart_22 ?_
  refine g_mem (fun M5 eM5 => ?_)
  have hw := o_l hw M5 eM5
  refine g_aload_n h d_M_restart_25 rfl rfl ?_
  refine g_iconst (v := 0) h d_M_restart_26 (by decide) ?_
  refine g_putI (t := 4) (i := 0) (k := 10) (C := "FlowGate$Method") (T := T_M) (N := 14) h hL rfl (by decide) ob_4 (by decide) rfl (fun w hw => mc (in_M w hw)) ty_M ty_M_ok nm_M (mc m_fl_M_52) rfl rfl rfl d_M_restart_27 ?_
  refine g_mem (fun M6 eM6 => ?_)
  have hw := o_l hw M6 eM6
  exact g_vret h hQ d_M_restart_30 hw
set_option maxHeartbeats 4000000 in
set_option maxRecDepth 100000 in
theorem w_G_begin_b17 {Z : ZT} {X : XT} (hL : Lay Z sC) (h : Ok Z X "FlowGate" c_G_begin ws_G_begin 4 ({ frames := 2, cells := 0, slots := 0, locals := 44 })) {res : Int32 × Mm} (hQ : FinI Z X .int res)  (v1 : Int32) (v2 : Int32) (v3 : Int32) (M : Mm)  (hw : F_G_begin_b17 v1 v2 v3 M = some res) : G Z X M 17 [(0, .ref (za Z 0 0)), (1, .int v1), (2, .int v2), (3, .int v3)] [] := by
  rw [F_G_begin_b17] at hw
  refine g_iload_n h d_G_begin_17 rfl rfl ?_
  refine g_if_lt (tgt := 37) h d_G_begin_18 (by decide) (fun c1 => ?_) (fun c1 => ?_)
  · have hw := o_t c1 hw
    refine g_iconst (v := -1) h d_G_begin_37 (by decide) ?_
    exact g_iret h hQ d_G_begin_38 hw
  · have hw := o_f c1 hw
    refine g_iload_n h d_G_begin_21 rfl rfl ?_
    refine g_bipush (v := 12) h d_G_begin_22 (by decide) ?_
    refine g_icmp_gt (tgt := 37) h d_G_begin_24 (by decide) (fun c2 => ?_) (fun c2 => ?_)
    · have hw := o_t c2 hw
      refine g_iconst (v := -1) h d_G_begin_37 (by decide) ?_
      exact g_iret h hQ d_G_begin_38 hw
    · have hw := o_f c2 hw
      refine g_iload_n h d_G_begin_27 rfl rfl ?_
      refine g_if_lt (tgt := 37) h d_G_begin_28 (by decide) (fun c3 => ?_) (fun c3 => ?_)
      · have hw := o_t c3 hw
        refine g_iconst (v := -1) h d_G_begin_37 (by decide) ?_
        exact g_iret h hQ d_G_begin_38 hw
      · have hw := o_f c3 hw
        refine g_iload_n h d_G_begin_31 rfl rfl ?_
        refine g_bipush (v := 12) h d_G_begin_32 (by decide) ?_
        refine g_icmp_le (tgt := 39) h d_G_begin_34 (by decide) (fun c4 => ?_) (fun c4 => ?_)
        · have hw := o_t c4 hw
          refine g_aload_n h d_G_begin_39 rfl rfl ?_
          refine g_getR (t := 0) (i := 0) (k := 1) (C := "FlowGate") (T := T_G) (N := 6) h hL rfl (by decide) ob_0 (by decide) rfl (t' := 4) (i' := 0) rfl rfl (fun w hw => mc (in_G w hw)) (mc m_fl_G_19) rfl d_G_begin_40 ?_
          refine g_iload_n h d_G_begin_43 rfl rfl ?_
          refine g_iload_n h d_G_begin_44 rfl rfl ?_
          refine g_iload_n h d_G_begin_45 rfl rfl ?_
          obtain ⟨M6, hc5, hw⟩ := o_v hw
          refine g_callv h (g_runV (rest := []) h (ct_M_restart hL v1 v2 v3 M hc5) (cwV 3 h.2.2.2.2.1 (g_V m_ml_G_57 m_im_M_restart m_se_M_restart m_in_M m_co_M_restart) rfl rfl rfl (by decide +kernel) ⟨Nat.le_of_ble_eq_true rfl, Nat.le_of_ble_eq_true rfl⟩) (hL.recv h rfl (by decide) ob_4) rfl rfl (Nat.le_of_ble_eq_true rfl) d_G_begin_46) ?_
          refine g_iconst (v := 1) h d_G_begin_49 (by decide) ?_
          exact g_iret h hQ d_G_begin_50 hw
        · have hw := o_f c4 hw
          refine g_iconst (v := -1) h d_G_begin_37 (by decide) ?_
          exact g_iret h hQ d_G_begin_38 hw
set_option maxHeartbeats 4000000 in
set_option maxRecDepth 100000 in
theorem ct_G_begin {Z : ZT} (hL : Lay Z sC) (v1 : Int32) (v2 : Int32) (v3 : Int32) (M : Mm)  {res : Int32 × Mm} (hw : F_G_begin v1 v2 v3 M = some res) : CtI Z y_G_begin ws_G_begin (({ frames := 2, cells := 0, slots := 0, locals := 44 })) [.ref (za Z 0 0), .int v1, .int v2, .int v3] M res := by
  refine CtI.of hL (cc := c_G_begin) (maxL := 4) (by decide) rfl (Nat.le_of_ble_eq_true rfl) (fun X h hQ => ?_)
  show G Z X M 0 [(0, .ref (za Z 0 0)), (1, .int v1), (2, .int v2), (3, .int v3)] []
  rw [F_G_begin] at hw
  refine g_iload_n h d_G_begin_0 rfl rfl ?_
  refine g_if_eq (tgt := 17) h d_G_begin_1 (by decide) (fun c7 => ?_) (fun c7 => ?_)
  · have hw := o_t c7 hw
    refine g_sub [0, 1, 2, 3] rfl ?_
    exact w_G_begin_b17 hL h hQ  v1 v2 v3 M hw
  · have hw := o_f c7 hw
    refine g_aload_n h d_G_begin_4 rfl rfl ?_
    refine g_getR (t := 0) (i := 0) (k := 0) (C := "FlowGate") (T := T_G) (N := 6) h hL rfl (by decide) ob_0 (by decide) rfl (t' := 1) (i' := 0) rfl rfl (fun w hw => mc (in_G w hw)) (mc m_fl_G_10) rfl d_G_begin_5 ?_
    refine g_iload_n h d_G_begin_8 rfl rfl ?_
    refine g_calli h (g_runV (rest := []) h (ct_T_isValue hL v1 M (p_T_isValue v1 M)) (cwV 1 h.2.2.2.2.1 (g_V m_ml_G_54 m_im_T_isValue m_se_T_isValue m_in_T m_co_T_isValue) rfl rfl rfl (by decide +kernel) ⟨Nat.le_of_ble_eq_true rfl, Nat.le_of_ble_eq_true rfl⟩) (hL.recv h rfl (by decide) ob_1) rfl rfl (Nat.le_of_ble_eq_true rfl) d_G_begin_9) ?_
    refine g_topi (fun r9 er9 => ?_)
    have hw := o_l hw r9 er9
    refine g_if_ne (tgt := 17) h d_G_begin_12 (by decide) (fun c10 => ?_) (fun c10 => ?_)
    · have hw := o_f c10 hw
      refine g_sub [0, 1, 2, 3] rfl ?_
      exact w_G_begin_b17 hL h hQ  v1 v2 v3 M hw
    · have hw := o_t c10 hw
      refine g_iconst (v := -1) h d_G_begin_15 (by decide) ?_
      exact g_iret h hQ d_G_begin_16 hw
set_option maxHeartbeats 4000000 in
set_option maxRecDepth 100000 in
theorem ct_M_appendArgument {Z : ZT} (hL : Lay Z sC) (v1 : Int32) (M : Mm)  {res : Int32 × Mm} (hw : F_M_appendArgument v1 M = some res) : CtI Z y_M_appendArgument ws_M_appendArgument (({ frames := 0, cells := 0, slots := 0, locals := 0 })) [.ref (za Z 4 0), .int v1] M res := by
  refine CtI.of hL (cc := c_M_appendArgument) (maxL := 2) (by decide) rfl (Nat.le_of_ble_eq_true rfl) (fun X h hQ => ?_)
  show G Z X M 0 [(0, .ref (za Z 4 0)), (1, .int v1)] []
  rw [F_M_appendArgument] at hw
  refine g_aload_n h d_M_appendArgument_0 rfl rfl ?_
  refine g_getR (t := 4) (i := 0) (k := 9) (C := "FlowGate$Method") (T := T_M) (N := 14) h hL rfl (by decide) ob_4 (by decide) rfl (t' := 12) (i' := 0) rfl rfl (fun w hw => mc (in_M w hw)) (mc m_fl_M_33) rfl d_M_appendArgument_1 ?_
  refine g_aload_n h d_M_appendArgument_4 rfl rfl ?_
  refine g_getI (t := 4) (i := 0) (k := 10) (C := "FlowGate$Method") (T := T_M) (N := 14) h hL rfl (by decide) ob_4 (by decide) rfl (fun w hw => mc (in_M w hw)) (mc m_fl_M_52) rfl d_M_appendArgument_5 ?_
  refine g_iload_n h d_M_appendArgument_8 rfl rfl ?_
  obtain ⟨hv1, hw⟩ := o_in hw
  refine g_iast (t := 12) (i := 0) h hL rfl (by decide) rfl rfl hv1 d_M_appendArgument_9 ?_
  refine g_mem (fun M2 eM2 => ?_)
  have hw := o_l hw M2 eM2
  refine g_aload_n h d_M_appendArgument_10 rfl rfl ?_
  refine g_dup h d_M_appendArgument_11 rfl ?_
  refine g_getI (t := 4) (i := 0) (k := 10) (C := "FlowGate$Method") (T := T_M) (N := 14) h hL rfl (by decide) ob_4 (by decide) rfl (fun w hw => mc (in_M w hw)) (mc m_fl_M_52) rfl d_M_appendArgument_12 ?_
  refine g_iconst (v := 1) h d_M_appendArgument_15 (by decide) ?_
  refine g_iadd h d_M_appendArgument_16 ?_
  refine g_putI (t := 4) (i := 0) (k := 10) (C := "FlowGate$Method") (T := T_M) (N := 14) h hL rfl (by decide) ob_4 (by decide) rfl (fun w hw => mc (in_M w hw)) ty_M ty_M_ok nm_M (mc m_fl_M_52) rfl rfl rfl d_M_appendArgument_17 ?_
  refine g_mem (fun M3 eM3 => ?_)
  have hw := o_l hw M3 eM3
  refine g_aload_n h d_M_appendArgument_20 rfl rfl ?_
  refine g_getI (t := 4) (i := 0) (k := 10) (C := "FlowGate$Method") (T := T_M) (N := 14) h hL rfl (by decide) ob_4 (by decide) rfl (fun w hw => mc (in_M w hw)) (mc m_fl_M_52) rfl d_M_appendArgument_21 ?_
  exact g_iret h hQ d_M_appendArgument_24 hw
set_option maxHeartbeats 4000000 in
set_option maxRecDepth 100000 in
theorem ct_G_argument {Z : ZT} (hL : Lay Z sC) (v1 : Int32) (M : Mm)  {res : Int32 × Mm} (hw : F_G_argument v1 M = some res) : CtI Z y_G_argument ws_G_argument (({ frames := 2, cells := 0, slots := 0, locals := 44 })) [.ref (za Z 0 0), .int v1] M res := by
  refine CtI.of hL (cc := c_G_argument) (maxL := 2) (by decide) rfl (Nat.le_of_ble_eq_true rfl) (fun X h hQ => ?_)
  show G Z X M 0 [(0, .ref (za Z 0 0)), (1, .int v1)] []
  rw [F_G_argument] at hw
  refine g_aload_n h d_G_argument_0 rfl rfl ?_
  refine g_getR (t := 0) (i := 0) (k := 0) (C := "FlowGate") (T := T_G) (N := 6) h hL rfl (by decide) ob_0 (by decide) rfl (t' := 1) (i' := 0) rfl rfl (fun w hw => mc (in_G w hw)) (mc m_fl_G_10) rfl d_G_argument_1 ?_
  refine g_iload_n h d_G_argument_4 rfl rfl ?_
  refine g_calli h (g_runV (rest := []) h (ct_T_isValue hL v1 M (p_T_isValue v1 M)) (cwV 1 h.2.2.2.2.1 (g_V m_ml_G_54 m_im_T_isValue m_se_T_isValue m_in_T m_co_T_isValue) rfl rfl rfl (by decide +kernel) ⟨Nat.le_of_ble_eq_true rfl, Nat.le_of_ble_eq_true rfl⟩) (hL.recv h rfl (by decide) ob_1) rfl rfl (Nat.le_of_ble_eq_true rfl) d_G_argument_5) ?_
  refine g_topi (fun r2 er2 => ?_)
  have hw := o_l hw r2 er2
  refine g_if_ne (tgt := 13) h d_G_argument_8 (by decide) (fun c3 => ?_) (fun c3 => ?_)
  · have hw := o_f c3 hw
    refine g_aload_n h d_G_argument_13 rfl rfl ?_
    refine g_getR (t := 0) (i := 0) (k := 1) (C := "FlowGate") (T := T_G) (N := 6) h hL rfl (by decide) ob_0 (by decide) rfl (t' := 4) (i' := 0) rfl rfl (fun w hw => mc (in_G w hw)) (mc m_fl_G_19) rfl d_G_argument_14 ?_
    refine g_getI (t := 4) (i := 0) (k := 10) (C := "FlowGate$Method") (T := T_M) (N := 14) h hL rfl (by decide) ob_4 (by decide) rfl (fun w hw => mc (in_M w hw)) (mc m_fl_G_61) rfl d_G_argument_17 ?_
    refine g_bipush (v := 6) h d_G_argument_20 (by decide) ?_
    refine g_icmp_ne (tgt := 28) h d_G_argument_22 (by decide) (fun c4 => ?_) (fun c4 => ?_)
    · have hw := o_f c4 hw
      refine g_aload_n h d_G_argument_28 rfl rfl ?_
      refine g_getR (t := 0) (i := 0) (k := 1) (C := "FlowGate") (T := T_G) (N := 6) h hL rfl (by decide) ob_0 (by decide) rfl (t' := 4) (i' := 0) rfl rfl (fun w hw => mc (in_G w hw)) (mc m_fl_G_19) rfl d_G_argument_29 ?_
      refine g_iload_n h d_G_argument_32 rfl rfl ?_
      obtain ⟨r7, M6, hc5, hw⟩ := o_b hw
      refine g_calli h (g_runV (rest := []) h (ct_M_appendArgument hL v1 M hc5) (cwV 1 h.2.2.2.2.1 (g_V m_ml_G_64 m_im_M_appendArgument m_se_M_appendArgument m_in_M m_co_M_appendArgument) rfl rfl rfl (by decide +kernel) ⟨Nat.le_of_ble_eq_true rfl, Nat.le_of_ble_eq_true rfl⟩) (hL.recv h rfl (by decide) ob_4) rfl rfl (Nat.le_of_ble_eq_true rfl) d_G_argument_33) ?_
      exact g_iret h hQ d_G_argument_36 hw
    · have hw := o_t c4 hw
      refine g_bipush (v := -2) h d_G_argument_25 (by decide) ?_
      exact g_iret h hQ d_G_argument_27 hw
  · have hw := o_t c3 hw
    refine g_iconst (v := -1) h d_G_argument_11 (by decide) ?_
    exact g_iret h hQ d_G_argument_12 hw
set_option maxHeartbeats 4000000 in
set_option maxRecDepth 100000 in
theorem ct_G_isOp {Z : ZT} (hL : Lay Z sC) (v0 : Int32) (M : Mm)  {res : Int32 × Mm} (hw : F_G_isOp v0 M = some res) : CtI Z y_G_isOp ws_G_isOp (({ frames := 0, cells := 0, slots := 0, locals := 0 })) [.int v0] M res := by
  refine CtI.of hL (cc := c_G_isOp) (maxL := 1) (by decide) rfl (Nat.le_of_ble_eq_true rfl) (fun X h hQ => ?_)
  show G Z X M 0 [(0, .int v0)] []
  rw [F_G_isOp] at hw
  refine g_iload_n h d_G_isOp_0 rfl rfl ?_
  refine g_if_lt (tgt := 14) h d_G_isOp_1 (by decide) (fun c1 => ?_) (fun c1 => ?_)
  · have hw := o_t c1 hw
    refine g_iconst (v := 0) h d_G_isOp_14 (by decide) ?_
    exact g_zret h hQ d_G_isOp_15 rfl hw
  · have hw := o_f c1 hw
    refine g_iload_n h d_G_isOp_4 rfl rfl ?_
    refine g_bipush (v := 30) h d_G_isOp_5 (by decide) ?_
    refine g_icmp_gt (tgt := 14) h d_G_isOp_7 (by decide) (fun c2 => ?_) (fun c2 => ?_)
    · have hw := o_t c2 hw
      refine g_iconst (v := 0) h d_G_isOp_14 (by decide) ?_
      exact g_zret h hQ d_G_isOp_15 rfl hw
    · have hw := o_f c2 hw
      refine g_iconst (v := 1) h d_G_isOp_10 (by decide) ?_
      refine g_goto (tgt := 15) h d_G_isOp_11 (by decide) ?_
      exact g_zret h hQ d_G_isOp_15 rfl hw
set_option maxHeartbeats 4000000 in
set_option maxRecDepth 100000 in
theorem ct_M_write {Z : ZT} (hL : Lay Z sC) (v1 : Int32) (v2 : Int32) (v3 : Int32) (v4 : Int32) (M : Mm)  {res : Mm} (hw : F_M_write v1 v2 v3 v4 M = some res) : CtV Z y_M_write ws_M_write (({ frames := 0, cells := 0, slots := 0, locals := 0 })) [.ref (za Z 4 0), .int v1, .int v2, .int v3, .int v4] M res := by
  refine CtV.of hL (cc := c_M_write) (maxL := 5) (by decide) rfl (Nat.le_of_ble_eq_true rfl) (fun X h hQ => ?_)
  show G Z X M 0 [(0, .ref (za Z 4 0)), (1, .int v1), (2, .int v2), (3, .int v3), (4, .int v4)] []
  rw [F_M_write] at hw
  refine g_aload_n h d_M_write_0 rfl rfl ?_
  refine g_getR (t := 4) (i := 0) (k := 0) (C := "FlowGate$Method") (T := T_M) (N := 14) h hL rfl (by decide) ob_4 (by decide) rfl (t' := 5) (i' := 0) rfl rfl (fun w hw => mc (in_M w hw)) (mc m_fl_M_9) rfl d_M_write_1 ?_
  refine g_iload_n h d_M_write_4 rfl rfl ?_
  refine g_iload_n h d_M_write_5 rfl rfl ?_
  obtain ⟨hv1, hw⟩ := o_in hw
  refine g_iast (t := 5) (i := 0) h hL rfl (by decide) rfl rfl hv1 d_M_write_6 ?_
  refine g_mem (fun M2 eM2 => ?_)
  have hw := o_l hw M2 eM2
  refine g_aload_n h d_M_write_7 rfl rfl ?_
  refine g_getR (t := 4) (i := 0) (k := 1) (C := "FlowGate$Method") (T := T_M) (N := 14) h hL rfl (by decide) ob_4 (by decide) rfl (t' := 6) (i' := 0) rfl rfl (fun w hw => mc (in_M w hw)) (mc m_fl_M_15) rfl d_M_write_8 ?_
  refine g_iload_n h d_M_write_11 rfl rfl ?_
  refine g_iload_n h d_M_write_12 rfl rfl ?_
  obtain ⟨hv3, hw⟩ := o_in hw
  refine g_iast (t := 6) (i := 0) h hL rfl (by decide) rfl rfl hv3 d_M_write_13 ?_
  refine g_mem (fun M4 eM4 => ?_)
  have hw := o_l hw M4 eM4
  refine g_aload_n h d_M_write_14 rfl rfl ?_
  refine g_getR (t := 4) (i := 0) (k := 2) (C := "FlowGate$Method") (T := T_M) (N := 14) h hL rfl (by decide) ob_4 (by decide) rfl (t' := 7) (i' := 0) rfl rfl (fun w hw => mc (in_M w hw)) (mc m_fl_M_18) rfl d_M_write_15 ?_
  refine g_iload_n h d_M_write_18 rfl rfl ?_
  refine g_iload h d_M_write_19 rfl ?_
  obtain ⟨hv5, hw⟩ := o_in hw
  refine g_iast (t := 7) (i := 0) h hL rfl (by decide) rfl rfl hv5 d_M_write_21 ?_
  refine g_mem (fun M6 eM6 => ?_)
  have hw := o_l hw M6 eM6
  exact g_vret h hQ d_M_write_22 hw
set_option maxHeartbeats 4000000 in
set_option maxRecDepth 100000 in
theorem ct_M_append {Z : ZT} (hL : Lay Z sC) (v1 : Int32) (v2 : Int32) (v3 : Int32) (M : Mm)  {res : Int32 × Mm} (hw : F_M_append v1 v2 v3 M = some res) : CtI Z y_M_append ws_M_append (({ frames := 1, cells := 0, slots := 0, locals := 24 })) [.ref (za Z 4 0), .int v1, .int v2, .int v3] M res := by
  refine CtI.of hL (cc := c_M_append) (maxL := 4) (by decide) rfl (Nat.le_of_ble_eq_true rfl) (fun X h hQ => ?_)
  show G Z X M 0 [(0, .ref (za Z 4 0)), (1, .int v1), (2, .int v2), (3, .int v3)] []
  rw [F_M_append] at hw
  refine g_aload_n h d_M_append_0 rfl rfl ?_
  refine g_aload_n h d_M_append_1 rfl rfl ?_
  refine g_getI (t := 4) (i := 0) (k := 3) (C := "FlowGate$Method") (T := T_M) (N := 14) h hL rfl (by decide) ob_4 (by decide) rfl (fun w hw => mc (in_M w hw)) (mc m_fl_M_46) rfl d_M_append_2 ?_
  refine g_iload_n h d_M_append_5 rfl rfl ?_
  refine g_iload_n h d_M_append_6 rfl rfl ?_
  refine g_iload_n h d_M_append_7 rfl rfl ?_
  obtain ⟨M2, hc1, hw⟩ := o_v hw
  refine g_callv h (g_runV (rest := []) h (ct_M_write hL (M.1 4 0 3) v1 v2 v3 M hc1) (cwV 4 h.2.2.2.2.1 (g_V m_ml_M_55 m_im_M_write m_se_M_write m_in_M m_co_M_write) rfl rfl rfl (by decide +kernel) ⟨Nat.le_of_ble_eq_true rfl, Nat.le_of_ble_eq_true rfl⟩) (hL.recv h rfl (by decide) ob_4) rfl rfl (Nat.le_of_ble_eq_true rfl) d_M_append_8) ?_
  refine g_aload_n h d_M_append_11 rfl rfl ?_
  refine g_dup h d_M_append_12 rfl ?_
  refine g_getI (t := 4) (i := 0) (k := 3) (C := "FlowGate$Method") (T := T_M) (N := 14) h hL rfl (by decide) ob_4 (by decide) rfl (fun w hw => mc (in_M w hw)) (mc m_fl_M_46) rfl d_M_append_13 ?_
  refine g_iconst (v := 1) h d_M_append_16 (by decide) ?_
  refine g_iadd h d_M_append_17 ?_
  refine g_putI (t := 4) (i := 0) (k := 3) (C := "FlowGate$Method") (T := T_M) (N := 14) h hL rfl (by decide) ob_4 (by decide) rfl (fun w hw => mc (in_M w hw)) ty_M ty_M_ok nm_M (mc m_fl_M_46) rfl rfl rfl d_M_append_18 ?_
  refine g_mem (fun M3 eM3 => ?_)
  have hw := o_l hw M3 eM3
  refine g_aload_n h d_M_append_21 rfl rfl ?_
  refine g_getI (t := 4) (i := 0) (k := 3) (C := "FlowGate$Method") (T := T_M) (N := 14) h hL rfl (by decide) ob_4 (by decide) rfl (fun w hw => mc (in_M w hw)) (mc m_fl_M_46) rfl d_M_append_22 ?_
  refine g_iconst (v := 1) h d_M_append_25 (by decide) ?_
  refine g_isub h d_M_append_26 ?_
  exact g_iret h hQ d_M_append_27 hw
set_option maxHeartbeats 4000000 in
set_option maxRecDepth 100000 in
theorem ct_G_add {Z : ZT} (hL : Lay Z sC) (v1 : Int32) (v2 : Int32) (v3 : Int32) (M : Mm)  {res : Int32 × Mm} (hw : F_G_add v1 v2 v3 M = some res) : CtI Z y_G_add ws_G_add (({ frames := 2, cells := 0, slots := 0, locals := 47 })) [.ref (za Z 0 0), .int v1, .int v2, .int v3] M res := by
  refine CtI.of hL (cc := c_G_add) (maxL := 4) (by decide) rfl (Nat.le_of_ble_eq_true rfl) (fun X h hQ => ?_)
  show G Z X M 0 [(0, .ref (za Z 0 0)), (1, .int v1), (2, .int v2), (3, .int v3)] []
  rw [F_G_add] at hw
  refine g_iload_n h d_G_add_0 rfl rfl ?_
  refine g_calli h (g_runS (rest := []) h (ct_G_isOp hL v1 M (p_G_isOp v1 M)) (cwS 1 h.2.2.2.2.1 (g_S m_ml_G_68 m_st_G_isOp m_in_G m_co_G_isOp) rfl rfl rfl (by decide +kernel) ⟨Nat.le_of_ble_eq_true rfl, Nat.le_of_ble_eq_true rfl⟩) rfl rfl (Nat.le_of_ble_eq_true rfl) d_G_add_1) ?_
  refine g_topi (fun r2 er2 => ?_)
  have hw := o_l hw r2 er2
  refine g_if_ne (tgt := 9) h d_G_add_4 (by decide) (fun c3 => ?_) (fun c3 => ?_)
  · have hw := o_f c3 hw
    refine g_aload_n h d_G_add_9 rfl rfl ?_
    refine g_getR (t := 0) (i := 0) (k := 1) (C := "FlowGate") (T := T_G) (N := 6) h hL rfl (by decide) ob_0 (by decide) rfl (t' := 4) (i' := 0) rfl rfl (fun w hw => mc (in_G w hw)) (mc m_fl_G_19) rfl d_G_add_10 ?_
    refine g_getI (t := 4) (i := 0) (k := 3) (C := "FlowGate$Method") (T := T_M) (N := 14) h hL rfl (by decide) ob_4 (by decide) rfl (fun w hw => mc (in_M w hw)) (mc m_fl_G_71) rfl d_G_add_13 ?_
    refine g_bipush (v := 48) h d_G_add_16 (by decide) ?_
    refine g_icmp_ne (tgt := 24) h d_G_add_18 (by decide) (fun c4 => ?_) (fun c4 => ?_)
    · have hw := o_f c4 hw
      refine g_aload_n h d_G_add_24 rfl rfl ?_
      refine g_getR (t := 0) (i := 0) (k := 1) (C := "FlowGate") (T := T_G) (N := 6) h hL rfl (by decide) ob_0 (by decide) rfl (t' := 4) (i' := 0) rfl rfl (fun w hw => mc (in_G w hw)) (mc m_fl_G_19) rfl d_G_add_25 ?_
      refine g_iload_n h d_G_add_28 rfl rfl ?_
      refine g_iload_n h d_G_add_29 rfl rfl ?_
      refine g_iload_n h d_G_add_30 rfl rfl ?_
      obtain ⟨r7, M6, hc5, hw⟩ := o_b hw
      refine g_calli h (g_runV (rest := []) h (ct_M_append hL v1 v2 v3 M hc5) (cwV 3 h.2.2.2.2.1 (g_V m_ml_G_72 m_im_M_append m_se_M_append m_in_M m_co_M_append) rfl rfl rfl (by decide +kernel) ⟨Nat.le_of_ble_eq_true rfl, Nat.le_of_ble_eq_true rfl⟩) (hL.recv h rfl (by decide) ob_4) rfl rfl (Nat.le_of_ble_eq_true rfl) d_G_add_31) ?_
      exact g_iret h hQ d_G_add_34 hw
    · have hw := o_t c4 hw
      refine g_bipush (v := -2) h d_G_add_21 (by decide) ?_
      exact g_iret h hQ d_G_add_23 hw
  · have hw := o_t c3 hw
    refine g_iconst (v := -1) h d_G_add_7 (by decide) ?_
    exact g_iret h hQ d_G_add_8 hw
set_option maxHeartbeats 4000000 in
set_option maxRecDepth 100000 in
theorem ct_M_hasInstruction {Z : ZT} (hL : Lay Z sC) (v1 : Int32) (M : Mm)  {res : Int32 × Mm} (hw : F_M_hasInstruction v1 M = some res) : CtI Z y_M_hasInstruction ws_M_hasInstruction (({ frames := 0, cells := 0, slots := 0, locals := 0 })) [.ref (za Z 4 0), .int v1] M res := by
  refine CtI.of hL (cc := c_M_hasInstruction) (maxL := 2) (by decide) rfl (Nat.le_of_ble_eq_true rfl) (fun X h hQ => ?_)
  show G Z X M 0 [(0, .ref (za Z 4 0)), (1, .int v1)] []
  rw [F_M_hasInstruction] at hw
  refine g_iload_n h d_M_hasInstruction_0 rfl rfl ?_
  refine g_if_lt (tgt := 16) h d_M_hasInstruction_1 (by decide) (fun c1 => ?_) (fun c1 => ?_)
  · have hw := o_t c1 hw
    refine g_iconst (v := 0) h d_M_hasInstruction_16 (by decide) ?_
    exact g_zret h hQ d_M_hasInstruction_17 rfl hw
  · have hw := o_f c1 hw
    refine g_iload_n h d_M_hasInstruction_4 rfl rfl ?_
    refine g_aload_n h d_M_hasInstruction_5 rfl rfl ?_
    refine g_getI (t := 4) (i := 0) (k := 3) (C := "FlowGate$Method") (T := T_M) (N := 14) h hL rfl (by decide) ob_4 (by decide) rfl (fun w hw => mc (in_M w hw)) (mc m_fl_M_46) rfl d_M_hasInstruction_6 ?_
    refine g_icmp_ge (tgt := 16) h d_M_hasInstruction_9 (by decide) (fun c2 => ?_) (fun c2 => ?_)
    · have hw := o_t c2 hw
      refine g_iconst (v := 0) h d_M_hasInstruction_16 (by decide) ?_
      exact g_zret h hQ d_M_hasInstruction_17 rfl hw
    · have hw := o_f c2 hw
      refine g_iconst (v := 1) h d_M_hasInstruction_12 (by decide) ?_
      refine g_goto (tgt := 17) h d_M_hasInstruction_13 (by decide) ?_
      exact g_zret h hQ d_M_hasInstruction_17 rfl hw
set_option maxHeartbeats 4000000 in
set_option maxRecDepth 100000 in
theorem ct_G_change {Z : ZT} (hL : Lay Z sC) (v1 : Int32) (v2 : Int32) (v3 : Int32) (v4 : Int32) (M : Mm)  {res : Int32 × Mm} (hw : F_G_change v1 v2 v3 v4 M = some res) : CtI Z y_G_change ws_G_change (({ frames := 1, cells := 0, slots := 0, locals := 24 })) [.ref (za Z 0 0), .int v1, .int v2, .int v3, .int v4] M res := by
  refine CtI.of hL (cc := c_G_change) (maxL := 6) (by decide) rfl (Nat.le_of_ble_eq_true rfl) (fun X h hQ => ?_)
  show G Z X M 0 [(0, .ref (za Z 0 0)), (1, .int v1), (2, .int v2), (3, .int v3), (4, .int v4)] []
  rw [F_G_change] at hw
  refine g_aload_n h d_G_change_0 rfl rfl ?_
  refine g_getR (t := 0) (i := 0) (k := 1) (C := "FlowGate") (T := T_G) (N := 6) h hL rfl (by decide) ob_0 (by decide) rfl (t' := 4) (i' := 0) rfl rfl (fun w hw => mc (in_G w hw)) (mc m_fl_G_19) rfl d_G_change_1 ?_
  refine g_iload_n h d_G_change_4 rfl rfl ?_
  refine g_calli h (g_runV (rest := []) h (ct_M_hasInstruction hL v1 M (p_M_hasInstruction v1 M)) (cwV 1 h.2.2.2.2.1 (g_V m_ml_G_75 m_im_M_hasInstruction m_se_M_hasInstruction m_in_M m_co_M_hasInstruction) rfl rfl rfl (by decide +kernel) ⟨Nat.le_of_ble_eq_true rfl, Nat.le_of_ble_eq_true rfl⟩) (hL.recv h rfl (by decide) ob_4) rfl rfl (Nat.le_of_ble_eq_true rfl) d_G_change_5) ?_
  refine g_topi (fun r2 er2 => ?_)
  have hw := o_l hw r2 er2
  refine g_if_eq (tgt := 18) h d_G_change_8 (by decide) (fun c3 => ?_) (fun c3 => ?_)
  · have hw := o_t c3 hw
    refine g_iconst (v := -1) h d_G_change_18 (by decide) ?_
    exact g_iret h hQ d_G_change_19 hw
  · have hw := o_f c3 hw
    refine g_iload_n h d_G_change_11 rfl rfl ?_
    refine g_calli h (g_runS (rest := []) h (ct_G_isOp hL v2 M (p_G_isOp v2 M)) (cwS 1 h.2.2.2.2.1 (g_S m_ml_G_68 m_st_G_isOp m_in_G m_co_G_isOp) rfl rfl rfl (by decide +kernel) ⟨Nat.le_of_ble_eq_true rfl, Nat.le_of_ble_eq_true rfl⟩) rfl rfl (Nat.le_of_ble_eq_true rfl) d_G_change_12) ?_
    refine g_topi (fun r5 er5 => ?_)
    have hw := o_l hw r5 er5
    refine g_if_ne (tgt := 20) h d_G_change_15 (by decide) (fun c6 => ?_) (fun c6 => ?_)
    · have hw := o_f c6 hw
      refine g_aload_n h d_G_change_20 rfl rfl ?_
      refine g_getR (t := 0) (i := 0) (k := 1) (C := "FlowGate") (T := T_G) (N := 6) h hL rfl (by decide) ob_0 (by decide) rfl (t' := 4) (i' := 0) rfl rfl (fun w hw => mc (in_G w hw)) (mc m_fl_G_19) rfl d_G_change_21 ?_
      refine g_getR (t := 4) (i := 0) (k := 0) (C := "FlowGate$Method") (T := T_M) (N := 14) h hL rfl (by decide) ob_4 (by decide) rfl (t' := 5) (i' := 0) rfl rfl (fun w hw => mc (in_M w hw)) (mc m_fl_G_78) rfl d_G_change_24 ?_
      refine g_iload_n h d_G_change_27 rfl rfl ?_
      obtain ⟨hv7, hw⟩ := o_in hw
      refine g_iald (t := 5) (i := 0) h hL rfl (by decide) rfl rfl hv7 d_G_change_28 ?_
      refine g_topi (fun n8 en8 => ?_)
      have hw := o_l hw n8 en8
      refine g_istore (lv' := [(5, .int n8), (0, .ref (za Z 0 0)), (1, .int v1), (2, .int v2), (3, .int v3), (4, .int v4)]) h d_G_change_29 (by decide) rfl ?_
      refine g_aload_n h d_G_change_31 rfl rfl ?_
      refine g_getR (t := 0) (i := 0) (k := 1) (C := "FlowGate") (T := T_G) (N := 6) h hL rfl (by decide) ob_0 (by decide) rfl (t' := 4) (i' := 0) rfl rfl (fun w hw => mc (in_G w hw)) (mc m_fl_G_19) rfl d_G_change_32 ?_
      refine g_iload_n h d_G_change_35 rfl rfl ?_
      refine g_iload_n h d_G_change_36 rfl rfl ?_
      refine g_iload_n h d_G_change_37 rfl rfl ?_
      refine g_iload h d_G_change_38 rfl ?_
      obtain ⟨M10, hc9, hw⟩ := o_v hw
      refine g_callv h (g_runV (rest := []) h (ct_M_write hL v1 v2 v3 v4 M hc9) (cwV 4 h.2.2.2.2.1 (g_V m_ml_G_82 m_im_M_write m_se_M_write m_in_M m_co_M_write) rfl rfl rfl (by decide +kernel) ⟨Nat.le_of_ble_eq_true rfl, Nat.le_of_ble_eq_true rfl⟩) (hL.recv h rfl (by decide) ob_4) rfl rfl (Nat.le_of_ble_eq_true rfl) d_G_change_40) ?_
      refine g_iload h d_G_change_43 rfl ?_
      exact g_iret h hQ d_G_change_45 hw
    · have hw := o_t c6 hw
      refine g_iconst (v := -1) h d_G_change_18 (by decide) ?_
      exact g_iret h hQ d_G_change_19 hw
set_option maxHeartbeats 4000000 in
set_option maxRecDepth 100000 in
theorem ct_M_appendHandler {Z : ZT} (hL : Lay Z sC) (v1 : Int32) (v2 : Int32) (v3 : Int32) (v4 : Int32) (M : Mm)  {res : Int32 × Mm} (hw : F_M_appendHandler v1 v2 v3 v4 M = some res) : CtI Z y_M_appendHandler ws_M_appendHandler (({ frames := 0, cells := 0, slots := 0, locals := 0 })) [.ref (za Z 4 0), .int v1, .int v2, .int v3, .int v4] M res := by
  refine CtI.of hL (cc := c_M_appendHandler) (maxL := 5) (by decide) rfl (Nat.le_of_ble_eq_true rfl) (fun X h hQ => ?_)
  show G Z X M 0 [(0, .ref (za Z 4 0)), (1, .int v1), (2, .int v2), (3, .int v3), (4, .int v4)] []
  rw [F_M_appendHandler] at hw
  refine g_aload_n h d_M_appendHandler_0 rfl rfl ?_
  refine g_getR (t := 4) (i := 0) (k := 4) (C := "FlowGate$Method") (T := T_M) (N := 14) h hL rfl (by decide) ob_4 (by decide) rfl (t' := 8) (i' := 0) rfl rfl (fun w hw => mc (in_M w hw)) (mc m_fl_M_21) rfl d_M_appendHandler_1 ?_
  refine g_aload_n h d_M_appendHandler_4 rfl rfl ?_
  refine g_getI (t := 4) (i := 0) (k := 8) (C := "FlowGate$Method") (T := T_M) (N := 14) h hL rfl (by decide) ob_4 (by decide) rfl (fun w hw => mc (in_M w hw)) (mc m_fl_M_49) rfl d_M_appendHandler_5 ?_
  refine g_iload_n h d_M_appendHandler_8 rfl rfl ?_
  obtain ⟨hv1, hw⟩ := o_in hw
  refine g_iast (t := 8) (i := 0) h hL rfl (by decide) rfl rfl hv1 d_M_appendHandler_9 ?_
  refine g_mem (fun M2 eM2 => ?_)
  have hw := o_l hw M2 eM2
  refine g_aload_n h d_M_appendHandler_10 rfl rfl ?_
  refine g_getR (t := 4) (i := 0) (k := 5) (C := "FlowGate$Method") (T := T_M) (N := 14) h hL rfl (by decide) ob_4 (by decide) rfl (t' := 9) (i' := 0) rfl rfl (fun w hw => mc (in_M w hw)) (mc m_fl_M_24) rfl d_M_appendHandler_11 ?_
  refine g_aload_n h d_M_appendHandler_14 rfl rfl ?_
  refine g_getI (t := 4) (i := 0) (k := 8) (C := "FlowGate$Method") (T := T_M) (N := 14) h hL rfl (by decide) ob_4 (by decide) rfl (fun w hw => mc (in_M w hw)) (mc m_fl_M_49) rfl d_M_appendHandler_15 ?_
  refine g_iload_n h d_M_appendHandler_18 rfl rfl ?_
  obtain ⟨hv3, hw⟩ := o_in hw
  refine g_iast (t := 9) (i := 0) h hL rfl (by decide) rfl rfl hv3 d_M_appendHandler_19 ?_
  refine g_mem (fun M4 eM4 => ?_)
  have hw := o_l hw M4 eM4
  refine g_aload_n h d_M_appendHandler_20 rfl rfl ?_
  refine g_getR (t := 4) (i := 0) (k := 6) (C := "FlowGate$Method") (T := T_M) (N := 14) h hL rfl (by decide) ob_4 (by decide) rfl (t' := 10) (i' := 0) rfl rfl (fun w hw => mc (in_M w hw)) (mc m_fl_M_27) rfl d_M_appendHandler_21 ?_
  refine g_aload_n h d_M_appendHandler_24 rfl rfl ?_
  refine g_getI (t := 4) (i := 0) (k := 8) (C := "FlowGate$Method") (T := T_M) (N := 14) h hL rfl (by decide) ob_4 (by decide) rfl (fun w hw => mc (in_M w hw)) (mc m_fl_M_49) rfl d_M_appendHandler_25 ?_
  refine g_iload_n h d_M_appendHandler_28 rfl rfl ?_
  obtain ⟨hv5, hw⟩ := o_in hw
  refine g_iast (t := 10) (i := 0) h hL rfl (by decide) rfl rfl hv5 d_M_appendHandler_29 ?_
  refine g_mem (fun M6 eM6 => ?_)
  have hw := o_l hw M6 eM6
  refine g_aload_n h d_M_appendHandler_30 rfl rfl ?_
  refine g_getR (t := 4) (i := 0) (k := 7) (C := "FlowGate$Method") (T := T_M) (N := 14) h hL rfl (by decide) ob_4 (by decide) rfl (t' := 11) (i' := 0) rfl rfl (fun w hw => mc (in_M w hw)) (mc m_fl_M_30) rfl d_M_appendHandler_31 ?_
  refine g_aload_n h d_M_appendHandler_34 rfl rfl ?_
  refine g_getI (t := 4) (i := 0) (k := 8) (C := "FlowGate$Method") (T := T_M) (N := 14) h hL rfl (by decide) ob_4 (by decide) rfl (fun w hw => mc (in_M w hw)) (mc m_fl_M_49) rfl d_M_appendHandler_35 ?_
  refine g_iload h d_M_appendHandler_38 rfl ?_
  obtain ⟨hv7, hw⟩ := o_in hw
  refine g_iast (t := 11) (i := 0) h hL rfl (by decide) rfl rfl hv7 d_M_appendHandler_40 ?_
  refine g_mem (fun M8 eM8 => ?_)
  have hw := o_l hw M8 eM8
  refine g_aload_n h d_M_appendHandler_41 rfl rfl ?_
  refine g_dup h d_M_appendHandler_42 rfl ?_
  refine g_getI (t := 4) (i := 0) (k := 8) (C := "FlowGate$Method") (T := T_M) (N := 14) h hL rfl (by decide) ob_4 (by decide) rfl (fun w hw => mc (in_M w hw)) (mc m_fl_M_49) rfl d_M_appendHandler_43 ?_
  refine g_iconst (v := 1) h d_M_appendHandler_46 (by decide) ?_
  refine g_iadd h d_M_appendHandler_47 ?_
  refine g_putI (t := 4) (i := 0) (k := 8) (C := "FlowGate$Method") (T := T_M) (N := 14) h hL rfl (by decide) ob_4 (by decide) rfl (fun w hw => mc (in_M w hw)) ty_M ty_M_ok nm_M (mc m_fl_M_49) rfl rfl rfl d_M_appendHandler_48 ?_
  refine g_mem (fun M9 eM9 => ?_)
  have hw := o_l hw M9 eM9
  refine g_aload_n h d_M_appendHandler_51 rfl rfl ?_
  refine g_getI (t := 4) (i := 0) (k := 8) (C := "FlowGate$Method") (T := T_M) (N := 14) h hL rfl (by decide) ob_4 (by decide) rfl (fun w hw => mc (in_M w hw)) (mc m_fl_M_49) rfl d_M_appendHandler_52 ?_
  exact g_iret h hQ d_M_appendHandler_55 hw
set_option maxHeartbeats 4000000 in
set_option maxRecDepth 100000 in
theorem ct_G_handler {Z : ZT} (hL : Lay Z sC) (v1 : Int32) (v2 : Int32) (v3 : Int32) (v4 : Int32) (M : Mm)  {res : Int32 × Mm} (hw : F_G_handler v1 v2 v3 v4 M = some res) : CtI Z y_G_handler ws_G_handler (({ frames := 1, cells := 0, slots := 0, locals := 24 })) [.ref (za Z 0 0), .int v1, .int v2, .int v3, .int v4] M res := by
  refine CtI.of hL (cc := c_G_handler) (maxL := 5) (by decide) rfl (Nat.le_of_ble_eq_true rfl) (fun X h hQ => ?_)
  show G Z X M 0 [(0, .ref (za Z 0 0)), (1, .int v1), (2, .int v2), (3, .int v3), (4, .int v4)] []
  rw [F_G_handler] at hw
  refine g_aload_n h d_G_handler_0 rfl rfl ?_
  refine g_getR (t := 0) (i := 0) (k := 1) (C := "FlowGate") (T := T_G) (N := 6) h hL rfl (by decide) ob_0 (by decide) rfl (t' := 4) (i' := 0) rfl rfl (fun w hw => mc (in_G w hw)) (mc m_fl_G_19) rfl d_G_handler_1 ?_
  refine g_getI (t := 4) (i := 0) (k := 8) (C := "FlowGate$Method") (T := T_M) (N := 14) h hL rfl (by decide) ob_4 (by decide) rfl (fun w hw => mc (in_M w hw)) (mc m_fl_G_86) rfl d_G_handler_4 ?_
  refine g_iconst (v := 3) h d_G_handler_7 (by decide) ?_
  refine g_icmp_ne (tgt := 14) h d_G_handler_8 (by decide) (fun c1 => ?_) (fun c1 => ?_)
  · have hw := o_f c1 hw
    refine g_aload_n h d_G_handler_14 rfl rfl ?_
    refine g_getR (t := 0) (i := 0) (k := 1) (C := "FlowGate") (T := T_G) (N := 6) h hL rfl (by decide) ob_0 (by decide) rfl (t' := 4) (i' := 0) rfl rfl (fun w hw => mc (in_G w hw)) (mc m_fl_G_19) rfl d_G_handler_15 ?_
    refine g_iload_n h d_G_handler_18 rfl rfl ?_
    refine g_iload_n h d_G_handler_19 rfl rfl ?_
    refine g_iload_n h d_G_handler_20 rfl rfl ?_
    refine g_iload h d_G_handler_21 rfl ?_
    obtain ⟨r4, M3, hc2, hw⟩ := o_b hw
    refine g_calli h (g_runV (rest := []) h (ct_M_appendHandler hL v1 v2 v3 v4 M hc2) (cwV 4 h.2.2.2.2.1 (g_V m_ml_G_89 m_im_M_appendHandler m_se_M_appendHandler m_in_M m_co_M_appendHandler) rfl rfl rfl (by decide +kernel) ⟨Nat.le_of_ble_eq_true rfl, Nat.le_of_ble_eq_true rfl⟩) (hL.recv h rfl (by decide) ob_4) rfl rfl (Nat.le_of_ble_eq_true rfl) d_G_handler_23) ?_
    exact g_iret h hQ d_G_handler_26 hw
  · have hw := o_t c1 hw
    refine g_bipush (v := -2) h d_G_handler_11 (by decide) ?_
    exact g_iret h hQ d_G_handler_13 hw
set_option maxHeartbeats 4000000 in
set_option maxRecDepth 100000 in
theorem w_W_forget_b10 {Z : ZT} {X : XT} (hL : Lay Z sC) (h : Ok Z X "FlowGate$Flow" c_W_forget ws_W_forget 2 ({ frames := 1, cells := 0, slots := 0, locals := 24 })) {res : Mm} (hQ : FinV Z X res)  : ∀ (n : Nat) (v1 : Int32) (M : Mm), F_W_forget_b10  n v1 M = some res → G Z X M 10 [(0, .ref (za Z 14 0)), (1, .int v1)] [] := by
  intro n
  induction n with
  | zero =>
    intro v1 M hw
    cases hw
  | succ n hK10 =>
    intro v1 M hw
    rw [F_W_forget_b10] at hw
    refine g_iload_n h d_W_forget_10 rfl rfl ?_
    refine g_bipush (v := 48) h d_W_forget_11 (by decide) ?_
    refine g_icmp_ge (tgt := 36) h d_W_forget_13 (by decide) (fun c1 => ?_) (fun c1 => ?_)
    · have hw := o_t c1 hw
      refine g_aload_n h d_W_forget_36 rfl rfl ?_
      refine g_iconst (v := 0) h d_W_forget_37 (by decide) ?_
      refine g_putI (t := 14) (i := 0) (k := 8) (C := "FlowGate$Flow") (T := T_W) (N := 12) h hL rfl (by decide) ob_14 (by decide) rfl (fun w hw => mc (in_W w hw)) ty_W ty_W_ok nm_W (mc m_fl_W_50) rfl rfl rfl d_W_forget_38 ?_
      refine g_mem (fun M2 eM2 => ?_)
      have hw := o_l hw M2 eM2
      refine g_aload_n h d_W_forget_41 rfl rfl ?_
      refine g_iconst (v := 0) h d_W_forget_42 (by decide) ?_
      refine g_putI (t := 14) (i := 0) (k := 10) (C := "FlowGate$Flow") (T := T_W) (N := 12) h hL rfl (by decide) ob_14 (by decide) rfl (fun w hw => mc (in_W w hw)) ty_W ty_W_ok nm_W (mc m_fl_W_54) rfl rfl rfl d_W_forget_43 ?_
      refine g_mem (fun M3 eM3 => ?_)
      have hw := o_l hw M3 eM3
      refine g_aload_n h d_W_forget_46 rfl rfl ?_
      refine g_lconst (v := 0) h d_W_forget_47 rfl ?_
      refine g_putL (t := 14) (i := 0) (k := 11) (C := "FlowGate$Flow") (T := T_W) (N := 12) h hL rfl (by decide) ob_14 (by decide) rfl (fun w hw => mc (in_W w hw)) ty_W ty_W_ok nm_W (mc m_fl_W_57) rfl rfl rfl d_W_forget_48 ?_
      refine g_mem (fun M4 eM4 => ?_)
      have hw := o_l hw M4 eM4
      exact g_vret h hQ d_W_forget_51 hw
    · have hw := o_f c1 hw
      refine g_aload_n h d_W_forget_16 rfl rfl ?_
      refine g_getR (t := 14) (i := 0) (k := 3) (C := "FlowGate$Flow") (T := T_W) (N := 12) h hL rfl (by decide) ob_14 (by decide) rfl (t' := 16) (i' := 0) rfl rfl (fun w hw => mc (in_W w hw)) (mc m_fl_W_17) rfl d_W_forget_17 ?_
      refine g_iload_n h d_W_forget_20 rfl rfl ?_
      refine g_iconst (v := 0) h d_W_forget_21 (by decide) ?_
      obtain ⟨hv5, hw⟩ := o_in hw
      refine g_zast (t := 16) (i := 0) h hL rfl (by decide) rfl rfl hv5 d_W_forget_22 ?_
      refine g_mem (fun M6 eM6 => ?_)
      have hw := o_l hw M6 eM6
      refine g_aload_n h d_W_forget_23 rfl rfl ?_
      refine g_getR (t := 14) (i := 0) (k := 4) (C := "FlowGate$Flow") (T := T_W) (N := 12) h hL rfl (by decide) ob_14 (by decide) rfl (t' := 17) (i' := 0) rfl rfl (fun w hw => mc (in_W w hw)) (mc m_fl_W_21) rfl d_W_forget_24 ?_
      refine g_iload_n h d_W_forget_27 rfl rfl ?_
      refine g_iconst (v := 0) h d_W_forget_28 (by decide) ?_
      obtain ⟨hv7, hw⟩ := o_in hw
      refine g_zast (t := 17) (i := 0) h hL rfl (by decide) rfl rfl hv7 d_W_forget_29 ?_
      refine g_mem (fun M8 eM8 => ?_)
      have hw := o_l hw M8 eM8
      refine g_iinc (n' := 1) (lw := fun y => [(1, .int y), (0, .ref (za Z 14 0))]) h d_W_forget_30 rfl (by decide) (by decide) (fun _ => rfl) (fun n9 en9 => ?_)
      have hw := o_l hw n9 en9
      refine g_goto (tgt := 10) h d_W_forget_33 (by decide) ?_
      refine g_sub [1, 0] rfl ?_
      exact hK10 n9 M8 hw
set_option maxHeartbeats 4000000 in
set_option maxRecDepth 100000 in
theorem ct_W_forget {Z : ZT} (hL : Lay Z sC)  (M : Mm)  {res : Mm} (hw : F_W_forget M = some res) : CtV Z y_W_forget ws_W_forget (({ frames := 1, cells := 0, slots := 0, locals := 24 })) [.ref (za Z 14 0)] M res := by
  refine CtV.of hL (cc := c_W_forget) (maxL := 2) (by decide) rfl (Nat.le_of_ble_eq_true rfl) (fun X h hQ => ?_)
  show G Z X M 0 [(0, .ref (za Z 14 0))] []
  rw [F_W_forget] at hw
  refine g_aload_n h d_W_forget_0 rfl rfl ?_
  refine g_getR (t := 14) (i := 0) (k := 5) (C := "FlowGate$Flow") (T := T_W) (N := 12) h hL rfl (by decide) ob_14 (by decide) rfl (t' := 18) (i' := 0) rfl rfl (fun w hw => mc (in_W w hw)) (mc m_fl_W_24) rfl d_W_forget_1 ?_
  refine g_lconst (v := 0) h d_W_forget_4 rfl ?_
  refine g_callv h (g_runS (rest := []) h (ct_fillJ hL (t := 18) (i := 0) rfl (by decide) rfl 0 M) ⟨callB_of 2 h.2.2.2.2.1 (g_C m_co_JA_fillJ) rfl rfl rfl (h.2.2.2.2.1 _ (mc m_in_JA)) (h.2.2.2.2.1 _ (mc m_ml_W_44)) (by decide +kernel) ⟨Nat.le_of_ble_eq_true rfl, Nat.le_of_ble_eq_true rfl⟩, h.2.2.2.2.1 _ (mc m_st_JA_fillJ)⟩ rfl rfl (Nat.le_of_ble_eq_true rfl) d_W_forget_5) ?_
  refine g_mem (fun M10 eM10 => ?_)
  have hw := o_l hw M10 eM10
  refine g_iconst (v := 0) h d_W_forget_8 (by decide) ?_
  refine g_istore_n (lv' := [(1, .int 0), (0, .ref (za Z 14 0))]) h d_W_forget_9 rfl (by decide) rfl ?_
  refine g_sub [1, 0] rfl ?_
  exact w_W_forget_b10 hL h hQ  fuel 0 M10 hw
set_option maxHeartbeats 4000000 in
set_option maxRecDepth 100000 in
theorem ct_M_hasLocal {Z : ZT} (hL : Lay Z sC) (v1 : Int32) (M : Mm)  {res : Int32 × Mm} (hw : F_M_hasLocal v1 M = some res) : CtI Z y_M_hasLocal ws_M_hasLocal (({ frames := 0, cells := 0, slots := 0, locals := 0 })) [.ref (za Z 4 0), .int v1] M res := by
  refine CtI.of hL (cc := c_M_hasLocal) (maxL := 2) (by decide) rfl (Nat.le_of_ble_eq_true rfl) (fun X h hQ => ?_)
  show G Z X M 0 [(0, .ref (za Z 4 0)), (1, .int v1)] []
  rw [F_M_hasLocal] at hw
  refine g_iload_n h d_M_hasLocal_0 rfl rfl ?_
  refine g_if_lt (tgt := 16) h d_M_hasLocal_1 (by decide) (fun c1 => ?_) (fun c1 => ?_)
  · have hw := o_t c1 hw
    refine g_iconst (v := 0) h d_M_hasLocal_16 (by decide) ?_
    exact g_zret h hQ d_M_hasLocal_17 rfl hw
  · have hw := o_f c1 hw
    refine g_iload_n h d_M_hasLocal_4 rfl rfl ?_
    refine g_aload_n h d_M_hasLocal_5 rfl rfl ?_
    refine g_getI (t := 4) (i := 0) (k := 12) (C := "FlowGate$Method") (T := T_M) (N := 14) h hL rfl (by decide) ob_4 (by decide) rfl (fun w hw => mc (in_M w hw)) (mc m_fl_M_40) rfl d_M_hasLocal_6 ?_
    refine g_icmp_ge (tgt := 16) h d_M_hasLocal_9 (by decide) (fun c2 => ?_) (fun c2 => ?_)
    · have hw := o_t c2 hw
      refine g_iconst (v := 0) h d_M_hasLocal_16 (by decide) ?_
      exact g_zret h hQ d_M_hasLocal_17 rfl hw
    · have hw := o_f c2 hw
      refine g_iconst (v := 1) h d_M_hasLocal_12 (by decide) ?_
      refine g_goto (tgt := 17) h d_M_hasLocal_13 (by decide) ?_
      exact g_zret h hQ d_M_hasLocal_17 rfl hw
