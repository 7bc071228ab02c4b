set_option maxHeartbeats 4000000 in
set_option maxRecDepth 100000 in
theorem w_R_read_b90 {Z : ZT} {X : XT} (hL : Lay Z sC) (h : Ok Z X "FlowGate$Frame" c_R_read ws_R_read 3 ({ frames := 2, cells := 0, slots := 0, locals := 44 })) {res : Int32 × Mm} (hQ : FinI Z X .int res)  (i0 : Nat) (v1 : Int32) (M : Mm) (hbi0 : i0 < cnt 19) (hw : F_R_read_b90 i0 v1 M = some res) : G Z X M 90 [(0, .ref (za Z 19 i0)), (1, .int v1)] [] := by
  rw [F_R_read_b90] at hw
  refine g_iload_n h d_R_read_90 rfl rfl ?_
  refine g_bipush (v := 40) h d_R_read_91 (by decide) ?_
  refine g_icmp_lt (tgt := 102) h d_R_read_93 (by decide) (fun c1 => ?_) (fun c1 => ?_)
  · have hw := o_t c1 hw
    refine g_iconst (v := -1) h d_R_read_102 (by decide) ?_
    exact g_iret h hQ d_R_read_103 hw
  · have hw := o_f c1 hw
    refine g_iload_n h d_R_read_96 rfl rfl ?_
    refine g_bipush (v := 46) h d_R_read_97 (by decide) ?_
    refine g_icmp_lt (tgt := 104) h d_R_read_99 (by decide) (fun c2 => ?_) (fun c2 => ?_)
    · have hw := o_t c2 hw
      refine g_aload_n h d_R_read_104 rfl rfl ?_
      refine g_iload_n h d_R_read_105 rfl rfl ?_
      refine g_bipush (v := 40) h d_R_read_106 (by decide) ?_
      refine g_isub h d_R_read_108 ?_
      obtain ⟨r5, M4, hc3, hw⟩ := o_b hw
      refine g_calli h (g_runV (rest := []) h (ct_R_findSub hL i0 (v1 - 40) M hbi0 hc3) (cwV 1 h.2.2.2.2.1 (g_V m_ml_R_95 m_im_R_findSub m_se_R_findSub m_in_R m_co_R_findSub) rfl rfl rfl (by decide +kernel) ⟨Nat.le_of_ble_eq_true rfl, Nat.le_of_ble_eq_true rfl⟩) (hL.recv h rfl hbi0 ob_19) rfl rfl (Nat.le_of_ble_eq_true rfl) d_R_read_109) ?_
      refine g_istore_n (lv' := [(2, .int r5), (0, .ref (za Z 19 i0)), (1, .int v1)]) h d_R_read_112 rfl (by decide) rfl ?_
      refine g_iload_n h d_R_read_113 rfl rfl ?_
      refine g_iconst (v := -1) h d_R_read_114 (by decide) ?_
      refine g_icmp_ne (tgt := 122) h d_R_read_115 (by decide) (fun c6 => ?_) (fun c6 => ?_)
      · have hw := o_f c6 hw
        refine g_aload_n h d_R_read_122 rfl rfl ?_
        refine g_getR (t := 19) (i := i0) (k := 4) (C := "FlowGate$Frame") (T := T_R) (N := 5) h hL rfl hbi0 ob_19 (by decide) rfl (t' := 22) (i' := i0) rfl rfl (fun w hw => mc (in_R w hw)) (mc m_fl_R_18) rfl d_R_read_123 ?_
        refine g_iload_n h d_R_read_126 rfl rfl ?_
        obtain ⟨hv7, hw⟩ := o_in hw
        refine g_iald (t := 22) (i := i0) h hL rfl hbi0 rfl rfl hv7 d_R_read_127 ?_
        exact g_iret h hQ d_R_read_128 hw
      · have hw := o_t c6 hw
        refine g_iconst (v := -1) h d_R_read_118 (by decide) ?_
        refine g_goto (tgt := 128) h d_R_read_119 (by decide) ?_
        exact g_iret h hQ d_R_read_128 hw
    · have hw := o_f c2 hw
      refine g_iconst (v := -1) h d_R_read_102 (by decide) ?_
      exact g_iret h hQ d_R_read_103 hw
set_option maxHeartbeats 4000000 in
set_option maxRecDepth 100000 in
theorem w_R_read_b44 {Z : ZT} {X : XT} (hL : Lay Z sC) (h : Ok Z X "FlowGate$Frame" c_R_read ws_R_read 3 ({ frames := 2, cells := 0, slots := 0, locals := 44 })) {res : Int32 × Mm} (hQ : FinI Z X .int res)  (i0 : Nat) (v1 : Int32) (M : Mm) (hbi0 : i0 < cnt 19) (hw : F_R_read_b44 i0 v1 M = some res) : G Z X M 44 [(0, .ref (za Z 19 i0)), (1, .int v1)] [] := by
  rw [F_R_read_b44] at hw
  refine g_iload_n h d_R_read_44 rfl rfl ?_
  refine g_bipush (v := 32) h d_R_read_45 (by decide) ?_
  refine g_icmp_ne (tgt := 55) h d_R_read_47 (by decide) (fun c8 => ?_) (fun c8 => ?_)
  · have hw := o_f c8 hw
    refine g_iload_n h d_R_read_55 rfl rfl ?_
    refine g_bipush (v := 33) h d_R_read_56 (by decide) ?_
    refine g_icmp_ne (tgt := 69) h d_R_read_58 (by decide) (fun c9 => ?_) (fun c9 => ?_)
    · have hw := o_f c9 hw
      refine g_iload_n h d_R_read_69 rfl rfl ?_
      refine g_bipush (v := 34) h d_R_read_70 (by decide) ?_
      refine g_icmp_lt (tgt := 90) h d_R_read_72 (by decide) (fun c10 => ?_) (fun c10 => ?_)
      · have hw := o_t c10 hw
        refine g_sub [0, 1] rfl ?_
        exact w_R_read_b90 hL h hQ  i0 v1 M hbi0 hw
      · have hw := o_f c10 hw
        refine g_iload_n h d_R_read_75 rfl rfl ?_
        refine g_bipush (v := 40) h d_R_read_76 (by decide) ?_
        refine g_icmp_ge (tgt := 90) h d_R_read_78 (by decide) (fun c11 => ?_) (fun c11 => ?_)
        · have hw := o_t c11 hw
          refine g_sub [0, 1] rfl ?_
          exact w_R_read_b90 hL h hQ  i0 v1 M hbi0 hw
        · have hw := o_f c11 hw
          refine g_aload_n h d_R_read_81 rfl rfl ?_
          refine g_iload_n h d_R_read_82 rfl rfl ?_
          refine g_bipush (v := 34) h d_R_read_83 (by decide) ?_
          refine g_isub h d_R_read_85 ?_
          obtain ⟨r14, M13, hc12, hw⟩ := o_b hw
          refine g_calli h (g_runV (rest := []) h (ct_R_findSub hL i0 (v1 - 34) M hbi0 hc12) (cwV 1 h.2.2.2.2.1 (g_V m_ml_R_95 m_im_R_findSub m_se_R_findSub m_in_R m_co_R_findSub) rfl rfl rfl (by decide +kernel) ⟨Nat.le_of_ble_eq_true rfl, Nat.le_of_ble_eq_true rfl⟩) (hL.recv h rfl hbi0 ob_19) rfl rfl (Nat.le_of_ble_eq_true rfl) d_R_read_86) ?_
          exact g_iret h hQ d_R_read_89 hw
    · have hw := o_t c9 hw
      refine g_aload_n h d_R_read_61 rfl rfl ?_
      refine g_getL (t := 19) (i := i0) (k := 3) (C := "FlowGate$Frame") (T := T_R) (N := 5) h hL rfl hbi0 ob_19 (by decide) rfl (fun w hw => mc (in_R w hw)) (mc m_fl_R_31) rfl d_R_read_62 ?_
      refine g_calli h (g_runS (rest := []) h (ct_JL_bitCount hL (M.2 19 i0 3) M (p_JL_bitCount (M.2 19 i0 3) M)) ⟨callB_of 1 h.2.2.2.2.1 (g_C m_co_JL_bitCount) rfl rfl rfl (h.2.2.2.2.1 _ (mc m_in_JL)) (h.2.2.2.2.1 _ (mc m_ml_R_89)) (by decide +kernel) ⟨Nat.le_of_ble_eq_true rfl, Nat.le_of_ble_eq_true rfl⟩, h.2.2.2.2.1 _ (mc m_st_JL_bitCount)⟩ rfl rfl (Nat.le_of_ble_eq_true rfl) d_R_read_65) ?_
      refine g_topi (fun r16 er16 => ?_)
      have hw := o_l hw r16 er16
      exact g_iret h hQ d_R_read_68 hw
  · have hw := o_t c8 hw
    refine g_aload_n h d_R_read_50 rfl rfl ?_
    refine g_getI (t := 19) (i := i0) (k := 2) (C := "FlowGate$Frame") (T := T_R) (N := 5) h hL rfl hbi0 ob_19 (by decide) rfl (fun w hw => mc (in_R w hw)) (mc m_fl_R_27) rfl d_R_read_51 ?_
    exact g_iret h hQ d_R_read_54 hw
set_option maxHeartbeats 4000000 in
set_option maxRecDepth 100000 in
theorem w_R_read_b17 {Z : ZT} {X : XT} (hL : Lay Z sC) (h : Ok Z X "FlowGate$Frame" c_R_read ws_R_read 3 ({ frames := 2, cells := 0, slots := 0, locals := 44 })) {res : Int32 × Mm} (hQ : FinI Z X .int res)  (i0 : Nat) (v1 : Int32) (M : Mm) (hbi0 : i0 < cnt 19) (hw : F_R_read_b17 i0 v1 M = some res) : G Z X M 17 [(0, .ref (za Z 19 i0)), (1, .int v1)] [] := by
  rw [F_R_read_b17] at hw
  refine g_iload_n h d_R_read_17 rfl rfl ?_
  refine g_bipush (v := 16) h d_R_read_18 (by decide) ?_
  refine g_icmp_lt (tgt := 44) h d_R_read_20 (by decide) (fun c17 => ?_) (fun c17 => ?_)
  · have hw := o_t c17 hw
    refine g_sub [0, 1] rfl ?_
    exact w_R_read_b44 hL h hQ  i0 v1 M hbi0 hw
  · have hw := o_f c17 hw
    refine g_iload_n h d_R_read_23 rfl rfl ?_
    refine g_bipush (v := 16) h d_R_read_24 (by decide) ?_
    refine g_aload_n h d_R_read_26 rfl rfl ?_
    refine g_getI (t := 19) (i := i0) (k := 2) (C := "FlowGate$Frame") (T := T_R) (N := 5) h hL rfl hbi0 ob_19 (by decide) rfl (fun w hw => mc (in_R w hw)) (mc m_fl_R_27) rfl d_R_read_27 ?_
    refine g_iadd h d_R_read_30 ?_
    refine g_icmp_ge (tgt := 44) h d_R_read_31 (by decide) (fun c18 => ?_) (fun c18 => ?_)
    · have hw := o_t c18 hw
      refine g_sub [0, 1] rfl ?_
      exact w_R_read_b44 hL h hQ  i0 v1 M hbi0 hw
    · have hw := o_f c18 hw
      refine g_aload_n h d_R_read_34 rfl rfl ?_
      refine g_getR (t := 19) (i := i0) (k := 1) (C := "FlowGate$Frame") (T := T_R) (N := 5) h hL rfl hbi0 ob_19 (by decide) rfl (t' := 21) (i' := i0) rfl rfl (fun w hw => mc (in_R w hw)) (mc m_fl_R_15) rfl d_R_read_35 ?_
      refine g_iload_n h d_R_read_38 rfl rfl ?_
      refine g_bipush (v := 16) h d_R_read_39 (by decide) ?_
      refine g_isub h d_R_read_41 ?_
      obtain ⟨hv19, hw⟩ := o_in hw
      refine g_iald (t := 21) (i := i0) h hL rfl hbi0 rfl rfl hv19 d_R_read_42 ?_
      exact g_iret h hQ d_R_read_43 hw
set_option maxHeartbeats 4000000 in
set_option maxRecDepth 100000 in
theorem ct_R_read {Z : ZT} (hL : Lay Z sC) (i0 : Nat) (v1 : Int32) (M : Mm) (hbi0 : i0 < cnt 19) {res : Int32 × Mm} (hw : F_R_read i0 v1 M = some res) : CtI Z y_R_read ws_R_read (({ frames := 2, cells := 0, slots := 0, locals := 44 })) [.ref (za Z 19 i0), .int v1] M res := by
  refine CtI.of hL (cc := c_R_read) (maxL := 3) (by decide) rfl (Nat.le_of_ble_eq_true rfl) (fun X h hQ => ?_)
  show G Z X M 0 [(0, .ref (za Z 19 i0)), (1, .int v1)] []
  rw [F_R_read] at hw
  refine g_iload_n h d_R_read_0 rfl rfl ?_
  refine g_if_lt (tgt := 17) h d_R_read_1 (by decide) (fun c20 => ?_) (fun c20 => ?_)
  · have hw := o_t c20 hw
    refine g_sub [0, 1] rfl ?_
    exact w_R_read_b17 hL h hQ  i0 v1 M hbi0 hw
  · have hw := o_f c20 hw
    refine g_iload_n h d_R_read_4 rfl rfl ?_
    refine g_bipush (v := 12) h d_R_read_5 (by decide) ?_
    refine g_icmp_ge (tgt := 17) h d_R_read_7 (by decide) (fun c21 => ?_) (fun c21 => ?_)
    · have hw := o_t c21 hw
      refine g_sub [0, 1] rfl ?_
      exact w_R_read_b17 hL h hQ  i0 v1 M hbi0 hw
    · have hw := o_f c21 hw
      refine g_aload_n h d_R_read_10 rfl rfl ?_
      refine g_getR (t := 19) (i := i0) (k := 0) (C := "FlowGate$Frame") (T := T_R) (N := 5) h hL rfl hbi0 ob_19 (by decide) rfl (t' := 20) (i' := i0) rfl rfl (fun w hw => mc (in_R w hw)) (mc m_fl_R_9) rfl d_R_read_11 ?_
      refine g_iload_n h d_R_read_14 rfl rfl ?_
      obtain ⟨hv22, hw⟩ := o_in hw
      refine g_iald (t := 20) (i := i0) h hL rfl hbi0 rfl rfl hv22 d_R_read_15 ?_
      exact g_iret h hQ d_R_read_16 hw
set_option maxHeartbeats 4000000 in
set_option maxRecDepth 100000 in
theorem ct_G_state {Z : ZT} (hL : Lay Z sC) (v1 : Int32) (v2 : Int32) (M : Mm)  {res : Int32 × Mm} (hw : F_G_state v1 v2 M = some res) : CtI Z y_G_state ws_G_state (({ frames := 3, cells := 0, slots := 0, locals := 66 })) [.ref (za Z 0 0), .int v1, .int v2] M res := by
  refine CtI.of hL (cc := c_G_state) (maxL := 3) (by decide) rfl (Nat.le_of_ble_eq_true rfl) (fun X h hQ => ?_)
  show G Z X M 0 [(0, .ref (za Z 0 0)), (1, .int v1), (2, .int v2)] []
  rw [F_G_state] at hw
  refine g_iload_n h d_G_state_0 rfl rfl ?_
  refine g_if_lt (tgt := 22) h d_G_state_1 (by decide) (fun c1 => ?_) (fun c1 => ?_)
  · have hw := o_t c1 hw
    refine g_iconst (v := -1) h d_G_state_22 (by decide) ?_
    exact g_iret h hQ d_G_state_23 hw
  · have hw := o_f c1 hw
    refine g_iload_n h d_G_state_4 rfl rfl ?_
    refine g_bipush (v := 48) h d_G_state_5 (by decide) ?_
    refine g_icmp_ge (tgt := 22) h d_G_state_7 (by decide) (fun c2 => ?_) (fun c2 => ?_)
    · have hw := o_t c2 hw
      refine g_iconst (v := -1) h d_G_state_22 (by decide) ?_
      exact g_iret h hQ d_G_state_23 hw
    · have hw := o_f c2 hw
      refine g_aload_n h d_G_state_10 rfl rfl ?_
      refine g_getR (t := 0) (i := 0) (k := 3) (C := "FlowGate") (T := T_G) (N := 6) h hL rfl (by decide) ob_0 (by decide) rfl (t' := 14) (i' := 0) rfl rfl (fun w hw => mc (in_G w hw)) (mc m_fl_G_35) rfl d_G_state_11 ?_
      refine g_getR (t := 14) (i := 0) (k := 3) (C := "FlowGate$Flow") (T := T_W) (N := 12) h hL rfl (by decide) ob_14 (by decide) rfl (t' := 16) (i' := 0) rfl rfl (fun w hw => mc (in_W w hw)) (mc m_fl_G_107) rfl d_G_state_14 ?_
      refine g_iload_n h d_G_state_17 rfl rfl ?_
      obtain ⟨hv3, hw⟩ := o_in hw
      refine g_zald (t := 16) (i := 0) h hL rfl (by decide) rfl rfl hv3 d_G_state_18 ?_
      refine g_if_ne (tgt := 24) h d_G_state_19 (by decide) (fun c4 => ?_) (fun c4 => ?_)
      · have hw := o_f c4 hw
        refine g_aload_n h d_G_state_24 rfl rfl ?_
        refine g_getR (t := 0) (i := 0) (k := 3) (C := "FlowGate") (T := T_G) (N := 6) h hL rfl (by decide) ob_0 (by decide) rfl (t' := 14) (i' := 0) rfl rfl (fun w hw => mc (in_G w hw)) (mc m_fl_G_35) rfl d_G_state_25 ?_
        refine g_getR (t := 14) (i := 0) (k := 2) (C := "FlowGate$Flow") (T := T_W) (N := 12) h hL rfl (by decide) ob_14 (by decide) rfl (t' := 15) (i' := 0) rfl rfl (fun w hw => mc (in_W w hw)) (mc m_fl_G_111) rfl d_G_state_28 ?_
        refine g_iload_n h d_G_state_31 rfl rfl ?_
        obtain ⟨hv5, hw⟩ := o_in hw
        refine g_aald (t' := 19) (i' := (v1 : Int32).toNatClampNeg + 2) (t := 15) (i := 0) h hL rfl (by decide) rfl rfl hv5 (C := "FlowGate$Frame") rfl rfl rfl d_G_state_32 ?_
        refine g_iload_n h d_G_state_33 rfl rfl ?_
        obtain ⟨r8, M7, hc6, hw⟩ := o_b hw
        refine g_calli h (g_runV (rest := []) h (ct_R_read hL ((v1 : Int32).toNatClampNeg + 2) v2 M (ix_lt hv5 (by decide)) hc6) (cwV 1 h.2.2.2.2.1 (g_V m_ml_G_115 m_im_R_read m_se_R_read m_in_R m_co_R_read) rfl rfl rfl (by decide +kernel) ⟨Nat.le_of_ble_eq_true rfl, Nat.le_of_ble_eq_true rfl⟩) (hL.recv h rfl (ix_lt hv5 (by decide)) ob_19) rfl rfl (Nat.le_of_ble_eq_true rfl) d_G_state_34) ?_
        exact g_iret h hQ d_G_state_37 hw
      · have hw := o_t c4 hw
        refine g_iconst (v := -1) h d_G_state_22 (by decide) ?_
        exact g_iret h hQ d_G_state_23 hw
set_option maxHeartbeats 4000000 in
set_option maxRecDepth 100000 in
theorem w_T_isPlain_b9 {Z : ZT} {X : XT} (hL : Lay Z sC) (h : Ok Z X "FlowGate$Types" c_T_isPlain ws_T_isPlain 2 ({ frames := 1, cells := 0, slots := 0, locals := 23 })) {res : Int32 × Mm} (hQ : FinI Z X .boolean res)  (v1 : Int32) (M : Mm)  (hw : F_T_isPlain_b9 v1 M = some res) : G Z X M 9 [(0, .ref (za Z 1 0)), (1, .int v1)] [] := by
  rw [F_T_isPlain_b9] at hw
  refine g_aload_n h d_T_isPlain_9 rfl rfl ?_
  refine g_iload_n h d_T_isPlain_10 rfl rfl ?_
  refine g_calli h (g_runV (rest := []) h (ct_T_isRef hL v1 M (p_T_isRef v1 M)) (cwV 1 h.2.2.2.2.1 (g_V m_ml_T_23 m_im_T_isRef m_se_T_isRef m_in_T m_co_T_isRef) rfl rfl rfl (by decide +kernel) ⟨Nat.le_of_ble_eq_true rfl, Nat.le_of_ble_eq_true rfl⟩) (hL.recv h rfl (by decide) ob_1) rfl rfl (Nat.le_of_ble_eq_true rfl) d_T_isPlain_11) ?_
  refine g_topi (fun r2 er2 => ?_)
  have hw := o_l hw r2 er2
  refine g_if_eq (tgt := 21) h d_T_isPlain_14 (by decide) (fun c3 => ?_) (fun c3 => ?_)
  · have hw := o_t c3 hw
    refine g_iconst (v := 0) h d_T_isPlain_21 (by decide) ?_
    exact g_zret h hQ d_T_isPlain_22 rfl hw
  · have hw := o_f c3 hw
    refine g_iconst (v := 1) h d_T_isPlain_17 (by decide) ?_
    refine g_goto (tgt := 22) h d_T_isPlain_18 (by decide) ?_
    exact g_zret h hQ d_T_isPlain_22 rfl hw
set_option maxHeartbeats 4000000 in
set_option maxRecDepth 100000 in
theorem ct_T_isPlain {Z : ZT} (hL : Lay Z sC) (v1 : Int32) (M : Mm)  {res : Int32 × Mm} (hw : F_T_isPlain v1 M = some res) : CtI Z y_T_isPlain ws_T_isPlain (({ frames := 1, cells := 0, slots := 0, locals := 23 })) [.ref (za Z 1 0), .int v1] M res := by
  refine CtI.of hL (cc := c_T_isPlain) (maxL := 2) (by decide) rfl (Nat.le_of_ble_eq_true rfl) (fun X h hQ => ?_)
  show G Z X M 0 [(0, .ref (za Z 1 0)), (1, .int v1)] []
  rw [F_T_isPlain] at hw
  refine g_iload_n h d_T_isPlain_0 rfl rfl ?_
  refine g_if_lt (tgt := 9) h d_T_isPlain_1 (by decide) (fun c4 => ?_) (fun c4 => ?_)
  · have hw := o_t c4 hw
    refine g_sub [0, 1] rfl ?_
    exact w_T_isPlain_b9 hL h hQ  v1 M hw
  · have hw := o_f c4 hw
    refine g_iload_n h d_T_isPlain_4 rfl rfl ?_
    refine g_iconst (v := 5) h d_T_isPlain_5 (by decide) ?_
    refine g_icmp_le (tgt := 17) h d_T_isPlain_6 (by decide) (fun c5 => ?_) (fun c5 => ?_)
    · have hw := o_t c5 hw
      refine g_iconst (v := 1) h d_T_isPlain_17 (by decide) ?_
      refine g_goto (tgt := 22) h d_T_isPlain_18 (by decide) ?_
      exact g_zret h hQ d_T_isPlain_22 rfl hw
    · have hw := o_f c5 hw
      refine g_sub [0, 1] rfl ?_
      exact w_T_isPlain_b9 hL h hQ  v1 M hw
set_option maxHeartbeats 4000000 in
set_option maxRecDepth 100000 in
theorem ct_G_join {Z : ZT} (hL : Lay Z sC) (v1 : Int32) (v2 : Int32) (M : Mm)  {res : Int32 × Mm} (hw : F_G_join v1 v2 M = some res) : CtI Z y_G_join ws_G_join (({ frames := 2, cells := 0, slots := 0, locals := 51 })) [.ref (za Z 0 0), .int v1, .int v2] M res := by
  refine CtI.of hL (cc := c_G_join) (maxL := 3) (by decide) rfl (Nat.le_of_ble_eq_true rfl) (fun X h hQ => ?_)
  show G Z X M 0 [(0, .ref (za Z 0 0)), (1, .int v1), (2, .int v2)] []
  rw [F_G_join] at hw
  refine g_aload_n h d_G_join_0 rfl rfl ?_
  refine g_getR (t := 0) (i := 0) (k := 0) (C := "FlowGate") (T := T_G) (N := 6) h hL rfl (by decide) ob_0 (by decide) rfl (t' := 1) (i' := 0) rfl rfl (fun w hw => mc (in_G w hw)) (mc m_fl_G_10) rfl d_G_join_1 ?_
  refine g_iload_n h d_G_join_4 rfl rfl ?_
  refine g_calli h (g_runV (rest := []) h (ct_T_isPlain hL v1 M (p_T_isPlain v1 M)) (cwV 1 h.2.2.2.2.1 (g_V m_ml_G_120 m_im_T_isPlain m_se_T_isPlain m_in_T m_co_T_isPlain) rfl rfl rfl (by decide +kernel) ⟨Nat.le_of_ble_eq_true rfl, Nat.le_of_ble_eq_true rfl⟩) (hL.recv h rfl (by decide) ob_1) rfl rfl (Nat.le_of_ble_eq_true rfl) d_G_join_5) ?_
  refine g_topi (fun r2 er2 => ?_)
  have hw := o_l hw r2 er2
  refine g_if_eq (tgt := 22) h d_G_join_8 (by decide) (fun c3 => ?_) (fun c3 => ?_)
  · have hw := o_t c3 hw
    refine g_iconst (v := -1) h d_G_join_22 (by decide) ?_
    exact g_iret h hQ d_G_join_23 hw
  · have hw := o_f c3 hw
    refine g_aload_n h d_G_join_11 rfl rfl ?_
    refine g_getR (t := 0) (i := 0) (k := 0) (C := "FlowGate") (T := T_G) (N := 6) h hL rfl (by decide) ob_0 (by decide) rfl (t' := 1) (i' := 0) rfl rfl (fun w hw => mc (in_G w hw)) (mc m_fl_G_10) rfl d_G_join_12 ?_
    refine g_iload_n h d_G_join_15 rfl rfl ?_
    refine g_calli h (g_runV (rest := []) h (ct_T_isPlain hL v2 M (p_T_isPlain v2 M)) (cwV 1 h.2.2.2.2.1 (g_V m_ml_G_120 m_im_T_isPlain m_se_T_isPlain m_in_T m_co_T_isPlain) rfl rfl rfl (by decide +kernel) ⟨Nat.le_of_ble_eq_true rfl, Nat.le_of_ble_eq_true rfl⟩) (hL.recv h rfl (by decide) ob_1) rfl rfl (Nat.le_of_ble_eq_true rfl) d_G_join_16) ?_
    refine g_topi (fun r5 er5 => ?_)
    have hw := o_l hw r5 er5
    refine g_if_ne (tgt := 24) h d_G_join_19 (by decide) (fun c6 => ?_) (fun c6 => ?_)
    · have hw := o_f c6 hw
      refine g_aload_n h d_G_join_24 rfl rfl ?_
      refine g_getR (t := 0) (i := 0) (k := 0) (C := "FlowGate") (T := T_G) (N := 6) h hL rfl (by decide) ob_0 (by decide) rfl (t' := 1) (i' := 0) rfl rfl (fun w hw => mc (in_G w hw)) (mc m_fl_G_10) rfl d_G_join_25 ?_
      refine g_iload_n h d_G_join_28 rfl rfl ?_
      refine g_iload_n h d_G_join_29 rfl rfl ?_
      obtain ⟨r9, M8, hc7, hw⟩ := o_b hw
      refine g_calli h (g_runV (rest := []) h (ct_T_joined hL v1 v2 M hc7) (cwV 2 h.2.2.2.2.1 (g_V m_ml_G_123 m_im_T_joined m_se_T_joined m_in_T m_co_T_joined) rfl rfl rfl (by decide +kernel) ⟨Nat.le_of_ble_eq_true rfl, Nat.le_of_ble_eq_true rfl⟩) (hL.recv h rfl (by decide) ob_1) rfl rfl (Nat.le_of_ble_eq_true rfl) d_G_join_30) ?_
      exact g_iret h hQ d_G_join_33 hw
    · have hw := o_t c6 hw
      refine g_iconst (v := -1) h d_G_join_22 (by decide) ?_
      exact g_iret h hQ d_G_join_23 hw
set_option maxHeartbeats 4000000 in
set_option maxRecDepth 100000 in
theorem ct_G_goes {Z : ZT} (hL : Lay Z sC) (v1 : Int32) (v2 : Int32) (M : Mm)  {res : Int32 × Mm} (hw : F_G_goes v1 v2 M = some res) : CtI Z y_G_goes ws_G_goes (({ frames := 3, cells := 0, slots := 0, locals := 69 })) [.ref (za Z 0 0), .int v1, .int v2] M res := by
  refine CtI.of hL (cc := c_G_goes) (maxL := 3) (by decide) rfl (Nat.le_of_ble_eq_true rfl) (fun X h hQ => ?_)
  show G Z X M 0 [(0, .ref (za Z 0 0)), (1, .int v1), (2, .int v2)] []
  rw [F_G_goes] at hw
  refine g_aload_n h d_G_goes_0 rfl rfl ?_
  refine g_getR (t := 0) (i := 0) (k := 0) (C := "FlowGate") (T := T_G) (N := 6) h hL rfl (by decide) ob_0 (by decide) rfl (t' := 1) (i' := 0) rfl rfl (fun w hw => mc (in_G w hw)) (mc m_fl_G_10) rfl d_G_goes_1 ?_
  refine g_iload_n h d_G_goes_4 rfl rfl ?_
  refine g_calli h (g_runV (rest := []) h (ct_T_isPlain hL v1 M (p_T_isPlain v1 M)) (cwV 1 h.2.2.2.2.1 (g_V m_ml_G_120 m_im_T_isPlain m_se_T_isPlain m_in_T m_co_T_isPlain) rfl rfl rfl (by decide +kernel) ⟨Nat.le_of_ble_eq_true rfl, Nat.le_of_ble_eq_true rfl⟩) (hL.recv h rfl (by decide) ob_1) rfl rfl (Nat.le_of_ble_eq_true rfl) d_G_goes_5) ?_
  refine g_topi (fun r2 er2 => ?_)
  have hw := o_l hw r2 er2
  refine g_if_eq (tgt := 22) h d_G_goes_8 (by decide) (fun c3 => ?_) (fun c3 => ?_)
  · have hw := o_t c3 hw
    refine g_iconst (v := -1) h d_G_goes_22 (by decide) ?_
    exact g_iret h hQ d_G_goes_23 hw
  · have hw := o_f c3 hw
    refine g_aload_n h d_G_goes_11 rfl rfl ?_
    refine g_getR (t := 0) (i := 0) (k := 0) (C := "FlowGate") (T := T_G) (N := 6) h hL rfl (by decide) ob_0 (by decide) rfl (t' := 1) (i' := 0) rfl rfl (fun w hw => mc (in_G w hw)) (mc m_fl_G_10) rfl d_G_goes_12 ?_
    refine g_iload_n h d_G_goes_15 rfl rfl ?_
    refine g_calli h (g_runV (rest := []) h (ct_T_isPlain hL v2 M (p_T_isPlain v2 M)) (cwV 1 h.2.2.2.2.1 (g_V m_ml_G_120 m_im_T_isPlain m_se_T_isPlain m_in_T m_co_T_isPlain) rfl rfl rfl (by decide +kernel) ⟨Nat.le_of_ble_eq_true rfl, Nat.le_of_ble_eq_true rfl⟩) (hL.recv h rfl (by decide) ob_1) rfl rfl (Nat.le_of_ble_eq_true rfl) d_G_goes_16) ?_
    refine g_topi (fun r5 er5 => ?_)
    have hw := o_l hw r5 er5
    refine g_if_ne (tgt := 24) h d_G_goes_19 (by decide) (fun c6 => ?_) (fun c6 => ?_)
    · have hw := o_f c6 hw
      refine g_aload_n h d_G_goes_24 rfl rfl ?_
      refine g_getR (t := 0) (i := 0) (k := 0) (C := "FlowGate") (T := T_G) (N := 6) h hL rfl (by decide) ob_0 (by decide) rfl (t' := 1) (i' := 0) rfl rfl (fun w hw => mc (in_G w hw)) (mc m_fl_G_10) rfl d_G_goes_25 ?_
      refine g_iload_n h d_G_goes_28 rfl rfl ?_
      refine g_iload_n h d_G_goes_29 rfl rfl ?_
      obtain ⟨r9, M8, hc7, hw⟩ := o_b hw
      refine g_calli h (g_runV (rest := []) h (ct_T_goesFor hL v1 v2 M hc7) (cwV 2 h.2.2.2.2.1 (g_V m_ml_G_127 m_im_T_goesFor m_se_T_goesFor m_in_T m_co_T_goesFor) rfl rfl rfl (by decide +kernel) ⟨Nat.le_of_ble_eq_true rfl, Nat.le_of_ble_eq_true rfl⟩) (hL.recv h rfl (by decide) ob_1) rfl rfl (Nat.le_of_ble_eq_true rfl) d_G_goes_30) ?_
      refine g_if_eq (tgt := 40) h d_G_goes_33 (by decide) (fun c10 => ?_) (fun c10 => ?_)
      · have hw := o_t c10 hw
        refine g_iconst (v := 0) h d_G_goes_40 (by decide) ?_
        exact g_iret h hQ d_G_goes_41 hw
      · have hw := o_f c10 hw
        refine g_iconst (v := 1) h d_G_goes_36 (by decide) ?_
        refine g_goto (tgt := 41) h d_G_goes_37 (by decide) ?_
        exact g_iret h hQ d_G_goes_41 hw
    · have hw := o_t c6 hw
      refine g_iconst (v := -1) h d_G_goes_22 (by decide) ?_
      exact g_iret h hQ d_G_goes_23 hw
set_option maxHeartbeats 4000000 in
set_option maxRecDepth 100000 in
theorem ct_G_count {Z : ZT} (hL : Lay Z sC) (v1 : Int32) (M : Mm)  {res : Int32 × Mm} (hw : F_G_count v1 M = some res) : CtI Z y_G_count ws_G_count (({ frames := 1, cells := 0, slots := 0, locals := 21 })) [.ref (za Z 0 0), .int v1] M res := by
  refine CtI.of hL (cc := c_G_count) (maxL := 2) (by decide) rfl (Nat.le_of_ble_eq_true rfl) (fun X h hQ => ?_)
  show G Z X M 0 [(0, .ref (za Z 0 0)), (1, .int v1)] []
  rw [F_G_count] at hw
  refine g_iload_n h d_G_count_0 rfl rfl ?_
  rcases Classical.em (v1 = 0) with c3_0 | c3_0
  · refine g_tabIn (tgt := 48) h d_G_count_1 (by rw [c3_0]; decide) (by rw [c3_0]; decide) (by rw [c3_0]; rfl) (by decide) ?_
    have hw := o_t c3_0 hw
    refine g_aload_n h d_G_count_48 rfl rfl ?_
    refine g_getR (t := 0) (i := 0) (k := 0) (C := "FlowGate") (T := T_G) (N := 6) h hL rfl (by decide) ob_0 (by decide) rfl (t' := 1) (i' := 0) rfl rfl (fun w hw => mc (in_G w hw)) (mc m_fl_G_10) rfl d_G_count_49 ?_
    refine g_getI (t := 1) (i := 0) (k := 2) (C := "FlowGate$Types") (T := T_T) (N := 3) h hL rfl (by decide) ob_1 (by decide) rfl (fun w hw => mc (in_T w hw)) (mc m_fl_G_47) rfl d_G_count_52 ?_
    exact g_iret h hQ d_G_count_55 hw
  have hw := o_f c3_0 hw
  rcases Classical.em (v1 = 1) with c3_1 | c3_1
  · refine g_tabIn (tgt := 56) h d_G_count_1 (by rw [c3_1]; decide) (by rw [c3_1]; decide) (by rw [c3_1]; rfl) (by decide) ?_
    have hw := o_t c3_1 hw
    refine g_aload_n h d_G_count_56 rfl rfl ?_
    refine g_getR (t := 0) (i := 0) (k := 1) (C := "FlowGate") (T := T_G) (N := 6) h hL rfl (by decide) ob_0 (by decide) rfl (t' := 4) (i' := 0) rfl rfl (fun w hw => mc (in_G w hw)) (mc m_fl_G_19) rfl d_G_count_57 ?_
    refine g_getI (t := 4) (i := 0) (k := 3) (C := "FlowGate$Method") (T := T_M) (N := 14) h hL rfl (by decide) ob_4 (by decide) rfl (fun w hw => mc (in_M w hw)) (mc m_fl_G_71) rfl d_G_count_60 ?_
    exact g_iret h hQ d_G_count_63 hw
  have hw := o_f c3_1 hw
  rcases Classical.em (v1 = 2) with c3_2 | c3_2
  · refine g_tabIn (tgt := 64) h d_G_count_1 (by rw [c3_2]; decide) (by rw [c3_2]; decide) (by rw [c3_2]; rfl) (by decide) ?_
    have hw := o_t c3_2 hw
    refine g_aload_n h d_G_count_64 rfl rfl ?_
    refine g_getR (t := 0) (i := 0) (k := 1) (C := "FlowGate") (T := T_G) (N := 6) h hL rfl (by decide) ob_0 (by decide) rfl (t' := 4) (i' := 0) rfl rfl (fun w hw => mc (in_G w hw)) (mc m_fl_G_19) rfl d_G_count_65 ?_
    refine g_getI (t := 4) (i := 0) (k := 8) (C := "FlowGate$Method") (T := T_M) (N := 14) h hL rfl (by decide) ob_4 (by decide) rfl (fun w hw => mc (in_M w hw)) (mc m_fl_G_86) rfl d_G_count_68 ?_
    exact g_iret h hQ d_G_count_71 hw
  have hw := o_f c3_2 hw
  rcases Classical.em (v1 = 3) with c3_3 | c3_3
  · refine g_tabIn (tgt := 72) h d_G_count_1 (by rw [c3_3]; decide) (by rw [c3_3]; decide) (by rw [c3_3]; rfl) (by decide) ?_
    have hw := o_t c3_3 hw
    refine g_aload_n h d_G_count_72 rfl rfl ?_
    refine g_getR (t := 0) (i := 0) (k := 1) (C := "FlowGate") (T := T_G) (N := 6) h hL rfl (by decide) ob_0 (by decide) rfl (t' := 4) (i' := 0) rfl rfl (fun w hw => mc (in_G w hw)) (mc m_fl_G_19) rfl d_G_count_73 ?_
    refine g_getI (t := 4) (i := 0) (k := 10) (C := "FlowGate$Method") (T := T_M) (N := 14) h hL rfl (by decide) ob_4 (by decide) rfl (fun w hw => mc (in_M w hw)) (mc m_fl_G_61) rfl d_G_count_76 ?_
    exact g_iret h hQ d_G_count_79 hw
  have hw := o_f c3_3 hw
  rcases Classical.em (v1 = 4) with c3_4 | c3_4
  · refine g_tabIn (tgt := 80) h d_G_count_1 (by rw [c3_4]; decide) (by rw [c3_4]; decide) (by rw [c3_4]; rfl) (by decide) ?_
    have hw := o_t c3_4 hw
    refine g_aload_n h d_G_count_80 rfl rfl ?_
    refine g_getR (t := 0) (i := 0) (k := 3) (C := "FlowGate") (T := T_G) (N := 6) h hL rfl (by decide) ob_0 (by decide) rfl (t' := 14) (i' := 0) rfl rfl (fun w hw => mc (in_G w hw)) (mc m_fl_G_35) rfl d_G_count_81 ?_
    refine g_getI (t := 14) (i := 0) (k := 8) (C := "FlowGate$Flow") (T := T_W) (N := 12) h hL rfl (by decide) ob_14 (by decide) rfl (fun w hw => mc (in_W w hw)) (mc m_fl_G_131) rfl d_G_count_84 ?_
    exact g_iret h hQ d_G_count_87 hw
  have hw := o_f c3_4 hw
  rcases Classical.em (v1 = 5) with c3_5 | c3_5
  · refine g_tabIn (tgt := 88) h d_G_count_1 (by rw [c3_5]; decide) (by rw [c3_5]; decide) (by rw [c3_5]; rfl) (by decide) ?_
    have hw := o_t c3_5 hw
    refine g_aload_n h d_G_count_88 rfl rfl ?_
    refine g_getR (t := 0) (i := 0) (k := 3) (C := "FlowGate") (T := T_G) (N := 6) h hL rfl (by decide) ob_0 (by decide) rfl (t' := 14) (i' := 0) rfl rfl (fun w hw => mc (in_G w hw)) (mc m_fl_G_35) rfl d_G_count_89 ?_
    refine g_getI (t := 14) (i := 0) (k := 10) (C := "FlowGate$Flow") (T := T_W) (N := 12) h hL rfl (by decide) ob_14 (by decide) rfl (fun w hw => mc (in_W w hw)) (mc m_fl_G_134) rfl d_G_count_92 ?_
    exact g_iret h hQ d_G_count_95 hw
  have hw := o_f c3_5 hw
  rcases Classical.em (v1 = 6) with c3_6 | c3_6
  · refine g_tabIn (tgt := 96) h d_G_count_1 (by rw [c3_6]; decide) (by rw [c3_6]; decide) (by rw [c3_6]; rfl) (by decide) ?_
    have hw := o_t c3_6 hw
    refine g_aload_n h d_G_count_96 rfl rfl ?_
    refine g_getI (t := 0) (i := 0) (k := 5) (C := "FlowGate") (T := T_G) (N := 6) h hL rfl (by decide) ob_0 (by decide) rfl (fun w hw => mc (in_G w hw)) (mc m_fl_G_104) rfl d_G_count_97 ?_
    exact g_iret h hQ d_G_count_100 hw
  have hw := o_f c3_6 hw
  rcases Classical.em (v1 = 7) with c3_7 | c3_7
  · refine g_tabIn (tgt := 101) h d_G_count_1 (by rw [c3_7]; decide) (by rw [c3_7]; decide) (by rw [c3_7]; rfl) (by decide) ?_
    have hw := o_t c3_7 hw
    refine g_aload_n h d_G_count_101 rfl rfl ?_
    refine g_getR (t := 0) (i := 0) (k := 3) (C := "FlowGate") (T := T_G) (N := 6) h hL rfl (by decide) ob_0 (by decide) rfl (t' := 14) (i' := 0) rfl rfl (fun w hw => mc (in_G w hw)) (mc m_fl_G_35) rfl d_G_count_102 ?_
    refine g_getL (t := 14) (i := 0) (k := 11) (C := "FlowGate$Flow") (T := T_W) (N := 12) h hL rfl (by decide) ob_14 (by decide) rfl (fun w hw => mc (in_W w hw)) (mc m_fl_G_137) rfl d_G_count_105 ?_
    refine g_calli h (g_runS (rest := []) h (ct_JL_bitCount hL (M.2 14 0 11) M (p_JL_bitCount (M.2 14 0 11) M)) ⟨callB_of 1 h.2.2.2.2.1 (g_C m_co_JL_bitCount) rfl rfl rfl (h.2.2.2.2.1 _ (mc m_in_JL)) (h.2.2.2.2.1 _ (mc m_ml_G_141)) (by decide +kernel) ⟨Nat.le_of_ble_eq_true rfl, Nat.le_of_ble_eq_true rfl⟩, h.2.2.2.2.1 _ (mc m_st_JL_bitCount)⟩ rfl rfl (Nat.le_of_ble_eq_true rfl) d_G_count_108) ?_
    refine g_topi (fun r2 er2 => ?_)
    have hw := o_l hw r2 er2
    exact g_iret h hQ d_G_count_111 hw
  have hw := o_f c3_7 hw
  refine g_tabOut (tgt := 112) h d_G_count_1 (sw_out 0 8 (by decide) (by decide) (fun j hj => ?_)) (by decide) ?_
  · rcases (show j = 0 ∨ j = 1 ∨ j = 2 ∨ j = 3 ∨ j = 4 ∨ j = 5 ∨ j = 6 ∨ j = 7 by omega) with rfl | rfl | rfl | rfl | rfl | rfl | rfl | rfl
    · exact c3_0
    · exact c3_1
    · exact c3_2
    · exact c3_3
    · exact c3_4
    · exact c3_5
    · exact c3_6
    · exact c3_7
  refine g_iconst (v := -1) h d_G_count_112 (by decide) ?_
  exact g_iret h hQ d_G_count_113 hw
