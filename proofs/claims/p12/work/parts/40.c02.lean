set_option maxHeartbeats 4000000 in
set_option maxRecDepth 100000 in
theorem w_O_haveArgumentsRoom_b4 {Z : ZT} {X : XT} (hL : Lay Z sC) (h : Ok Z X "FlowGate$Form" c_O_haveArgumentsRoom ws_O_haveArgumentsRoom 3 ({ frames := 1, cells := 0, slots := 0, locals := 20 })) {res : Int32 × Mm} (hQ : FinI Z X .boolean res)  : ∀ (n : Nat) (v1 : Int32) (v2 : Int32) (M : Mm), F_O_haveArgumentsRoom_b4  n v1 v2 M = some res → G Z X M 4 [(0, .ref (za Z 13 0)), (1, .int v1), (2, .int v2)] [] := by
  intro n
  induction n with
  | zero =>
    intro v1 v2 M hw
    cases hw
  | succ n hK4 =>
    intro v1 v2 M hw
    rw [F_O_haveArgumentsRoom_b4] at hw
    refine g_iload_n h d_O_haveArgumentsRoom_4 rfl rfl ?_
    refine g_aload_n h d_O_haveArgumentsRoom_5 rfl rfl ?_
    refine g_getR (t := 13) (i := 0) (k := 1) (C := "FlowGate$Form") (T := T_O) (N := 2) h hL rfl (by decide) ob_13 (by decide) rfl (t' := 4) (i' := 0) rfl rfl (fun w hw => mc (in_O w hw)) (mc m_fl_O_15) rfl d_O_haveArgumentsRoom_6 ?_
    refine g_getI (t := 4) (i := 0) (k := 10) (C := "FlowGate$Method") (T := T_M) (N := 14) h hL rfl (by decide) ob_4 (by decide) rfl (fun w hw => mc (in_M w hw)) (mc m_fl_O_89) rfl d_O_haveArgumentsRoom_9 ?_
    refine g_icmp_ge (tgt := 36) h d_O_haveArgumentsRoom_12 (by decide) (fun c1 => ?_) (fun c1 => ?_)
    · have hw := o_t c1 hw
      refine g_iload_n h d_O_haveArgumentsRoom_36 rfl rfl ?_
      refine g_aload_n h d_O_haveArgumentsRoom_37 rfl rfl ?_
      refine g_getR (t := 13) (i := 0) (k := 1) (C := "FlowGate$Form") (T := T_O) (N := 2) h hL rfl (by decide) ob_13 (by decide) rfl (t' := 4) (i' := 0) rfl rfl (fun w hw => mc (in_O w hw)) (mc m_fl_O_15) rfl d_O_haveArgumentsRoom_38 ?_
      refine g_getI (t := 4) (i := 0) (k := 12) (C := "FlowGate$Method") (T := T_M) (N := 14) h hL rfl (by decide) ob_4 (by decide) rfl (fun w hw => mc (in_M w hw)) (mc m_fl_O_99) rfl d_O_haveArgumentsRoom_41 ?_
      refine g_icmp_gt (tgt := 51) h d_O_haveArgumentsRoom_44 (by decide) (fun c2 => ?_) (fun c2 => ?_)
      · have hw := o_t c2 hw
        refine g_iconst (v := 0) h d_O_haveArgumentsRoom_51 (by decide) ?_
        exact g_zret h hQ d_O_haveArgumentsRoom_52 rfl hw
      · have hw := o_f c2 hw
        refine g_iconst (v := 1) h d_O_haveArgumentsRoom_47 (by decide) ?_
        refine g_goto (tgt := 52) h d_O_haveArgumentsRoom_48 (by decide) ?_
        exact g_zret h hQ d_O_haveArgumentsRoom_52 rfl hw
    · have hw := o_f c1 hw
      refine g_iload_n h d_O_haveArgumentsRoom_15 rfl rfl ?_
      refine g_aload_n h d_O_haveArgumentsRoom_16 rfl rfl ?_
      refine g_getR (t := 13) (i := 0) (k := 1) (C := "FlowGate$Form") (T := T_O) (N := 2) h hL rfl (by decide) ob_13 (by decide) rfl (t' := 4) (i' := 0) rfl rfl (fun w hw => mc (in_O w hw)) (mc m_fl_O_15) rfl d_O_haveArgumentsRoom_17 ?_
      refine g_getR (t := 4) (i := 0) (k := 9) (C := "FlowGate$Method") (T := T_M) (N := 14) h hL rfl (by decide) ob_4 (by decide) rfl (t' := 12) (i' := 0) rfl rfl (fun w hw => mc (in_M w hw)) (mc m_fl_O_92) rfl d_O_haveArgumentsRoom_20 ?_
      refine g_iload_n h d_O_haveArgumentsRoom_23 rfl rfl ?_
      obtain ⟨hv3, hw⟩ := o_in hw
      refine g_iald (t := 12) (i := 0) h hL rfl (by decide) rfl rfl hv3 d_O_haveArgumentsRoom_24 ?_
      refine g_calli h (g_runSN (rest := [.int v1]) h (ct_G_widthOf hL (M.1 12 0 (v2 : Int32).toNatClampNeg) M (p_G_widthOf (M.1 12 0 (v2 : Int32).toNatClampNeg) M)) ⟨va_cnB 1 h.2.2.2.2.1 (g_C m_co_G_widthOf) rfl rfl rfl (h.2.2.2.2.2.2.2.2.2.2.1 ("FlowGate$Form", 95, y_G_widthOf, "FlowGate") (by decide +kernel)) (h.2.2.2.2.1 _ (mc m_in_G)) (by decide +kernel) ⟨Nat.le_of_ble_eq_true rfl, Nat.le_of_ble_eq_true rfl⟩, h.2.2.2.2.1 _ (mc m_st_G_widthOf), trivial⟩ rfl rfl (Nat.le_of_ble_eq_true rfl) d_O_haveArgumentsRoom_25) ?_
      refine g_topi (fun r5 er5 => ?_)
      have hw := o_l hw r5 er5
      refine g_iadd h d_O_haveArgumentsRoom_28 ?_
      refine g_topi (fun n6 en6 => ?_)
      have hw := o_l hw n6 en6
      refine g_istore_n (lv' := [(1, .int n6), (0, .ref (za Z 13 0)), (2, .int v2)]) h d_O_haveArgumentsRoom_29 rfl (by decide) rfl ?_
      refine g_iinc (n' := 1) (lw := fun y => [(2, .int y), (1, .int n6), (0, .ref (za Z 13 0))]) h d_O_haveArgumentsRoom_30 rfl (by decide) (by decide) (fun _ => rfl) (fun n7 en7 => ?_)
      have hw := o_l hw n7 en7
      refine g_goto (tgt := 4) h d_O_haveArgumentsRoom_33 (by decide) ?_
      refine g_sub [2, 1, 0] rfl ?_
      exact hK4 n6 n7 M hw
set_option maxHeartbeats 4000000 in
set_option maxRecDepth 100000 in
theorem ct_O_haveArgumentsRoom {Z : ZT} (hL : Lay Z sC)  (M : Mm)  {res : Int32 × Mm} (hw : F_O_haveArgumentsRoom M = some res) : CtI Z y_O_haveArgumentsRoom ws_O_haveArgumentsRoom (({ frames := 1, cells := 0, slots := 0, locals := 20 })) [.ref (za Z 13 0)] M res := by
  refine CtI.of hL (cc := c_O_haveArgumentsRoom) (maxL := 3) (by decide) rfl (Nat.le_of_ble_eq_true rfl) (fun X h hQ => ?_)
  show G Z X M 0 [(0, .ref (za Z 13 0))] []
  rw [F_O_haveArgumentsRoom] at hw
  refine g_iconst (v := 0) h d_O_haveArgumentsRoom_0 (by decide) ?_
  refine g_istore_n (lv' := [(1, .int 0), (0, .ref (za Z 13 0))]) h d_O_haveArgumentsRoom_1 rfl (by decide) rfl ?_
  refine g_iconst (v := 0) h d_O_haveArgumentsRoom_2 (by decide) ?_
  refine g_istore_n (lv' := [(2, .int 0), (1, .int 0), (0, .ref (za Z 13 0))]) h d_O_haveArgumentsRoom_3 rfl (by decide) rfl ?_
  refine g_sub [2, 1, 0] rfl ?_
  exact w_O_haveArgumentsRoom_b4 hL h hQ  fuel 0 0 M hw
set_option maxHeartbeats 4000000 in
set_option maxRecDepth 100000 in
theorem w_O_findFault_b69 {Z : ZT} {X : XT} (hL : Lay Z sC) (h : Ok Z X "FlowGate$Form" c_O_findFault ws_O_findFault 2 ({ frames := 3, cells := 0, slots := 0, locals := 67 })) {res : Int32 × Mm} (hQ : FinI Z X .int res)  : ∀ (n : Nat) (v1 : Int32) (M : Mm), F_O_findFault_b69  n v1 M = some res → G Z X M 69 [(0, .ref (za Z 13 0)), (1, .int v1)] [] := by
  intro n
  induction n with
  | zero =>
    intro v1 M hw
    cases hw
  | succ n hK69 =>
    intro v1 M hw
    rw [F_O_findFault_b69] at hw
    refine g_iload_n h d_O_findFault_69 rfl rfl ?_
    refine g_aload_n h d_O_findFault_70 rfl rfl ?_
    refine g_getR (t := 13) (i := 0) (k := 1) (C := "FlowGate$Form") (T := T_O) (N := 2) h hL rfl (by decide) ob_13 (by decide) rfl (t' := 4) (i' := 0) rfl rfl (fun w hw => mc (in_O w hw)) (mc m_fl_O_15) rfl d_O_findFault_71 ?_
    refine g_getI (t := 4) (i := 0) (k := 8) (C := "FlowGate$Method") (T := T_M) (N := 14) h hL rfl (by decide) ob_4 (by decide) rfl (fun w hw => mc (in_M w hw)) (mc m_fl_O_39) rfl d_O_findFault_74 ?_
    refine g_icmp_ge (tgt := 99) h d_O_findFault_77 (by decide) (fun c1 => ?_) (fun c1 => ?_)
    · have hw := o_t c1 hw
      refine g_aload_n h d_O_findFault_99 rfl rfl ?_
      obtain ⟨r4, M3, hc2, hw⟩ := o_b hw
      refine g_calli h (g_runV (rest := []) h (ct_O_haveArgumentsRoom hL M hc2) (cwV 0 h.2.2.2.2.1 (g_V m_ml_O_46 m_im_O_haveArgumentsRoom m_se_O_haveArgumentsRoom m_in_O m_co_O_haveArgumentsRoom) rfl rfl rfl (by decide +kernel) ⟨Nat.le_of_ble_eq_true rfl, Nat.le_of_ble_eq_true rfl⟩) (hL.recv h rfl (by decide) ob_13) rfl rfl (Nat.le_of_ble_eq_true rfl) d_O_findFault_100) ?_
      refine g_if_eq (tgt := 110) h d_O_findFault_103 (by decide) (fun c5 => ?_) (fun c5 => ?_)
      · have hw := o_t c5 hw
        refine g_sipush (v := 200) h d_O_findFault_110 (by decide) ?_
        exact g_iret h hQ d_O_findFault_113 hw
      · have hw := o_f c5 hw
        refine g_iconst (v := -1) h d_O_findFault_106 (by decide) ?_
        refine g_goto (tgt := 113) h d_O_findFault_107 (by decide) ?_
        exact g_iret h hQ d_O_findFault_113 hw
    · have hw := o_f c1 hw
      refine g_aload_n h d_O_findFault_80 rfl rfl ?_
      refine g_iload_n h d_O_findFault_81 rfl rfl ?_
      obtain ⟨r8, M7, hc6, hw⟩ := o_b hw
      refine g_calli h (g_runV (rest := []) h (ct_O_isHandlerWellFormed hL v1 M hc6) (cwV 1 h.2.2.2.2.1 (g_V m_ml_O_42 m_im_O_isHandlerWellFormed m_se_O_isHandlerWellFormed m_in_O m_co_O_isHandlerWellFormed) rfl rfl rfl (by decide +kernel) ⟨Nat.le_of_ble_eq_true rfl, Nat.le_of_ble_eq_true rfl⟩) (hL.recv h rfl (by decide) ob_13) rfl rfl (Nat.le_of_ble_eq_true rfl) d_O_findFault_82) ?_
      refine g_if_ne (tgt := 93) h d_O_findFault_85 (by decide) (fun c9 => ?_) (fun c9 => ?_)
      · have hw := o_f c9 hw
        refine g_iinc (n' := 1) (lw := fun y => [(1, .int y), (0, .ref (za Z 13 0))]) h d_O_findFault_93 rfl (by decide) (by decide) (fun _ => rfl) (fun n10 en10 => ?_)
        have hw := o_l hw n10 en10
        refine g_goto (tgt := 69) h d_O_findFault_96 (by decide) ?_
        refine g_sub [1, 0] rfl ?_
        exact hK69 n10 M7 hw
      · have hw := o_t c9 hw
        refine g_bipush (v := 100) h d_O_findFault_88 (by decide) ?_
        refine g_iload_n h d_O_findFault_90 rfl rfl ?_
        refine g_iadd h d_O_findFault_91 ?_
        exact g_iret h hQ d_O_findFault_92 hw
set_option maxHeartbeats 4000000 in
set_option maxRecDepth 100000 in
theorem w_O_findFault_b14 {Z : ZT} {X : XT} (hL : Lay Z sC) (h : Ok Z X "FlowGate$Form" c_O_findFault ws_O_findFault 2 ({ frames := 3, cells := 0, slots := 0, locals := 67 })) {res : Int32 × Mm} (hQ : FinI Z X .int res)  : ∀ (n : Nat) (v1 : Int32) (M : Mm), F_O_findFault_b14  n v1 M = some res → G Z X M 14 [(0, .ref (za Z 13 0)), (1, .int v1)] [] := by
  intro n
  induction n with
  | zero =>
    intro v1 M hw
    cases hw
  | succ n hK14 =>
    intro v1 M hw
    rw [F_O_findFault_b14] at hw
    refine g_iload_n h d_O_findFault_14 rfl rfl ?_
    refine g_aload_n h d_O_findFault_15 rfl rfl ?_
    refine g_getR (t := 13) (i := 0) (k := 1) (C := "FlowGate$Form") (T := T_O) (N := 2) h hL rfl (by decide) ob_13 (by decide) rfl (t' := 4) (i' := 0) rfl rfl (fun w hw => mc (in_O w hw)) (mc m_fl_O_15) rfl d_O_findFault_16 ?_
    refine g_getI (t := 4) (i := 0) (k := 3) (C := "FlowGate$Method") (T := T_M) (N := 14) h hL rfl (by decide) ob_4 (by decide) rfl (fun w hw => mc (in_M w hw)) (mc m_fl_O_19) rfl d_O_findFault_19 ?_
    refine g_icmp_ge (tgt := 67) h d_O_findFault_22 (by decide) (fun c11 => ?_) (fun c11 => ?_)
    · have hw := o_t c11 hw
      refine g_iconst (v := 0) h d_O_findFault_67 (by decide) ?_
      refine g_istore_n (lv' := [(1, .int 0), (0, .ref (za Z 13 0))]) h d_O_findFault_68 rfl (by decide) rfl ?_
      refine g_sub [1, 0] rfl ?_
      exact w_O_findFault_b69 hL h hQ  fuel 0 M hw
    · have hw := o_f c11 hw
      refine g_aload_n h d_O_findFault_25 rfl rfl ?_
      refine g_aload_n h d_O_findFault_26 rfl rfl ?_
      refine g_getR (t := 13) (i := 0) (k := 1) (C := "FlowGate$Form") (T := T_O) (N := 2) h hL rfl (by decide) ob_13 (by decide) rfl (t' := 4) (i' := 0) rfl rfl (fun w hw => mc (in_O w hw)) (mc m_fl_O_15) rfl d_O_findFault_27 ?_
      refine g_getR (t := 4) (i := 0) (k := 0) (C := "FlowGate$Method") (T := T_M) (N := 14) h hL rfl (by decide) ob_4 (by decide) rfl (t' := 5) (i' := 0) rfl rfl (fun w hw => mc (in_M w hw)) (mc m_fl_O_25) rfl d_O_findFault_30 ?_
      refine g_iload_n h d_O_findFault_33 rfl rfl ?_
      obtain ⟨hv12, hw⟩ := o_in hw
      refine g_iald (t := 5) (i := 0) h hL rfl (by decide) rfl rfl hv12 d_O_findFault_34 ?_
      refine g_aload_n h d_O_findFault_35 rfl rfl ?_
      refine g_getR (t := 13) (i := 0) (k := 1) (C := "FlowGate$Form") (T := T_O) (N := 2) h hL rfl (by decide) ob_13 (by decide) rfl (t' := 4) (i' := 0) rfl rfl (fun w hw => mc (in_O w hw)) (mc m_fl_O_15) rfl d_O_findFault_36 ?_
      refine g_getR (t := 4) (i := 0) (k := 1) (C := "FlowGate$Method") (T := T_M) (N := 14) h hL rfl (by decide) ob_4 (by decide) rfl (t' := 6) (i' := 0) rfl rfl (fun w hw => mc (in_M w hw)) (mc m_fl_O_29) rfl d_O_findFault_39 ?_
      refine g_iload_n h d_O_findFault_42 rfl rfl ?_
      obtain ⟨hv13, hw⟩ := o_in hw
      refine g_iald (t := 6) (i := 0) h hL rfl (by decide) rfl rfl hv13 d_O_findFault_43 ?_
      refine g_aload_n h d_O_findFault_44 rfl rfl ?_
      refine g_getR (t := 13) (i := 0) (k := 1) (C := "FlowGate$Form") (T := T_O) (N := 2) h hL rfl (by decide) ob_13 (by decide) rfl (t' := 4) (i' := 0) rfl rfl (fun w hw => mc (in_O w hw)) (mc m_fl_O_15) rfl d_O_findFault_45 ?_
      refine g_getR (t := 4) (i := 0) (k := 2) (C := "FlowGate$Method") (T := T_M) (N := 14) h hL rfl (by decide) ob_4 (by decide) rfl (t' := 7) (i' := 0) rfl rfl (fun w hw => mc (in_M w hw)) (mc m_fl_O_32) rfl d_O_findFault_48 ?_
      refine g_iload_n h d_O_findFault_51 rfl rfl ?_
      obtain ⟨hv14, hw⟩ := o_in hw
      refine g_iald (t := 7) (i := 0) h hL rfl (by decide) rfl rfl hv14 d_O_findFault_52 ?_
      refine g_calli h (g_runV (rest := []) h (ct_O_isWellFormed hL (M.1 5 0 (v1 : Int32).toNatClampNeg) (M.1 6 0 (v1 : Int32).toNatClampNeg) (M.1 7 0 (v1 : Int32).toNatClampNeg) M (p_O_isWellFormed (M.1 5 0 (v1 : Int32).toNatClampNeg) (M.1 6 0 (v1 : Int32).toNatClampNeg) (M.1 7 0 (v1 : Int32).toNatClampNeg) M)) (cwV 3 h.2.2.2.2.1 (g_V m_ml_O_35 m_im_O_isWellFormed m_se_O_isWellFormed m_in_O m_co_O_isWellFormed) rfl rfl rfl (by decide +kernel) ⟨Nat.le_of_ble_eq_true rfl, Nat.le_of_ble_eq_true rfl⟩) (hL.recv h rfl (by decide) ob_13) rfl rfl (Nat.le_of_ble_eq_true rfl) d_O_findFault_53) ?_
      refine g_topi (fun r16 er16 => ?_)
      have hw := o_l hw r16 er16
      refine g_if_ne (tgt := 61) h d_O_findFault_56 (by decide) (fun c17 => ?_) (fun c17 => ?_)
      · have hw := o_f c17 hw
        refine g_iinc (n' := 1) (lw := fun y => [(1, .int y), (0, .ref (za Z 13 0))]) h d_O_findFault_61 rfl (by decide) (by decide) (fun _ => rfl) (fun n18 en18 => ?_)
        have hw := o_l hw n18 en18
        refine g_goto (tgt := 14) h d_O_findFault_64 (by decide) ?_
        refine g_sub [1, 0] rfl ?_
        exact hK14 n18 M hw
      · have hw := o_t c17 hw
        refine g_iload_n h d_O_findFault_59 rfl rfl ?_
        exact g_iret h hQ d_O_findFault_60 hw
set_option maxHeartbeats 4000000 in
set_option maxRecDepth 100000 in
theorem ct_O_findFault {Z : ZT} (hL : Lay Z sC)  (M : Mm)  {res : Int32 × Mm} (hw : F_O_findFault M = some res) : CtI Z y_O_findFault ws_O_findFault (({ frames := 3, cells := 0, slots := 0, locals := 67 })) [.ref (za Z 13 0)] M res := by
  refine CtI.of hL (cc := c_O_findFault) (maxL := 2) (by decide) rfl (Nat.le_of_ble_eq_true rfl) (fun X h hQ => ?_)
  show G Z X M 0 [(0, .ref (za Z 13 0))] []
  rw [F_O_findFault] at hw
  refine g_aload_n h d_O_findFault_0 rfl rfl ?_
  refine g_getR (t := 13) (i := 0) (k := 1) (C := "FlowGate$Form") (T := T_O) (N := 2) h hL rfl (by decide) ob_13 (by decide) rfl (t' := 4) (i' := 0) rfl rfl (fun w hw => mc (in_O w hw)) (mc m_fl_O_15) rfl d_O_findFault_1 ?_
  refine g_getI (t := 4) (i := 0) (k := 3) (C := "FlowGate$Method") (T := T_M) (N := 14) h hL rfl (by decide) ob_4 (by decide) rfl (fun w hw => mc (in_M w hw)) (mc m_fl_O_19) rfl d_O_findFault_4 ?_
  refine g_if_ne (tgt := 12) h d_O_findFault_7 (by decide) (fun c19 => ?_) (fun c19 => ?_)
  · have hw := o_f c19 hw
    refine g_iconst (v := 0) h d_O_findFault_12 (by decide) ?_
    refine g_istore_n (lv' := [(1, .int 0), (0, .ref (za Z 13 0))]) h d_O_findFault_13 rfl (by decide) rfl ?_
    refine g_sub [1, 0] rfl ?_
    exact w_O_findFault_b14 hL h hQ  fuel 0 M hw
  · have hw := o_t c19 hw
    refine g_iconst (v := 0) h d_O_findFault_10 (by decide) ?_
    exact g_iret h hQ d_O_findFault_11 hw
set_option maxHeartbeats 4000000 in
set_option maxRecDepth 100000 in
theorem w_R_start_b30 {Z : ZT} {X : XT} (hL : Lay Z sC) (h : Ok Z X "FlowGate$Frame" c_R_start ws_R_start 4 ({ frames := 1, cells := 0, slots := 0, locals := 23 })) {res : Mm} (hQ : FinV Z X res)  : ∀ (n : Nat) (i0 : Nat) (v2 : Int32) (v3 : Int32) (M : Mm), i0 < cnt 19 → F_R_start_b30  n i0 v2 v3 M = some res → G Z X M 30 [(0, .ref (za Z 19 i0)), (1, .ref (za Z 4 0)), (2, .int v2), (3, .int v3)] [] := by
  intro n
  induction n with
  | zero =>
    intro i0 v2 v3 M hbi0 hw
    cases hw
  | succ n hK30 =>
    intro i0 v2 v3 M hbi0 hw
    rw [F_R_start_b30] at hw
    refine g_iload_n h d_R_start_30 rfl rfl ?_
    refine g_aload_n h d_R_start_31 rfl rfl ?_
    refine g_getI (t := 4) (i := 0) (k := 10) (C := "FlowGate$Method") (T := T_M) (N := 14) h hL rfl (by decide) ob_4 (by decide) rfl (fun w hw => mc (in_M w hw)) (mc m_fl_R_41) rfl d_R_start_32 ?_
    refine g_icmp_ge (tgt := 74) h d_R_start_35 (by decide) (fun c1 => ?_) (fun c1 => ?_)
    · have hw := o_t c1 hw
      exact g_vret h hQ d_R_start_74 hw
    · have hw := o_f c1 hw
      refine g_iload_n h d_R_start_38 rfl rfl ?_
      refine g_bipush (v := 12) h d_R_start_39 (by decide) ?_
      refine g_icmp_ge (tgt := 74) h d_R_start_41 (by decide) (fun c2 => ?_) (fun c2 => ?_)
      · have hw := o_t c2 hw
        exact g_vret h hQ d_R_start_74 hw
      · have hw := o_f c2 hw
        refine g_aload_n h d_R_start_44 rfl rfl ?_
        refine g_getR (t := 19) (i := i0) (k := 0) (C := "FlowGate$Frame") (T := T_R) (N := 5) h hL rfl hbi0 ob_19 (by decide) rfl (t' := 20) (i' := i0) rfl rfl (fun w hw => mc (in_R w hw)) (mc m_fl_R_9) rfl d_R_start_45 ?_
        refine g_iload_n h d_R_start_48 rfl rfl ?_
        refine g_aload_n h d_R_start_49 rfl rfl ?_
        refine g_getR (t := 4) (i := 0) (k := 9) (C := "FlowGate$Method") (T := T_M) (N := 14) h hL rfl (by decide) ob_4 (by decide) rfl (t' := 12) (i' := 0) rfl rfl (fun w hw => mc (in_M w hw)) (mc m_fl_R_46) rfl d_R_start_50 ?_
        refine g_iload_n h d_R_start_53 rfl rfl ?_
        obtain ⟨hv3, hw⟩ := o_in hw
        refine g_iald (t := 12) (i := 0) h hL rfl (by decide) rfl rfl hv3 d_R_start_54 ?_
        obtain ⟨hv4, hw⟩ := o_in hw
        refine g_iast (t := 20) (i := i0) h hL rfl hbi0 rfl rfl hv4 d_R_start_55 ?_
        refine g_mem (fun M5 eM5 => ?_)
        have hw := o_l hw M5 eM5
        refine g_iload_n h d_R_start_56 rfl rfl ?_
        refine g_aload_n h d_R_start_57 rfl rfl ?_
        refine g_getR (t := 4) (i := 0) (k := 9) (C := "FlowGate$Method") (T := T_M) (N := 14) h hL rfl (by decide) ob_4 (by decide) rfl (t' := 12) (i' := 0) rfl rfl (fun w hw => mc (in_M w hw)) (mc m_fl_R_46) rfl d_R_start_58 ?_
        refine g_iload_n h d_R_start_61 rfl rfl ?_
        obtain ⟨hv6, hw⟩ := o_in hw
        refine g_iald (t := 12) (i := 0) h hL rfl (by decide) rfl rfl hv6 d_R_start_62 ?_
        refine g_calli h (g_runSN (rest := [.int v2]) h (ct_G_widthOf hL (M5.1 12 0 (v3 : Int32).toNatClampNeg) M5 (p_G_widthOf (M5.1 12 0 (v3 : Int32).toNatClampNeg) M5)) ⟨va_cnB 1 h.2.2.2.2.1 (g_C m_co_G_widthOf) rfl rfl rfl (h.2.2.2.2.2.2.2.2.2.2.1 ("FlowGate$Frame", 49, y_G_widthOf, "FlowGate") (by decide +kernel)) (h.2.2.2.2.1 _ (mc m_in_G)) (by decide +kernel) ⟨Nat.le_of_ble_eq_true rfl, Nat.le_of_ble_eq_true rfl⟩, h.2.2.2.2.1 _ (mc m_st_G_widthOf), trivial⟩ rfl rfl (Nat.le_of_ble_eq_true rfl) d_R_start_63) ?_
        refine g_topi (fun r8 er8 => ?_)
        have hw := o_l hw r8 er8
        refine g_iadd h d_R_start_66 ?_
        refine g_topi (fun n9 en9 => ?_)
        have hw := o_l hw n9 en9
        refine g_istore_n (lv' := [(2, .int n9), (0, .ref (za Z 19 i0)), (1, .ref (za Z 4 0)), (3, .int v3)]) h d_R_start_67 rfl (by decide) rfl ?_
        refine g_iinc (n' := 1) (lw := fun y => [(3, .int y), (2, .int n9), (0, .ref (za Z 19 i0)), (1, .ref (za Z 4 0))]) h d_R_start_68 rfl (by decide) (by decide) (fun _ => rfl) (fun n10 en10 => ?_)
        have hw := o_l hw n10 en10
        refine g_goto (tgt := 30) h d_R_start_71 (by decide) ?_
        refine g_sub [2, 3, 1, 0] rfl ?_
        exact hK30 i0 n9 n10 M5 hbi0 hw
set_option maxHeartbeats 4000000 in
set_option maxRecDepth 100000 in
theorem ct_R_start {Z : ZT} (hL : Lay Z sC) (i0 : Nat) (M : Mm) (hbi0 : i0 < cnt 19) {res : Mm} (hw : F_R_start i0 M = some res) : CtV Z y_R_start ws_R_start (({ frames := 1, cells := 0, slots := 0, locals := 23 })) [.ref (za Z 19 i0), .ref (za Z 4 0)] M res := by
  refine CtV.of hL (cc := c_R_start) (maxL := 4) (by decide) rfl (Nat.le_of_ble_eq_true rfl) (fun X h hQ => ?_)
  show G Z X M 0 [(0, .ref (za Z 19 i0)), (1, .ref (za Z 4 0))] []
  rw [F_R_start] at hw
  refine g_aload_n h d_R_start_0 rfl rfl ?_
  refine g_getR (t := 19) (i := i0) (k := 0) (C := "FlowGate$Frame") (T := T_R) (N := 5) h hL rfl hbi0 ob_19 (by decide) rfl (t' := 20) (i' := i0) rfl rfl (fun w hw => mc (in_R w hw)) (mc m_fl_R_9) rfl d_R_start_1 ?_
  refine g_iconst (v := 0) h d_R_start_4 (by decide) ?_
  refine g_callv h (g_runS (rest := []) h (ct_fillI hL (t := 20) (i := i0) rfl hbi0 rfl 0 M) ⟨callB_of 2 h.2.2.2.2.1 (g_C m_co_JA_fillI) rfl rfl rfl (h.2.2.2.2.1 _ (mc m_in_JA)) (h.2.2.2.2.1 _ (mc m_ml_R_35)) (by decide +kernel) ⟨Nat.le_of_ble_eq_true rfl, Nat.le_of_ble_eq_true rfl⟩, h.2.2.2.2.1 _ (mc m_st_JA_fillI)⟩ rfl rfl (Nat.le_of_ble_eq_true rfl) d_R_start_5) ?_
  refine g_mem (fun M11 eM11 => ?_)
  have hw := o_l hw M11 eM11
  refine g_aload_n h d_R_start_8 rfl rfl ?_
  refine g_getR (t := 19) (i := i0) (k := 4) (C := "FlowGate$Frame") (T := T_R) (N := 5) h hL rfl hbi0 ob_19 (by decide) rfl (t' := 22) (i' := i0) rfl rfl (fun w hw => mc (in_R w hw)) (mc m_fl_R_18) rfl d_R_start_9 ?_
  refine g_iconst (v := 0) h d_R_start_12 (by decide) ?_
  refine g_callv h (g_runS (rest := []) h (ct_fillI hL (t := 22) (i := i0) rfl hbi0 rfl 0 M11) ⟨callB_of 2 h.2.2.2.2.1 (g_C m_co_JA_fillI) rfl rfl rfl (h.2.2.2.2.1 _ (mc m_in_JA)) (h.2.2.2.2.1 _ (mc m_ml_R_35)) (by decide +kernel) ⟨Nat.le_of_ble_eq_true rfl, Nat.le_of_ble_eq_true rfl⟩, h.2.2.2.2.1 _ (mc m_st_JA_fillI)⟩ rfl rfl (Nat.le_of_ble_eq_true rfl) d_R_start_13) ?_
  refine g_mem (fun M12 eM12 => ?_)
  have hw := o_l hw M12 eM12
  refine g_aload_n h d_R_start_16 rfl rfl ?_
  refine g_iconst (v := 0) h d_R_start_17 (by decide) ?_
  refine g_putI (t := 19) (i := i0) (k := 2) (C := "FlowGate$Frame") (T := T_R) (N := 5) h hL rfl hbi0 ob_19 (by decide) rfl (fun w hw => mc (in_R w hw)) ty_R ty_R_ok nm_R (mc m_fl_R_27) rfl rfl rfl d_R_start_18 ?_
  refine g_mem (fun M13 eM13 => ?_)
  have hw := o_l hw M13 eM13
  refine g_aload_n h d_R_start_21 rfl rfl ?_
  refine g_lconst (v := 0) h d_R_start_22 rfl ?_
  refine g_putL (t := 19) (i := i0) (k := 3) (C := "FlowGate$Frame") (T := T_R) (N := 5) h hL rfl hbi0 ob_19 (by decide) rfl (fun w hw => mc (in_R w hw)) ty_R ty_R_ok nm_R (mc m_fl_R_31) rfl rfl rfl d_R_start_23 ?_
  refine g_mem (fun M14 eM14 => ?_)
  have hw := o_l hw M14 eM14
  refine g_iconst (v := 0) h d_R_start_26 (by decide) ?_
  refine g_istore_n (lv' := [(2, .int 0), (0, .ref (za Z 19 i0)), (1, .ref (za Z 4 0))]) h d_R_start_27 rfl (by decide) rfl ?_
  refine g_iconst (v := 0) h d_R_start_28 (by decide) ?_
  refine g_istore_n (lv' := [(3, .int 0), (2, .int 0), (0, .ref (za Z 19 i0)), (1, .ref (za Z 4 0))]) h d_R_start_29 rfl (by decide) rfl ?_
  refine g_sub [2, 3, 1, 0] rfl ?_
  exact w_R_start_b30 hL h hQ  fuel i0 0 0 M14 hbi0 hw
set_option maxHeartbeats 4000000 in
set_option maxRecDepth 100000 in
theorem ct_G_isRaw {Z : ZT} (hL : Lay Z sC) (v0 : Int32) (M : Mm)  {res : Int32 × Mm} (hw : F_G_isRaw v0 M = some res) : CtI Z y_G_isRaw ws_G_isRaw (({ frames := 0, cells := 0, slots := 0, locals := 0 })) [.int v0] M res := by
  refine CtI.of hL (cc := c_G_isRaw) (maxL := 1) (by decide) rfl (Nat.le_of_ble_eq_true rfl) (fun X h hQ => ?_)
  show G Z X M 0 [(0, .int v0)] []
  rw [F_G_isRaw] at hw
  refine g_iload_n h d_G_isRaw_0 rfl rfl ?_
  refine g_sipush (v := 1000) h d_G_isRaw_1 (by decide) ?_
  refine g_icmp_lt (tgt := 18) h d_G_isRaw_4 (by decide) (fun c1 => ?_) (fun c1 => ?_)
  · have hw := o_t c1 hw
    refine g_iconst (v := 0) h d_G_isRaw_18 (by decide) ?_
    exact g_zret h hQ d_G_isRaw_19 rfl hw
  · have hw := o_f c1 hw
    refine g_iload_n h d_G_isRaw_7 rfl rfl ?_
    refine g_sipush (v := 1048) h d_G_isRaw_8 (by decide) ?_
    refine g_icmp_ge (tgt := 18) h d_G_isRaw_11 (by decide) (fun c2 => ?_) (fun c2 => ?_)
    · have hw := o_t c2 hw
      refine g_iconst (v := 0) h d_G_isRaw_18 (by decide) ?_
      exact g_zret h hQ d_G_isRaw_19 rfl hw
    · have hw := o_f c2 hw
      refine g_iconst (v := 1) h d_G_isRaw_14 (by decide) ?_
      refine g_goto (tgt := 19) h d_G_isRaw_15 (by decide) ?_
      exact g_zret h hQ d_G_isRaw_19 rfl hw
set_option maxHeartbeats 4000000 in
set_option maxRecDepth 100000 in
theorem w_R_hasRawLocal_b2 {Z : ZT} {X : XT} (hL : Lay Z sC) (h : Ok Z X "FlowGate$Frame" c_R_hasRawLocal ws_R_hasRawLocal 2 ({ frames := 1, cells := 0, slots := 0, locals := 20 })) {res : Int32 × Mm} (hQ : FinI Z X .boolean res)  : ∀ (n : Nat) (i0 : Nat) (v1 : Int32) (M : Mm), i0 < cnt 19 → F_R_hasRawLocal_b2  n i0 v1 M = some res → G Z X M 2 [(0, .ref (za Z 19 i0)), (1, .int v1)] [] := by
  intro n
  induction n with
  | zero =>
    intro i0 v1 M hbi0 hw
    cases hw
  | succ n hK2 =>
    intro i0 v1 M hbi0 hw
    rw [F_R_hasRawLocal_b2] at hw
    refine g_iload_n h d_R_hasRawLocal_2 rfl rfl ?_
    refine g_bipush (v := 12) h d_R_hasRawLocal_3 (by decide) ?_
    refine g_icmp_ge (tgt := 28) h d_R_hasRawLocal_5 (by decide) (fun c1 => ?_) (fun c1 => ?_)
    · have hw := o_t c1 hw
      refine g_iconst (v := 0) h d_R_hasRawLocal_28 (by decide) ?_
      exact g_zret h hQ d_R_hasRawLocal_29 rfl hw
    · have hw := o_f c1 hw
      refine g_aload_n h d_R_hasRawLocal_8 rfl rfl ?_
      refine g_getR (t := 19) (i := i0) (k := 0) (C := "FlowGate$Frame") (T := T_R) (N := 5) h hL rfl hbi0 ob_19 (by decide) rfl (t' := 20) (i' := i0) rfl rfl (fun w hw => mc (in_R w hw)) (mc m_fl_R_9) rfl d_R_hasRawLocal_9 ?_
      refine g_iload_n h d_R_hasRawLocal_12 rfl rfl ?_
      obtain ⟨hv2, hw⟩ := o_in hw
      refine g_iald (t := 20) (i := i0) h hL rfl hbi0 rfl rfl hv2 d_R_hasRawLocal_13 ?_
      refine g_calli h (g_runSN (rest := []) h (ct_G_isRaw hL (M.1 20 i0 (v1 : Int32).toNatClampNeg) M (p_G_isRaw (M.1 20 i0 (v1 : Int32).toNatClampNeg) M)) ⟨va_cnB 1 h.2.2.2.2.1 (g_C m_co_G_isRaw) rfl rfl rfl (h.2.2.2.2.2.2.2.2.2.2.1 ("FlowGate$Frame", 72, y_G_isRaw, "FlowGate") (by decide +kernel)) (h.2.2.2.2.1 _ (mc m_in_G)) (by decide +kernel) ⟨Nat.le_of_ble_eq_true rfl, Nat.le_of_ble_eq_true rfl⟩, h.2.2.2.2.1 _ (mc m_st_G_isRaw), trivial⟩ rfl rfl (Nat.le_of_ble_eq_true rfl) d_R_hasRawLocal_14) ?_
      refine g_topi (fun r4 er4 => ?_)
      have hw := o_l hw r4 er4
      refine g_if_eq (tgt := 22) h d_R_hasRawLocal_17 (by decide) (fun c5 => ?_) (fun c5 => ?_)
      · have hw := o_t c5 hw
        refine g_iinc (n' := 1) (lw := fun y => [(1, .int y), (0, .ref (za Z 19 i0))]) h d_R_hasRawLocal_22 rfl (by decide) (by decide) (fun _ => rfl) (fun n6 en6 => ?_)
        have hw := o_l hw n6 en6
        refine g_goto (tgt := 2) h d_R_hasRawLocal_25 (by decide) ?_
        refine g_sub [1, 0] rfl ?_
        exact hK2 i0 n6 M hbi0 hw
      · have hw := o_f c5 hw
        refine g_iconst (v := 1) h d_R_hasRawLocal_20 (by decide) ?_
        exact g_zret h hQ d_R_hasRawLocal_21 rfl hw
set_option maxHeartbeats 4000000 in
set_option maxRecDepth 100000 in
theorem ct_R_hasRawLocal {Z : ZT} (hL : Lay Z sC) (i0 : Nat) (M : Mm) (hbi0 : i0 < cnt 19) {res : Int32 × Mm} (hw : F_R_hasRawLocal i0 M = some res) : CtI Z y_R_hasRawLocal ws_R_hasRawLocal (({ frames := 1, cells := 0, slots := 0, locals := 20 })) [.ref (za Z 19 i0)] M res := by
  refine CtI.of hL (cc := c_R_hasRawLocal) (maxL := 2) (by decide) rfl (Nat.le_of_ble_eq_true rfl) (fun X h hQ => ?_)
  show G Z X M 0 [(0, .ref (za Z 19 i0))] []
  rw [F_R_hasRawLocal] at hw
  refine g_iconst (v := 0) h d_R_hasRawLocal_0 (by decide) ?_
  refine g_istore_n (lv' := [(1, .int 0), (0, .ref (za Z 19 i0))]) h d_R_hasRawLocal_1 rfl (by decide) rfl ?_
  refine g_sub [1, 0] rfl ?_
  exact w_R_hasRawLocal_b2 hL h hQ  fuel i0 0 M hbi0 hw
set_option maxHeartbeats 4000000 in
set_option maxRecDepth 100000 in
theorem w_R_hasRaw_b2 {Z : ZT} {X : XT} (hL : Lay Z sC) (h : Ok Z X "FlowGate$Frame" c_R_hasRaw ws_R_hasRaw 2 ({ frames := 2, cells := 0, slots := 0, locals := 41 })) {res : Int32 × Mm} (hQ : FinI Z X .boolean res)  : ∀ (n : Nat) (i0 : Nat) (v1 : Int32) (M : Mm), i0 < cnt 19 → F_R_hasRaw_b2  n i0 v1 M = some res → G Z X M 2 [(0, .ref (za Z 19 i0)), (1, .int v1)] [] := by
  intro n
  induction n with
  | zero =>
    intro i0 v1 M hbi0 hw
    cases hw
  | succ n hK2 =>
    intro i0 v1 M hbi0 hw
    rw [F_R_hasRaw_b2] at hw
    refine g_iload_n h d_R_hasRaw_2 rfl rfl ?_
    refine g_aload_n h d_R_hasRaw_3 rfl rfl ?_
    refine g_getI (t := 19) (i := i0) (k := 2) (C := "FlowGate$Frame") (T := T_R) (N := 5) h hL rfl hbi0 ob_19 (by decide) rfl (fun w hw => mc (in_R w hw)) (mc m_fl_R_27) rfl d_R_hasRaw_4 ?_
    refine g_icmp_ge (tgt := 30) h d_R_hasRaw_7 (by decide) (fun c1 => ?_) (fun c1 => ?_)
    · have hw := o_t c1 hw
      refine g_aload_n h d_R_hasRaw_30 rfl rfl ?_
      obtain ⟨r4, M3, hc2, hw⟩ := o_b hw
      refine g_calli h (g_runV (rest := []) h (ct_R_hasRawLocal hL i0 M hbi0 hc2) (cwV 0 h.2.2.2.2.1 (g_V m_ml_R_75 m_im_R_hasRawLocal m_se_R_hasRawLocal m_in_R m_co_R_hasRawLocal) rfl rfl rfl (by decide +kernel) ⟨Nat.le_of_ble_eq_true rfl, Nat.le_of_ble_eq_true rfl⟩) (hL.recv h rfl hbi0 ob_19) rfl rfl (Nat.le_of_ble_eq_true rfl) d_R_hasRaw_31) ?_
      obtain ⟨hn5, hw⟩ := o_nz hw
      exact g_zret h hQ d_R_hasRaw_34 hn5 hw
    · have hw := o_f c1 hw
      refine g_aload_n h d_R_hasRaw_10 rfl rfl ?_
      refine g_getR (t := 19) (i := i0) (k := 1) (C := "FlowGate$Frame") (T := T_R) (N := 5) h hL rfl hbi0 ob_19 (by decide) rfl (t' := 21) (i' := i0) rfl rfl (fun w hw => mc (in_R w hw)) (mc m_fl_R_15) rfl d_R_hasRaw_11 ?_
      refine g_iload_n h d_R_hasRaw_14 rfl rfl ?_
      obtain ⟨hv6, hw⟩ := o_in hw
      refine g_iald (t := 21) (i := i0) h hL rfl hbi0 rfl rfl hv6 d_R_hasRaw_15 ?_
      refine g_calli h (g_runSN (rest := []) h (ct_G_isRaw hL (M.1 21 i0 (v1 : Int32).toNatClampNeg) M (p_G_isRaw (M.1 21 i0 (v1 : Int32).toNatClampNeg) M)) ⟨va_cnB 1 h.2.2.2.2.1 (g_C m_co_G_isRaw) rfl rfl rfl (h.2.2.2.2.2.2.2.2.2.2.1 ("FlowGate$Frame", 72, y_G_isRaw, "FlowGate") (by decide +kernel)) (h.2.2.2.2.1 _ (mc m_in_G)) (by decide +kernel) ⟨Nat.le_of_ble_eq_true rfl, Nat.le_of_ble_eq_true rfl⟩, h.2.2.2.2.1 _ (mc m_st_G_isRaw), trivial⟩ rfl rfl (Nat.le_of_ble_eq_true rfl) d_R_hasRaw_16) ?_
      refine g_topi (fun r8 er8 => ?_)
      have hw := o_l hw r8 er8
      refine g_if_eq (tgt := 24) h d_R_hasRaw_19 (by decide) (fun c9 => ?_) (fun c9 => ?_)
      · have hw := o_t c9 hw
        refine g_iinc (n' := 1) (lw := fun y => [(1, .int y), (0, .ref (za Z 19 i0))]) h d_R_hasRaw_24 rfl (by decide) (by decide) (fun _ => rfl) (fun n10 en10 => ?_)
        have hw := o_l hw n10 en10
        refine g_goto (tgt := 2) h d_R_hasRaw_27 (by decide) ?_
        refine g_sub [1, 0] rfl ?_
        exact hK2 i0 n10 M hbi0 hw
      · have hw := o_f c9 hw
        refine g_iconst (v := 1) h d_R_hasRaw_22 (by decide) ?_
        exact g_zret h hQ d_R_hasRaw_23 rfl hw
set_option maxHeartbeats 4000000 in
set_option maxRecDepth 100000 in
theorem ct_R_hasRaw {Z : ZT} (hL : Lay Z sC) (i0 : Nat) (M : Mm) (hbi0 : i0 < cnt 19) {res : Int32 × Mm} (hw : F_R_hasRaw i0 M = some res) : CtI Z y_R_hasRaw ws_R_hasRaw (({ frames := 2, cells := 0, slots := 0, locals := 41 })) [.ref (za Z 19 i0)] M res := by
  refine CtI.of hL (cc := c_R_hasRaw) (maxL := 2) (by decide) rfl (Nat.le_of_ble_eq_true rfl) (fun X h hQ => ?_)
  show G Z X M 0 [(0, .ref (za Z 19 i0))] []
  rw [F_R_hasRaw] at hw
  refine g_iconst (v := 0) h d_R_hasRaw_0 (by decide) ?_
  refine g_istore_n (lv' := [(1, .int 0), (0, .ref (za Z 19 i0))]) h d_R_hasRaw_1 rfl (by decide) rfl ?_
  refine g_sub [1, 0] rfl ?_
  exact w_R_hasRaw_b2 hL h hQ  fuel i0 0 M hbi0 hw
set_option maxHeartbeats 4000000 in
set_option maxRecDepth 100000 in
theorem ct_R_copy {Z : ZT} (hL : Lay Z sC) (i0 : Nat) (i1 : Nat) (M : Mm) (hbi0 : i0 < cnt 19) (hbi1 : i1 < cnt 19) {res : Mm} (hw : F_R_copy i0 i1 M = some res) : CtV Z y_R_copy ws_R_copy (({ frames := 1, cells := 0, slots := 0, locals := 60 })) [.ref (za Z 19 i0), .ref (za Z 19 i1)] M res := by
  refine CtV.of hL (cc := c_R_copy) (maxL := 2) (by decide) rfl (Nat.le_of_ble_eq_true rfl) (fun X h hQ => ?_)
  show G Z X M 0 [(0, .ref (za Z 19 i0)), (1, .ref (za Z 19 i1))] []
  rw [F_R_copy] at hw
  refine g_aload_n h d_R_copy_0 rfl rfl ?_
  refine g_getR (t := 19) (i := i1) (k := 0) (C := "FlowGate$Frame") (T := T_R) (N := 5) h hL rfl hbi1 ob_19 (by decide) rfl (t' := 20) (i' := i1) rfl rfl (fun w hw => mc (in_R w hw)) (mc m_fl_R_9) rfl d_R_copy_1 ?_
  refine g_iconst (v := 0) h d_R_copy_4 (by decide) ?_
  refine g_aload_n h d_R_copy_5 rfl rfl ?_
  refine g_getR (t := 19) (i := i0) (k := 0) (C := "FlowGate$Frame") (T := T_R) (N := 5) h hL rfl hbi0 ob_19 (by decide) rfl (t' := 20) (i' := i0) rfl rfl (fun w hw => mc (in_R w hw)) (mc m_fl_R_9) rfl d_R_copy_6 ?_
  refine g_iconst (v := 0) h d_R_copy_9 (by decide) ?_
  refine g_bipush (v := 12) h d_R_copy_10 (by decide) ?_
  refine g_copy (t0 := 20) (i0 := i1) (t1 := 20) (i1 := i0) (sp := 0) (dp := 0) (n := 12) (rest := []) h hL rfl hbi1 rfl rfl hbi0 rfl (mc m_ml_R_21) (mc m_na_JS) (mc m_st_JS) (mc m_in_JS) (by decide) (by decide) (by decide) (by decide) (by decide) (by decide) (by decide) d_R_copy_12 ?_
  refine g_mem (fun M1 eM1 => ?_)
  have hw := o_l hw M1 eM1
  refine g_aload_n h d_R_copy_15 rfl rfl ?_
  refine g_getR (t := 19) (i := i1) (k := 1) (C := "FlowGate$Frame") (T := T_R) (N := 5) h hL rfl hbi1 ob_19 (by decide) rfl (t' := 21) (i' := i1) rfl rfl (fun w hw => mc (in_R w hw)) (mc m_fl_R_15) rfl d_R_copy_16 ?_
  refine g_iconst (v := 0) h d_R_copy_19 (by decide) ?_
  refine g_aload_n h d_R_copy_20 rfl rfl ?_
  refine g_getR (t := 19) (i := i0) (k := 1) (C := "FlowGate$Frame") (T := T_R) (N := 5) h hL rfl hbi0 ob_19 (by decide) rfl (t' := 21) (i' := i0) rfl rfl (fun w hw => mc (in_R w hw)) (mc m_fl_R_15) rfl d_R_copy_21 ?_
  refine g_iconst (v := 0) h d_R_copy_24 (by decide) ?_
  refine g_bipush (v := 12) h d_R_copy_25 (by decide) ?_
  refine g_copy (t0 := 21) (i0 := i1) (t1 := 21) (i1 := i0) (sp := 0) (dp := 0) (n := 12) (rest := []) h hL rfl hbi1 rfl rfl hbi0 rfl (mc m_ml_R_21) (mc m_na_JS) (mc m_st_JS) (mc m_in_JS) (by decide) (by decide) (by decide) (by decide) (by decide) (by decide) (by decide) d_R_copy_27 ?_
  refine g_mem (fun M2 eM2 => ?_)
  have hw := o_l hw M2 eM2
  refine g_aload_n h d_R_copy_30 rfl rfl ?_
  refine g_getR (t := 19) (i := i1) (k := 4) (C := "FlowGate$Frame") (T := T_R) (N := 5) h hL rfl hbi1 ob_19 (by decide) rfl (t' := 22) (i' := i1) rfl rfl (fun w hw => mc (in_R w hw)) (mc m_fl_R_18) rfl d_R_copy_31 ?_
  refine g_iconst (v := 0) h d_R_copy_34 (by decide) ?_
  refine g_aload_n h d_R_copy_35 rfl rfl ?_
  refine g_getR (t := 19) (i := i0) (k := 4) (C := "FlowGate$Frame") (T := T_R) (N := 5) h hL rfl hbi0 ob_19 (by decide) rfl (t' := 22) (i' := i0) rfl rfl (fun w hw => mc (in_R w hw)) (mc m_fl_R_18) rfl d_R_copy_36 ?_
  refine g_iconst (v := 0) h d_R_copy_39 (by decide) ?_
  refine g_bipush (v := 48) h d_R_copy_40 (by decide) ?_
  refine g_copy (t0 := 22) (i0 := i1) (t1 := 22) (i1 := i0) (sp := 0) (dp := 0) (n := 48) (rest := []) h hL rfl hbi1 rfl rfl hbi0 rfl (mc m_ml_R_21) (mc m_na_JS) (mc m_st_JS) (mc m_in_JS) (by decide) (by decide) (by decide) (by decide) (by decide) (by decide) (by decide) d_R_copy_42 ?_
  refine g_mem (fun M3 eM3 => ?_)
  have hw := o_l hw M3 eM3
  refine g_aload_n h d_R_copy_45 rfl rfl ?_
  refine g_aload_n h d_R_copy_46 rfl rfl ?_
  refine g_getI (t := 19) (i := i1) (k := 2) (C := "FlowGate$Frame") (T := T_R) (N := 5) h hL rfl hbi1 ob_19 (by decide) rfl (fun w hw => mc (in_R w hw)) (mc m_fl_R_27) rfl d_R_copy_47 ?_
  refine g_putI (t := 19) (i := i0) (k := 2) (C := "FlowGate$Frame") (T := T_R) (N := 5) h hL rfl hbi0 ob_19 (by decide) rfl (fun w hw => mc (in_R w hw)) ty_R ty_R_ok nm_R (mc m_fl_R_27) rfl rfl rfl d_R_copy_50 ?_
  refine g_mem (fun M4 eM4 => ?_)
  have hw := o_l hw M4 eM4
  refine g_aload_n h d_R_copy_53 rfl rfl ?_
  refine g_aload_n h d_R_copy_54 rfl rfl ?_
  refine g_getL (t := 19) (i := i1) (k := 3) (C := "FlowGate$Frame") (T := T_R) (N := 5) h hL rfl hbi1 ob_19 (by decide) rfl (fun w hw => mc (in_R w hw)) (mc m_fl_R_31) rfl d_R_copy_55 ?_
  refine g_putL (t := 19) (i := i0) (k := 3) (C := "FlowGate$Frame") (T := T_R) (N := 5) h hL rfl hbi0 ob_19 (by decide) rfl (fun w hw => mc (in_R w hw)) ty_R ty_R_ok nm_R (mc m_fl_R_31) rfl rfl rfl d_R_copy_58 ?_
  refine g_mem (fun M5 eM5 => ?_)
  have hw := o_l hw M5 eM5
  exact g_vret h hQ d_R_copy_61 hw
set_option maxHeartbeats 4000000 in
set_option maxRecDepth 100000 in
theorem ct_W_reach {Z : ZT} (hL : Lay Z sC) (v1 : Int32) (i2 : Nat) (M : Mm) (hbi2 : i2 < cnt 19) {res : Mm} (hw : F_W_reach v1 i2 M = some res) : CtV Z y_W_reach ws_W_reach (({ frames := 2, cells := 0, slots := 0, locals := 81 })) [.ref (za Z 14 0), .int v1, .ref (za Z 19 i2)] M res := by
  refine CtV.of hL (cc := c_W_reach) (maxL := 3) (by decide) rfl (Nat.le_of_ble_eq_true rfl) (fun X h hQ => ?_)
  show G Z X M 0 [(0, .ref (za Z 14 0)), (1, .int v1), (2, .ref (za Z 19 i2))] []
  rw [F_W_reach] at hw
  refine g_aload_n h d_W_reach_0 rfl rfl ?_
  refine g_getR (t := 14) (i := 0) (k := 2) (C := "FlowGate$Flow") (T := T_W) (N := 12) h hL rfl (by decide) ob_14 (by decide) rfl (t' := 15) (i' := 0) rfl rfl (fun w hw => mc (in_W w hw)) (mc m_fl_W_11) rfl d_W_reach_1 ?_
  refine g_iload_n h d_W_reach_4 rfl rfl ?_
  obtain ⟨hv1, hw⟩ := o_in hw
  refine g_aald (t' := 19) (i' := (v1 : Int32).toNatClampNeg + 2) (t := 15) (i := 0) h hL rfl (by decide) rfl rfl hv1 (C := "FlowGate$Frame") rfl rfl rfl d_W_reach_5 ?_
  refine g_aload_n h d_W_reach_6 rfl rfl ?_
  obtain ⟨M3, hc2, hw⟩ := o_v hw
  refine g_callv h (g_runV (rest := []) h (ct_R_copy hL ((v1 : Int32).toNatClampNeg + 2) i2 M (ix_lt hv1 (by decide)) hbi2 hc2) (cwV 1 h.2.2.2.2.1 (g_V m_ml_W_88 m_im_R_copy m_se_R_copy m_in_R m_co_R_copy) rfl rfl rfl (by decide +kernel) ⟨Nat.le_of_ble_eq_true rfl, Nat.le_of_ble_eq_true rfl⟩) (hL.recv h rfl (ix_lt hv1 (by decide)) ob_19) rfl rfl (Nat.le_of_ble_eq_true rfl) d_W_reach_7) ?_
  refine g_aload_n h d_W_reach_10 rfl rfl ?_
  refine g_getR (t := 14) (i := 0) (k := 3) (C := "FlowGate$Flow") (T := T_W) (N := 12) h hL rfl (by decide) ob_14 (by decide) rfl (t' := 16) (i' := 0) rfl rfl (fun w hw => mc (in_W w hw)) (mc m_fl_W_17) rfl d_W_reach_11 ?_
  refine g_iload_n h d_W_reach_14 rfl rfl ?_
  refine g_iconst (v := 1) h d_W_reach_15 (by decide) ?_
  obtain ⟨hv4, hw⟩ := o_in hw
  refine g_zast (t := 16) (i := 0) h hL rfl (by decide) rfl rfl hv4 d_W_reach_16 ?_
  refine g_mem (fun M5 eM5 => ?_)
  have hw := o_l hw M5 eM5
  refine g_aload_n h d_W_reach_17 rfl rfl ?_
  refine g_getR (t := 14) (i := 0) (k := 4) (C := "FlowGate$Flow") (T := T_W) (N := 12) h hL rfl (by decide) ob_14 (by decide) rfl (t' := 17) (i' := 0) rfl rfl (fun w hw => mc (in_W w hw)) (mc m_fl_W_21) rfl d_W_reach_18 ?_
  refine g_iload_n h d_W_reach_21 rfl rfl ?_
  refine g_iconst (v := 1) h d_W_reach_22 (by decide) ?_
  obtain ⟨hv6, hw⟩ := o_in hw
  refine g_zast (t := 17) (i := 0) h hL rfl (by decide) rfl rfl hv6 d_W_reach_23 ?_
  refine g_mem (fun M7 eM7 => ?_)
  have hw := o_l hw M7 eM7
  refine g_aload_n h d_W_reach_24 rfl rfl ?_
  refine g_dup h d_W_reach_25 rfl ?_
  refine g_getI (t := 14) (i := 0) (k := 10) (C := "FlowGate$Flow") (T := T_W) (N := 12) h hL rfl (by decide) ob_14 (by decide) rfl (fun w hw => mc (in_W w hw)) (mc m_fl_W_54) rfl d_W_reach_26 ?_
  refine g_iconst (v := 1) h d_W_reach_29 (by decide) ?_
  refine g_iadd h d_W_reach_30 ?_
  refine g_putI (t := 14) (i := 0) (k := 10) (C := "FlowGate$Flow") (T := T_W) (N := 12) h hL rfl (by decide) ob_14 (by decide) rfl (fun w hw => mc (in_W w hw)) ty_W ty_W_ok nm_W (mc m_fl_W_54) rfl rfl rfl d_W_reach_31 ?_
  refine g_mem (fun M8 eM8 => ?_)
  have hw := o_l hw M8 eM8
  refine g_aload_n h d_W_reach_34 rfl rfl ?_
  refine g_getR (t := 14) (i := 0) (k := 1) (C := "FlowGate$Flow") (T := T_W) (N := 12) h hL rfl (by decide) ob_14 (by decide) rfl (t' := 4) (i' := 0) rfl rfl (fun w hw => mc (in_W w hw)) (mc m_fl_W_40) rfl d_W_reach_35 ?_
  refine g_getR (t := 4) (i := 0) (k := 0) (C := "FlowGate$Method") (T := T_M) (N := 14) h hL rfl (by decide) ob_4 (by decide) rfl (t' := 5) (i' := 0) rfl rfl (fun w hw => mc (in_M w hw)) (mc m_fl_W_95) rfl d_W_reach_38 ?_
  refine g_iload_n h d_W_reach_41 rfl rfl ?_
  obtain ⟨hv9, hw⟩ := o_in hw
  refine g_iald (t := 5) (i := 0) h hL rfl (by decide) rfl rfl hv9 d_W_reach_42 ?_
  refine g_bipush (v := 15) h d_W_reach_43 (by decide) ?_
  refine g_icmp_ne (tgt := 68) h d_W_reach_45 (by decide) (fun c10 => ?_) (fun c10 => ?_)
  · have hw := o_f c10 hw
    exact g_vret h hQ d_W_reach_68 hw
  · have hw := o_t c10 hw
    refine g_aload_n h d_W_reach_48 rfl rfl ?_
    refine g_dup h d_W_reach_49 rfl ?_
    refine g_getL (t := 14) (i := 0) (k := 11) (C := "FlowGate$Flow") (T := T_W) (N := 12) h hL rfl (by decide) ob_14 (by decide) rfl (fun w hw => mc (in_W w hw)) (mc m_fl_W_57) rfl d_W_reach_50 ?_
    refine g_lconst (v := 1) h d_W_reach_53 rfl ?_
    refine g_aload_n h d_W_reach_54 rfl rfl ?_
    refine g_getR (t := 14) (i := 0) (k := 1) (C := "FlowGate$Flow") (T := T_W) (N := 12) h hL rfl (by decide) ob_14 (by decide) rfl (t' := 4) (i' := 0) rfl rfl (fun w hw => mc (in_W w hw)) (mc m_fl_W_40) rfl d_W_reach_55 ?_
    refine g_getR (t := 4) (i := 0) (k := 2) (C := "FlowGate$Method") (T := T_M) (N := 14) h hL rfl (by decide) ob_4 (by decide) rfl (t' := 7) (i' := 0) rfl rfl (fun w hw => mc (in_M w hw)) (mc m_fl_W_143) rfl d_W_reach_58 ?_
    refine g_iload_n h d_W_reach_61 rfl rfl ?_
    obtain ⟨hv11, hw⟩ := o_in hw
    refine g_iald (t := 7) (i := 0) h hL rfl (by decide) rfl rfl hv11 d_W_reach_62 ?_
    refine g_lshl h d_W_reach_63 ?_
    refine g_lor h d_W_reach_64 ?_
    refine g_putL (t := 14) (i := 0) (k := 11) (C := "FlowGate$Flow") (T := T_W) (N := 12) h hL rfl (by decide) ob_14 (by decide) rfl (fun w hw => mc (in_W w hw)) ty_W ty_W_ok nm_W (mc m_fl_W_57) rfl rfl rfl d_W_reach_65 ?_
    refine g_mem (fun M12 eM12 => ?_)
    have hw := o_l hw M12 eM12
    exact g_vret h hQ d_W_reach_68 hw
set_option maxHeartbeats 4000000 in
set_option maxRecDepth 100000 in
theorem ct_R_isIn {Z : ZT} (hL : Lay Z sC) (i0 : Nat) (v1 : Int32) (M : Mm) (hbi0 : i0 < cnt 19) {res : Int32 × Mm} (hw : F_R_isIn i0 v1 M = some res) : CtI Z y_R_isIn ws_R_isIn (({ frames := 0, cells := 0, slots := 0, locals := 0 })) [.ref (za Z 19 i0), .int v1] M res := by
  refine CtI.of hL (cc := c_R_isIn) (maxL := 2) (by decide) rfl (Nat.le_of_ble_eq_true rfl) (fun X h hQ => ?_)
  show G Z X M 0 [(0, .ref (za Z 19 i0)), (1, .int v1)] []
  rw [F_R_isIn] at hw
  refine g_aload_n h d_R_isIn_0 rfl rfl ?_
  refine g_getL (t := 19) (i := i0) (k := 3) (C := "FlowGate$Frame") (T := T_R) (N := 5) h hL rfl hbi0 ob_19 (by decide) rfl (fun w hw => mc (in_R w hw)) (mc m_fl_R_31) rfl d_R_isIn_1 ?_
  refine g_iload_n h d_R_isIn_4 rfl rfl ?_
  refine g_lshr h d_R_isIn_5 ?_
  refine g_lconst (v := 1) h d_R_isIn_6 rfl ?_
  refine g_land h d_R_isIn_7 ?_
  refine g_lconst (v := 0) h d_R_isIn_8 rfl ?_
  refine g_lcmp h d_R_isIn_9 ?_
  refine g_if_eq (tgt := 17) h d_R_isIn_10 (by decide) (fun c1 => ?_) (fun c1 => ?_)
  · have hw := o_t c1 hw
    refine g_iconst (v := 0) h d_R_isIn_17 (by decide) ?_
    exact g_zret h hQ d_R_isIn_18 rfl hw
  · have hw := o_f c1 hw
    refine g_iconst (v := 1) h d_R_isIn_13 (by decide) ?_
    refine g_goto (tgt := 18) h d_R_isIn_14 (by decide) ?_
    exact g_zret h hQ d_R_isIn_18 rfl hw
set_option maxHeartbeats 4000000 in
set_option maxRecDepth 100000 in
theorem w_R_absorbSubs_b98 {Z : ZT} {X : XT} (hL : Lay Z sC) (h : Ok Z X "FlowGate$Frame" c_R_absorbSubs ws_R_absorbSubs 7 ({ frames := 1, cells := 0, slots := 0, locals := 21 })) {res : Int32 × Mm} (hQ : FinI Z X .boolean res) {K37 : Nat → Nat → Int64 → Int32 → Int32 → Mm → Option (Int32 × Mm)} (hK37 : ∀ (i0 : Nat) (i1 : Nat) (v2 : Int64) (v4 : Int32) (v5 : Int32) (M : Mm), i0 < cnt 19 → i1 < cnt 19 → K37 i0 i1 v2 v4 v5 M = some res → G Z X M 37 [(0, .ref (za Z 19 i0)), (1, .ref (za Z 19 i1)), (2, .long v2), (4, .int v4), (5, .int v5)] []) (i0 : Nat) (i1 : Nat) (v2 : Int64) (v4 : Int32) (v5 : Int32) (v6 : Int32) (M : Mm) (hbi0 : i0 < cnt 19) (hbi1 : i1 < cnt 19) (hw : F_R_absorbSubs_b98 K37 i0 i1 v2 v4 v5 v6 M = some res) : G Z X M 98 [(0, .ref (za Z 19 i0)), (1, .ref (za Z 19 i1)), (2, .long v2), (4, .int v4), (5, .int v5), (6, .int v6)] [] := by
  rw [F_R_absorbSubs_b98] at hw
  refine g_aload_n h d_R_absorbSubs_98 rfl rfl ?_
  refine g_getR (t := 19) (i := i0) (k := 4) (C := "FlowGate$Frame") (T := T_R) (N := 5) h hL rfl hbi0 ob_19 (by decide) rfl (t' := 22) (i' := i0) rfl rfl (fun w hw => mc (in_R w hw)) (mc m_fl_R_18) rfl d_R_absorbSubs_99 ?_
  refine g_iload h d_R_absorbSubs_102 rfl ?_
  refine g_iload h d_R_absorbSubs_104 rfl ?_
  obtain ⟨hv1, hw⟩ := o_in hw
  refine g_iast (t := 22) (i := i0) h hL rfl hbi0 rfl rfl hv1 d_R_absorbSubs_106 ?_
  refine g_mem (fun M2 eM2 => ?_)
  have hw := o_l hw M2 eM2
  refine g_iinc (n' := 1) (lw := fun y => [(5, .int y), (0, .ref (za Z 19 i0)), (1, .ref (za Z 19 i1)), (2, .long v2), (4, .int v4), (6, .int v6)]) h d_R_absorbSubs_107 rfl (by decide) (by decide) (fun _ => rfl) (fun n3 en3 => ?_)
  have hw := o_l hw n3 en3
  refine g_goto (tgt := 37) h d_R_absorbSubs_110 (by decide) ?_
  refine g_sub [1, 2, 3, 4, 0] rfl ?_
  exact hK37 i0 i1 v2 v4 n3 M2 hbi0 hbi1 hw
set_option maxHeartbeats 4000000 in
set_option maxRecDepth 100000 in
theorem w_R_absorbSubs_b81 {Z : ZT} {X : XT} (hL : Lay Z sC) (h : Ok Z X "FlowGate$Frame" c_R_absorbSubs ws_R_absorbSubs 7 ({ frames := 1, cells := 0, slots := 0, locals := 21 })) {res : Int32 × Mm} (hQ : FinI Z X .boolean res) {K37 : Nat → Nat → Int64 → Int32 → Int32 → Mm → Option (Int32 × Mm)} (hK37 : ∀ (i0 : Nat) (i1 : Nat) (v2 : Int64) (v4 : Int32) (v5 : Int32) (M : Mm), i0 < cnt 19 → i1 < cnt 19 → K37 i0 i1 v2 v4 v5 M = some res → G Z X M 37 [(0, .ref (za Z 19 i0)), (1, .ref (za Z 19 i1)), (2, .long v2), (4, .int v4), (5, .int v5)] []) (i0 : Nat) (i1 : Nat) (v2 : Int64) (v4 : Int32) (v5 : Int32) (s0 : Int32) (M : Mm) (hbi0 : i0 < cnt 19) (hbi1 : i1 < cnt 19) (hw : F_R_absorbSubs_b81 K37 i0 i1 v2 v4 v5 s0 M = some res) : G Z X M 81 [(0, .ref (za Z 19 i0)), (1, .ref (za Z 19 i1)), (2, .long v2), (4, .int v4), (5, .int v5)] [.int s0] := by
  rw [F_R_absorbSubs_b81] at hw
  refine g_istore (lv' := [(6, .int s0), (0, .ref (za Z 19 i0)), (1, .ref (za Z 19 i1)), (2, .long v2), (4, .int v4), (5, .int v5)]) h d_R_absorbSubs_81 (by decide) rfl ?_
  refine g_iload h d_R_absorbSubs_83 rfl ?_
  refine g_aload_n h d_R_absorbSubs_85 rfl rfl ?_
  refine g_getR (t := 19) (i := i0) (k := 4) (C := "FlowGate$Frame") (T := T_R) (N := 5) h hL rfl hbi0 ob_19 (by decide) rfl (t' := 22) (i' := i0) rfl rfl (fun w hw => mc (in_R w hw)) (mc m_fl_R_18) rfl d_R_absorbSubs_86 ?_
  refine g_iload h d_R_absorbSubs_89 rfl ?_
  obtain ⟨hv4, hw⟩ := o_in hw
  refine g_iald (t := 22) (i := i0) h hL rfl hbi0 rfl rfl hv4 d_R_absorbSubs_91 ?_
  refine g_icmp_eq (tgt := 98) h d_R_absorbSubs_92 (by decide) (fun c5 => ?_) (fun c5 => ?_)
  · have hw := o_t c5 hw
    refine g_sub [1, 2, 3, 4, 5, 0] rfl ?_
    exact w_R_absorbSubs_b98 hL h hQ hK37 i0 i1 v2 v4 v5 s0 M hbi0 hbi1 hw
  · have hw := o_f c5 hw
    refine g_iconst (v := 1) h d_R_absorbSubs_95 (by decide) ?_
    refine g_istore (lv' := [(4, .int 1), (6, .int s0), (0, .ref (za Z 19 i0)), (1, .ref (za Z 19 i1)), (2, .long v2), (5, .int v5)]) h d_R_absorbSubs_96 (by decide) rfl ?_
    refine g_sub [2, 3, 4, 0, 5, 1] rfl ?_
    exact w_R_absorbSubs_b98 hL h hQ hK37 i0 i1 v2 1 v5 s0 M hbi0 hbi1 hw
set_option maxHeartbeats 4000000 in
set_option maxRecDepth 100000 in
theorem w_R_absorbSubs_b37 {Z : ZT} {X : XT} (hL : Lay Z sC) (h : Ok Z X "FlowGate$Frame" c_R_absorbSubs ws_R_absorbSubs 7 ({ frames := 1, cells := 0, slots := 0, locals := 21 })) {res : Int32 × Mm} (hQ : FinI Z X .boolean res)  : ∀ (n : Nat) (i0 : Nat) (i1 : Nat) (v2 : Int64) (v4 : Int32) (v5 : Int32) (M : Mm), i0 < cnt 19 → i1 < cnt 19 → F_R_absorbSubs_b37  n i0 i1 v2 v4 v5 M = some res → G Z X M 37 [(0, .ref (za Z 19 i0)), (1, .ref (za Z 19 i1)), (2, .long v2), (4, .int v4), (5, .int v5)] [] := by
  intro n
  induction n with
  | zero =>
    intro i0 i1 v2 v4 v5 M hbi0 hbi1 hw
    cases hw
  | succ n hK37 =>
    intro i0 i1 v2 v4 v5 M hbi0 hbi1 hw
    rw [F_R_absorbSubs_b37] at hw
    refine g_iload h d_R_absorbSubs_37 rfl ?_
    refine g_bipush (v := 48) h d_R_absorbSubs_39 (by decide) ?_
    refine g_icmp_ge (tgt := 113) h d_R_absorbSubs_41 (by decide) (fun c6 => ?_) (fun c6 => ?_)
    · have hw := o_t c6 hw
      refine g_iload h d_R_absorbSubs_113 rfl ?_
      obtain ⟨hn7, hw⟩ := o_nz hw
      exact g_zret h hQ d_R_absorbSubs_115 hn7 hw
    · have hw := o_f c6 hw
      refine g_lload_n h d_R_absorbSubs_44 rfl rfl ?_
      refine g_iload h d_R_absorbSubs_45 rfl ?_
      refine g_lshr h d_R_absorbSubs_47 ?_
      refine g_lconst (v := 0) h d_R_absorbSubs_48 rfl ?_
      refine g_lcmp h d_R_absorbSubs_49 ?_
      refine g_if_eq (tgt := 113) h d_R_absorbSubs_50 (by decide) (fun c8 => ?_) (fun c8 => ?_)
      · have hw := o_t c8 hw
        refine g_iload h d_R_absorbSubs_113 rfl ?_
        obtain ⟨hn9, hw⟩ := o_nz hw
        exact g_zret h hQ d_R_absorbSubs_115 hn9 hw
      · have hw := o_f c8 hw
        refine g_aload_n h d_R_absorbSubs_53 rfl rfl ?_
        refine g_iload h d_R_absorbSubs_54 rfl ?_
        refine g_calli h (g_runV (rest := []) h (ct_R_isIn hL i0 v5 M hbi0 (p_R_isIn i0 v5 M)) (cwV 1 h.2.2.2.2.1 (g_V m_ml_R_69 m_im_R_isIn m_se_R_isIn m_in_R m_co_R_isIn) rfl rfl rfl (by decide +kernel) ⟨Nat.le_of_ble_eq_true rfl, Nat.le_of_ble_eq_true rfl⟩) (hL.recv h rfl hbi0 ob_19) rfl rfl (Nat.le_of_ble_eq_true rfl) d_R_absorbSubs_56) ?_
        refine g_topi (fun r11 er11 => ?_)
        have hw := o_l hw r11 er11
        refine g_if_eq (tgt := 80) h d_R_absorbSubs_59 (by decide) (fun c12 => ?_) (fun c12 => ?_)
        · have hw := o_t c12 hw
          refine g_iconst (v := 0) h d_R_absorbSubs_80 (by decide) ?_
          refine g_sub [0, 1, 2, 3, 4] rfl ?_
          exact w_R_absorbSubs_b81 hL h hQ hK37 i0 i1 v2 v4 v5 0 M hbi0 hbi1 hw
        · have hw := o_f c12 hw
          refine g_aload_n h d_R_absorbSubs_62 rfl rfl ?_
          refine g_getR (t := 19) (i := i0) (k := 4) (C := "FlowGate$Frame") (T := T_R) (N := 5) h hL rfl hbi0 ob_19 (by decide) rfl (t' := 22) (i' := i0) rfl rfl (fun w hw => mc (in_R w hw)) (mc m_fl_R_18) rfl d_R_absorbSubs_63 ?_
          refine g_iload h d_R_absorbSubs_66 rfl ?_
          obtain ⟨hv13, hw⟩ := o_in hw
          refine g_iald (t := 22) (i := i0) h hL rfl hbi0 rfl rfl hv13 d_R_absorbSubs_68 ?_
          refine g_aload_n h d_R_absorbSubs_69 rfl rfl ?_
          refine g_getR (t := 19) (i := i1) (k := 4) (C := "FlowGate$Frame") (T := T_R) (N := 5) h hL rfl hbi1 ob_19 (by decide) rfl (t' := 22) (i' := i1) rfl rfl (fun w hw => mc (in_R w hw)) (mc m_fl_R_18) rfl d_R_absorbSubs_70 ?_
          refine g_iload h d_R_absorbSubs_73 rfl ?_
          obtain ⟨hv14, hw⟩ := o_in hw
          refine g_iald (t := 22) (i := i1) h hL rfl hbi1 rfl rfl hv14 d_R_absorbSubs_75 ?_
          refine g_ior h d_R_absorbSubs_76 ?_
          refine g_goto (tgt := 81) h d_R_absorbSubs_77 (by decide) ?_
          refine g_sub [0, 1, 2, 3, 4] rfl ?_
          exact w_R_absorbSubs_b81 hL h hQ hK37 i0 i1 v2 v4 v5 ((M.1 22 i0 (v5 : Int32).toNatClampNeg) ||| (M.1 22 i1 (v5 : Int32).toNatClampNeg)) M hbi0 hbi1 hw
set_option maxHeartbeats 4000000 in
set_option maxRecDepth 100000 in
theorem w_R_absorbSubs_b32 {Z : ZT} {X : XT} (hL : Lay Z sC) (h : Ok Z X "FlowGate$Frame" c_R_absorbSubs ws_R_absorbSubs 7 ({ frames := 1, cells := 0, slots := 0, locals := 21 })) {res : Int32 × Mm} (hQ : FinI Z X .boolean res)  (i0 : Nat) (i1 : Nat) (v2 : Int64) (s0 : Int32) (M : Mm) (hbi0 : i0 < cnt 19) (hbi1 : i1 < cnt 19) (hw : F_R_absorbSubs_b32 i0 i1 v2 s0 M = some res) : G Z X M 32 [(0, .ref (za Z 19 i0)), (1, .ref (za Z 19 i1)), (2, .long v2)] [.int s0] := by
  rw [F_R_absorbSubs_b32] at hw
  refine g_istore (lv' := [(4, .int s0), (0, .ref (za Z 19 i0)), (1, .ref (za Z 19 i1)), (2, .long v2)]) h d_R_absorbSubs_32 (by decide) rfl ?_
  refine g_iconst (v := 0) h d_R_absorbSubs_34 (by decide) ?_
  refine g_istore (lv' := [(5, .int 0), (4, .int s0), (0, .ref (za Z 19 i0)), (1, .ref (za Z 19 i1)), (2, .long v2)]) h d_R_absorbSubs_35 (by decide) rfl ?_
  refine g_sub [2, 3, 4, 1, 0] rfl ?_
  exact w_R_absorbSubs_b37 hL h hQ  fuel i0 i1 v2 s0 0 M hbi0 hbi1 hw
set_option maxHeartbeats 4000000 in
set_option maxRecDepth 100000 in
theorem ct_R_absorbSubs {Z : ZT} (hL : Lay Z sC) (i0 : Nat) (i1 : Nat) (M : Mm) (hbi0 : i0 < cnt 19) (hbi1 : i1 < cnt 19) {res : Int32 × Mm} (hw : F_R_absorbSubs i0 i1 M = some res) : CtI Z y_R_absorbSubs ws_R_absorbSubs (({ frames := 1, cells := 0, slots := 0, locals := 21 })) [.ref (za Z 19 i0), .ref (za Z 19 i1)] M res := by
  refine CtI.of hL (cc := c_R_absorbSubs) (maxL := 7) (by decide) rfl (Nat.le_of_ble_eq_true rfl) (fun X h hQ => ?_)
  show G Z X M 0 [(0, .ref (za Z 19 i0)), (1, .ref (za Z 19 i1))] []
  rw [F_R_absorbSubs] at hw
  refine g_aload_n h d_R_absorbSubs_0 rfl rfl ?_
  refine g_getL (t := 19) (i := i0) (k := 3) (C := "FlowGate$Frame") (T := T_R) (N := 5) h hL rfl hbi0 ob_19 (by decide) rfl (fun w hw => mc (in_R w hw)) (mc m_fl_R_31) rfl d_R_absorbSubs_1 ?_
  refine g_topl (fun n15 en15 => ?_)
  have hw := o_l hw n15 en15
  refine g_lstore_n (lv' := [(2, .long n15), (0, .ref (za Z 19 i0)), (1, .ref (za Z 19 i1))]) h d_R_absorbSubs_4 rfl (by decide) rfl ?_
  refine g_aload_n h d_R_absorbSubs_5 rfl rfl ?_
  refine g_dup h d_R_absorbSubs_6 rfl ?_
  refine g_getL (t := 19) (i := i0) (k := 3) (C := "FlowGate$Frame") (T := T_R) (N := 5) h hL rfl hbi0 ob_19 (by decide) rfl (fun w hw => mc (in_R w hw)) (mc m_fl_R_31) rfl d_R_absorbSubs_7 ?_
  refine g_aload_n h d_R_absorbSubs_10 rfl rfl ?_
  refine g_getL (t := 19) (i := i1) (k := 3) (C := "FlowGate$Frame") (T := T_R) (N := 5) h hL rfl hbi1 ob_19 (by decide) rfl (fun w hw => mc (in_R w hw)) (mc m_fl_R_31) rfl d_R_absorbSubs_11 ?_
  refine g_land h d_R_absorbSubs_14 ?_
  refine g_putL (t := 19) (i := i0) (k := 3) (C := "FlowGate$Frame") (T := T_R) (N := 5) h hL rfl hbi0 ob_19 (by decide) rfl (fun w hw => mc (in_R w hw)) ty_R ty_R_ok nm_R (mc m_fl_R_31) rfl rfl rfl d_R_absorbSubs_15 ?_
  refine g_mem (fun M16 eM16 => ?_)
  have hw := o_l hw M16 eM16
  refine g_aload_n h d_R_absorbSubs_18 rfl rfl ?_
  refine g_getL (t := 19) (i := i0) (k := 3) (C := "FlowGate$Frame") (T := T_R) (N := 5) h hL rfl hbi0 ob_19 (by decide) rfl (fun w hw => mc (in_R w hw)) (mc m_fl_R_31) rfl d_R_absorbSubs_19 ?_
  refine g_lload_n h d_R_absorbSubs_22 rfl rfl ?_
  refine g_lcmp h d_R_absorbSubs_23 ?_
  refine g_if_eq (tgt := 31) h d_R_absorbSubs_24 (by decide) (fun c17 => ?_) (fun c17 => ?_)
  · have hw := o_t c17 hw
    refine g_iconst (v := 0) h d_R_absorbSubs_31 (by decide) ?_
    refine g_sub [1, 2, 0] rfl ?_
    exact w_R_absorbSubs_b32 hL h hQ  i0 i1 n15 0 M16 hbi0 hbi1 hw
  · have hw := o_f c17 hw
    refine g_iconst (v := 1) h d_R_absorbSubs_27 (by decide) ?_
    refine g_goto (tgt := 32) h d_R_absorbSubs_28 (by decide) ?_
    refine g_sub [1, 2, 0] rfl ?_
    exact w_R_absorbSubs_b32 hL h hQ  i0 i1 n15 1 M16 hbi0 hbi1 hw
