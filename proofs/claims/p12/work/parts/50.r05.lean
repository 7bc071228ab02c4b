set_option maxHeartbeats 4000000 in
set_option maxRecDepth 100000 in
theorem w_D_copyOut_b56 {Z : ZT} {X : XT} (hL : Lay Z sD) (h : Ok Z X "FlowGateModel" c_D_copyOut ws_D_copyOut 2 ({ frames := 0, cells := 0, slots := 0, locals := 0 })) {res : Mm} (hQ : FinV Z X res)  : ∀ (n : Nat) (v1 : Int32) (M : Mm), F_D_copyOut_b56  n v1 M = some res → G Z X M 56 [(0, .ref (za Z 30 0)), (1, .int v1)] [] := by
  intro n
  induction n with
  | zero =>
    intro v1 M hw
    cases hw
  | succ n hK56 =>
    intro v1 M hw
    rw [F_D_copyOut_b56] at hw
    refine g_iload_n h d_D_copyOut_56 rfl rfl ?_
    refine g_bipush (v := 48) h d_D_copyOut_57 (by decide) ?_
    refine g_icmp_ge (tgt := 80) h d_D_copyOut_59 (by decide) (fun c1 => ?_) (fun c1 => ?_)
    · have hw := o_t c1 hw
      refine g_aload_n h d_D_copyOut_80 rfl rfl ?_
      refine g_aload_n h d_D_copyOut_81 rfl rfl ?_
      refine g_getI (t := 30) (i := 0) (k := 31) (C := "FlowGateModel") (T := T_D) (N := 42) h hL rfl (by decide) ob_30 (by decide) rfl (fun w hw => mc (in_D w hw)) (mc m_fl_D_183) rfl d_D_copyOut_82 ?_
      refine g_putI (t := 30) (i := 0) (k := 33) (C := "FlowGateModel") (T := T_D) (N := 42) h hL rfl (by decide) ob_30 (by decide) rfl (fun w hw => mc (in_D w hw)) ty_D ty_D_ok nm_D (mc m_fl_D_166) rfl rfl rfl d_D_copyOut_85 ?_
      refine g_mem (fun M2 eM2 => ?_)
      have hw := o_l hw M2 eM2
      refine g_aload_n h d_D_copyOut_88 rfl rfl ?_
      refine g_aload_n h d_D_copyOut_89 rfl rfl ?_
      refine g_getL (t := 30) (i := 0) (k := 39) (C := "FlowGateModel") (T := T_D) (N := 42) h hL rfl (by decide) ob_30 (by decide) rfl (fun w hw => mc (in_D w hw)) (mc m_fl_D_186) rfl d_D_copyOut_90 ?_
      refine g_putL (t := 30) (i := 0) (k := 40) (C := "FlowGateModel") (T := T_D) (N := 42) h hL rfl (by decide) ob_30 (by decide) rfl (fun w hw => mc (in_D w hw)) ty_D ty_D_ok nm_D (mc m_fl_D_169) rfl rfl rfl d_D_copyOut_93 ?_
      refine g_mem (fun M3 eM3 => ?_)
      have hw := o_l hw M3 eM3
      exact g_vret h hQ d_D_copyOut_96 hw
    · have hw := o_f c1 hw
      refine g_aload_n h d_D_copyOut_62 rfl rfl ?_
      refine g_getR (t := 30) (i := 0) (k := 30) (C := "FlowGateModel") (T := T_D) (N := 42) h hL rfl (by decide) ob_30 (by decide) rfl (t' := 54) (i' := 0) rfl rfl (fun w hw => mc (in_D w hw)) (mc m_fl_D_85) rfl d_D_copyOut_63 ?_
      refine g_iload_n h d_D_copyOut_66 rfl rfl ?_
      refine g_aload_n h d_D_copyOut_67 rfl rfl ?_
      refine g_getR (t := 30) (i := 0) (k := 27) (C := "FlowGateModel") (T := T_D) (N := 42) h hL rfl (by decide) ob_30 (by decide) rfl (t' := 51) (i' := 0) rfl rfl (fun w hw => mc (in_D w hw)) (mc m_fl_D_76) rfl d_D_copyOut_68 ?_
      refine g_iload_n h d_D_copyOut_71 rfl rfl ?_
      obtain ⟨hv4, hw⟩ := o_in hw
      refine g_iald (t := 51) (i := 0) h hL rfl (by decide) rfl rfl hv4 d_D_copyOut_72 ?_
      obtain ⟨hv5, hw⟩ := o_in hw
      refine g_iast (t := 54) (i := 0) h hL rfl (by decide) rfl rfl hv5 d_D_copyOut_73 ?_
      refine g_mem (fun M6 eM6 => ?_)
      have hw := o_l hw M6 eM6
      refine g_iinc (n' := 1) (lw := fun y => [(1, .int y), (0, .ref (za Z 30 0))]) h d_D_copyOut_74 rfl (by decide) (by decide) (fun _ => rfl) (fun n7 en7 => ?_)
      have hw := o_l hw n7 en7
      refine g_goto (tgt := 56) h d_D_copyOut_77 (by decide) ?_
      refine g_sub [1, 0] rfl ?_
      exact hK56 n7 M6 hw
set_option maxHeartbeats 4000000 in
set_option maxRecDepth 100000 in
theorem w_D_copyOut_b28 {Z : ZT} {X : XT} (hL : Lay Z sD) (h : Ok Z X "FlowGateModel" c_D_copyOut ws_D_copyOut 2 ({ frames := 0, cells := 0, slots := 0, locals := 0 })) {res : Mm} (hQ : FinV Z X res)  : ∀ (n : Nat) (v1 : Int32) (M : Mm), F_D_copyOut_b28  n v1 M = some res → G Z X M 28 [(0, .ref (za Z 30 0)), (1, .int v1)] [] := by
  intro n
  induction n with
  | zero =>
    intro v1 M hw
    cases hw
  | succ n hK28 =>
    intro v1 M hw
    rw [F_D_copyOut_b28] at hw
    refine g_iload_n h d_D_copyOut_28 rfl rfl ?_
    refine g_aload_n h d_D_copyOut_29 rfl rfl ?_
    refine g_getI (t := 30) (i := 0) (k := 31) (C := "FlowGateModel") (T := T_D) (N := 42) h hL rfl (by decide) ob_30 (by decide) rfl (fun w hw => mc (in_D w hw)) (mc m_fl_D_183) rfl d_D_copyOut_30 ?_
    refine g_icmp_ge (tgt := 54) h d_D_copyOut_33 (by decide) (fun c8 => ?_) (fun c8 => ?_)
    · have hw := o_t c8 hw
      refine g_iconst (v := 0) h d_D_copyOut_54 (by decide) ?_
      refine g_istore_n (lv' := [(1, .int 0), (0, .ref (za Z 30 0))]) h d_D_copyOut_55 rfl (by decide) rfl ?_
      refine g_sub [1, 0] rfl ?_
      exact w_D_copyOut_b56 hL h hQ  fuel 0 M hw
    · have hw := o_f c8 hw
      refine g_aload_n h d_D_copyOut_36 rfl rfl ?_
      refine g_getR (t := 30) (i := 0) (k := 29) (C := "FlowGateModel") (T := T_D) (N := 42) h hL rfl (by decide) ob_30 (by decide) rfl (t' := 53) (i' := 0) rfl rfl (fun w hw => mc (in_D w hw)) (mc m_fl_D_82) rfl d_D_copyOut_37 ?_
      refine g_iload_n h d_D_copyOut_40 rfl rfl ?_
      refine g_aload_n h d_D_copyOut_41 rfl rfl ?_
      refine g_getR (t := 30) (i := 0) (k := 26) (C := "FlowGateModel") (T := T_D) (N := 42) h hL rfl (by decide) ob_30 (by decide) rfl (t' := 50) (i' := 0) rfl rfl (fun w hw => mc (in_D w hw)) (mc m_fl_D_73) rfl d_D_copyOut_42 ?_
      refine g_iload_n h d_D_copyOut_45 rfl rfl ?_
      obtain ⟨hv9, hw⟩ := o_in hw
      refine g_iald (t := 50) (i := 0) h hL rfl (by decide) rfl rfl hv9 d_D_copyOut_46 ?_
      obtain ⟨hv10, hw⟩ := o_in hw
      refine g_iast (t := 53) (i := 0) h hL rfl (by decide) rfl rfl hv10 d_D_copyOut_47 ?_
      refine g_mem (fun M11 eM11 => ?_)
      have hw := o_l hw M11 eM11
      refine g_iinc (n' := 1) (lw := fun y => [(1, .int y), (0, .ref (za Z 30 0))]) h d_D_copyOut_48 rfl (by decide) (by decide) (fun _ => rfl) (fun n12 en12 => ?_)
      have hw := o_l hw n12 en12
      refine g_goto (tgt := 28) h d_D_copyOut_51 (by decide) ?_
      refine g_sub [1, 0] rfl ?_
      exact hK28 n12 M11 hw
set_option maxHeartbeats 4000000 in
set_option maxRecDepth 100000 in
theorem w_D_copyOut_b2 {Z : ZT} {X : XT} (hL : Lay Z sD) (h : Ok Z X "FlowGateModel" c_D_copyOut ws_D_copyOut 2 ({ frames := 0, cells := 0, slots := 0, locals := 0 })) {res : Mm} (hQ : FinV Z X res)  : ∀ (n : Nat) (v1 : Int32) (M : Mm), F_D_copyOut_b2  n v1 M = some res → G Z X M 2 [(0, .ref (za Z 30 0)), (1, .int v1)] [] := by
  intro n
  induction n with
  | zero =>
    intro v1 M hw
    cases hw
  | succ n hK2 =>
    intro v1 M hw
    rw [F_D_copyOut_b2] at hw
    refine g_iload_n h d_D_copyOut_2 rfl rfl ?_
    refine g_bipush (v := 12) h d_D_copyOut_3 (by decide) ?_
    refine g_icmp_ge (tgt := 26) h d_D_copyOut_5 (by decide) (fun c13 => ?_) (fun c13 => ?_)
    · have hw := o_t c13 hw
      refine g_iconst (v := 0) h d_D_copyOut_26 (by decide) ?_
      refine g_istore_n (lv' := [(1, .int 0), (0, .ref (za Z 30 0))]) h d_D_copyOut_27 rfl (by decide) rfl ?_
      refine g_sub [1, 0] rfl ?_
      exact w_D_copyOut_b28 hL h hQ  fuel 0 M hw
    · have hw := o_f c13 hw
      refine g_aload_n h d_D_copyOut_8 rfl rfl ?_
      refine g_getR (t := 30) (i := 0) (k := 28) (C := "FlowGateModel") (T := T_D) (N := 42) h hL rfl (by decide) ob_30 (by decide) rfl (t' := 52) (i' := 0) rfl rfl (fun w hw => mc (in_D w hw)) (mc m_fl_D_79) rfl d_D_copyOut_9 ?_
      refine g_iload_n h d_D_copyOut_12 rfl rfl ?_
      refine g_aload_n h d_D_copyOut_13 rfl rfl ?_
      refine g_getR (t := 30) (i := 0) (k := 25) (C := "FlowGateModel") (T := T_D) (N := 42) h hL rfl (by decide) ob_30 (by decide) rfl (t' := 49) (i' := 0) rfl rfl (fun w hw => mc (in_D w hw)) (mc m_fl_D_70) rfl d_D_copyOut_14 ?_
      refine g_iload_n h d_D_copyOut_17 rfl rfl ?_
      obtain ⟨hv14, hw⟩ := o_in hw
      refine g_iald (t := 49) (i := 0) h hL rfl (by decide) rfl rfl hv14 d_D_copyOut_18 ?_
      obtain ⟨hv15, hw⟩ := o_in hw
      refine g_iast (t := 52) (i := 0) h hL rfl (by decide) rfl rfl hv15 d_D_copyOut_19 ?_
      refine g_mem (fun M16 eM16 => ?_)
      have hw := o_l hw M16 eM16
      refine g_iinc (n' := 1) (lw := fun y => [(1, .int y), (0, .ref (za Z 30 0))]) h d_D_copyOut_20 rfl (by decide) (by decide) (fun _ => rfl) (fun n17 en17 => ?_)
      have hw := o_l hw n17 en17
      refine g_goto (tgt := 2) h d_D_copyOut_23 (by decide) ?_
      refine g_sub [1, 0] rfl ?_
      exact hK2 n17 M16 hw
set_option maxHeartbeats 4000000 in
set_option maxRecDepth 100000 in
theorem ct_D_copyOut {Z : ZT} (hL : Lay Z sD)  (M : Mm)  {res : Mm} (hw : F_D_copyOut M = some res) : CtV Z y_D_copyOut ws_D_copyOut (({ frames := 0, cells := 0, slots := 0, locals := 0 })) [.ref (za Z 30 0)] M res := by
  refine CtV.of hL (cc := c_D_copyOut) (maxL := 2) (by decide) rfl (Nat.le_of_ble_eq_true rfl) (fun X h hQ => ?_)
  show G Z X M 0 [(0, .ref (za Z 30 0))] []
  rw [F_D_copyOut] at hw
  refine g_iconst (v := 0) h d_D_copyOut_0 (by decide) ?_
  refine g_istore_n (lv' := [(1, .int 0), (0, .ref (za Z 30 0))]) h d_D_copyOut_1 rfl (by decide) rfl ?_
  refine g_sub [1, 0] rfl ?_
  exact w_D_copyOut_b2 hL h hQ  fuel 0 M hw
set_option maxHeartbeats 4000000 in
set_option maxRecDepth 100000 in
theorem w_D_hasRaw_b36 {Z : ZT} {X : XT} (hL : Lay Z sD) (h : Ok Z X "FlowGateModel" c_D_hasRaw ws_D_hasRaw 3 ({ frames := 1, cells := 0, slots := 0, locals := 22 })) {res : Int32 × Mm} (hQ : FinI Z X .boolean res)  : ∀ (n : Nat) (v1 : Int32) (v2 : Int32) (M : Mm), F_D_hasRaw_b36  n v1 v2 M = some res → G Z X M 36 [(0, .ref (za Z 30 0)), (1, .int v1), (2, .int v2)] [] := by
  intro n
  induction n with
  | zero =>
    intro v1 v2 M hw
    cases hw
  | succ n hK36 =>
    intro v1 v2 M hw
    rw [F_D_hasRaw_b36] at hw
    refine g_iload_n h d_D_hasRaw_36 rfl rfl ?_
    refine g_aload_n h d_D_hasRaw_37 rfl rfl ?_
    refine g_getI (t := 30) (i := 0) (k := 33) (C := "FlowGateModel") (T := T_D) (N := 42) h hL rfl (by decide) ob_30 (by decide) rfl (fun w hw => mc (in_D w hw)) (mc m_fl_D_166) rfl d_D_hasRaw_38 ?_
    refine g_icmp_ge (tgt := 74) h d_D_hasRaw_41 (by decide) (fun c1 => ?_) (fun c1 => ?_)
    · have hw := o_t c1 hw
      refine g_iconst (v := 0) h d_D_hasRaw_74 (by decide) ?_
      exact g_zret h hQ d_D_hasRaw_75 rfl hw
    · have hw := o_f c1 hw
      refine g_iload_n h d_D_hasRaw_44 rfl rfl ?_
      refine g_if_eq (tgt := 74) h d_D_hasRaw_45 (by decide) (fun c2 => ?_) (fun c2 => ?_)
      · have hw := o_t c2 hw
        refine g_iconst (v := 0) h d_D_hasRaw_74 (by decide) ?_
        exact g_zret h hQ d_D_hasRaw_75 rfl hw
      · have hw := o_f c2 hw
        refine g_aload_n h d_D_hasRaw_48 rfl rfl ?_
        refine g_getR (t := 30) (i := 0) (k := 29) (C := "FlowGateModel") (T := T_D) (N := 42) h hL rfl (by decide) ob_30 (by decide) rfl (t' := 53) (i' := 0) rfl rfl (fun w hw => mc (in_D w hw)) (mc m_fl_D_82) rfl d_D_hasRaw_49 ?_
        refine g_iload_n h d_D_hasRaw_52 rfl rfl ?_
        obtain ⟨hv3, hw⟩ := o_in hw
        refine g_iald (t := 53) (i := 0) h hL rfl (by decide) rfl rfl hv3 d_D_hasRaw_53 ?_
        refine g_sipush (v := 1000) h d_D_hasRaw_54 (by decide) ?_
        refine g_sipush (v := 1099) h d_D_hasRaw_57 (by decide) ?_
        refine g_calli h (g_runS (rest := []) h (ct_D_in hL (M.1 53 0 (v2 : Int32).toNatClampNeg) 1000 1099 M (p_D_in (M.1 53 0 (v2 : Int32).toNatClampNeg) 1000 1099 M)) (cwS 3 h.2.2.2.2.1 (g_S m_ml_D_91 m_st_D_in m_in_D m_co_D_in) rfl rfl rfl (by decide +kernel) ⟨Nat.le_of_ble_eq_true rfl, Nat.le_of_ble_eq_true rfl⟩) rfl rfl (Nat.le_of_ble_eq_true rfl) d_D_hasRaw_60) ?_
        refine g_topi (fun r5 er5 => ?_)
        have hw := o_l hw r5 er5
        refine g_if_eq (tgt := 68) h d_D_hasRaw_63 (by decide) (fun c6 => ?_) (fun c6 => ?_)
        · have hw := o_t c6 hw
          refine g_iinc (n' := 1) (lw := fun y => [(2, .int y), (0, .ref (za Z 30 0)), (1, .int v1)]) h d_D_hasRaw_68 rfl (by decide) (by decide) (fun _ => rfl) (fun n7 en7 => ?_)
          have hw := o_l hw n7 en7
          refine g_goto (tgt := 36) h d_D_hasRaw_71 (by decide) ?_
          refine g_sub [1, 2, 0] rfl ?_
          exact hK36 v1 n7 M hw
        · have hw := o_f c6 hw
          refine g_iconst (v := 1) h d_D_hasRaw_66 (by decide) ?_
          exact g_zret h hQ d_D_hasRaw_67 rfl hw
set_option maxHeartbeats 4000000 in
set_option maxRecDepth 100000 in
theorem w_D_hasRaw_b2 {Z : ZT} {X : XT} (hL : Lay Z sD) (h : Ok Z X "FlowGateModel" c_D_hasRaw ws_D_hasRaw 3 ({ frames := 1, cells := 0, slots := 0, locals := 22 })) {res : Int32 × Mm} (hQ : FinI Z X .boolean res)  : ∀ (n : Nat) (v1 : Int32) (v2 : Int32) (M : Mm), F_D_hasRaw_b2  n v1 v2 M = some res → G Z X M 2 [(0, .ref (za Z 30 0)), (1, .int v1), (2, .int v2)] [] := by
  intro n
  induction n with
  | zero =>
    intro v1 v2 M hw
    cases hw
  | succ n hK2 =>
    intro v1 v2 M hw
    rw [F_D_hasRaw_b2] at hw
    refine g_iload_n h d_D_hasRaw_2 rfl rfl ?_
    refine g_bipush (v := 12) h d_D_hasRaw_3 (by decide) ?_
    refine g_icmp_ge (tgt := 34) h d_D_hasRaw_5 (by decide) (fun c8 => ?_) (fun c8 => ?_)
    · have hw := o_t c8 hw
      refine g_iconst (v := 0) h d_D_hasRaw_34 (by decide) ?_
      refine g_istore_n (lv' := [(2, .int 0), (0, .ref (za Z 30 0)), (1, .int v1)]) h d_D_hasRaw_35 rfl (by decide) rfl ?_
      refine g_sub [1, 2, 0] rfl ?_
      exact w_D_hasRaw_b36 hL h hQ  fuel v1 0 M hw
    · have hw := o_f c8 hw
      refine g_aload_n h d_D_hasRaw_8 rfl rfl ?_
      refine g_getR (t := 30) (i := 0) (k := 28) (C := "FlowGateModel") (T := T_D) (N := 42) h hL rfl (by decide) ob_30 (by decide) rfl (t' := 52) (i' := 0) rfl rfl (fun w hw => mc (in_D w hw)) (mc m_fl_D_79) rfl d_D_hasRaw_9 ?_
      refine g_iload_n h d_D_hasRaw_12 rfl rfl ?_
      obtain ⟨hv9, hw⟩ := o_in hw
      refine g_iald (t := 52) (i := 0) h hL rfl (by decide) rfl rfl hv9 d_D_hasRaw_13 ?_
      refine g_sipush (v := 1000) h d_D_hasRaw_14 (by decide) ?_
      refine g_sipush (v := 1099) h d_D_hasRaw_17 (by decide) ?_
      refine g_calli h (g_runS (rest := []) h (ct_D_in hL (M.1 52 0 (v2 : Int32).toNatClampNeg) 1000 1099 M (p_D_in (M.1 52 0 (v2 : Int32).toNatClampNeg) 1000 1099 M)) (cwS 3 h.2.2.2.2.1 (g_S m_ml_D_91 m_st_D_in m_in_D m_co_D_in) rfl rfl rfl (by decide +kernel) ⟨Nat.le_of_ble_eq_true rfl, Nat.le_of_ble_eq_true rfl⟩) rfl rfl (Nat.le_of_ble_eq_true rfl) d_D_hasRaw_20) ?_
      refine g_topi (fun r11 er11 => ?_)
      have hw := o_l hw r11 er11
      refine g_if_eq (tgt := 28) h d_D_hasRaw_23 (by decide) (fun c12 => ?_) (fun c12 => ?_)
      · have hw := o_t c12 hw
        refine g_iinc (n' := 1) (lw := fun y => [(2, .int y), (0, .ref (za Z 30 0)), (1, .int v1)]) h d_D_hasRaw_28 rfl (by decide) (by decide) (fun _ => rfl) (fun n13 en13 => ?_)
        have hw := o_l hw n13 en13
        refine g_goto (tgt := 2) h d_D_hasRaw_31 (by decide) ?_
        refine g_sub [1, 2, 0] rfl ?_
        exact hK2 v1 n13 M hw
      · have hw := o_f c12 hw
        refine g_iconst (v := 1) h d_D_hasRaw_26 (by decide) ?_
        exact g_zret h hQ d_D_hasRaw_27 rfl hw
set_option maxHeartbeats 4000000 in
set_option maxRecDepth 100000 in
theorem ct_D_hasRaw {Z : ZT} (hL : Lay Z sD) (v1 : Int32) (M : Mm)  {res : Int32 × Mm} (hw : F_D_hasRaw v1 M = some res) : CtI Z y_D_hasRaw ws_D_hasRaw (({ frames := 1, cells := 0, slots := 0, locals := 22 })) [.ref (za Z 30 0), .int v1] M res := by
  refine CtI.of hL (cc := c_D_hasRaw) (maxL := 3) (by decide) rfl (Nat.le_of_ble_eq_true rfl) (fun X h hQ => ?_)
  show G Z X M 0 [(0, .ref (za Z 30 0)), (1, .int v1)] []
  rw [F_D_hasRaw] at hw
  refine g_iconst (v := 0) h d_D_hasRaw_0 (by decide) ?_
  refine g_istore_n (lv' := [(2, .int 0), (0, .ref (za Z 30 0)), (1, .int v1)]) h d_D_hasRaw_1 rfl (by decide) rfl ?_
  refine g_sub [1, 2, 0] rfl ?_
  exact w_D_hasRaw_b2 hL h hQ  fuel v1 0 M hw
set_option maxHeartbeats 4000000 in
set_option maxRecDepth 100000 in
theorem w_D_touches_b48 {Z : ZT} {X : XT} (hL : Lay Z sD) (h : Ok Z X "FlowGateModel" c_D_touches ws_D_touches 4 ({ frames := 1, cells := 0, slots := 0, locals := 20 })) {res : Mm} (hQ : FinV Z X res) {K2 : Int32 → Int32 → Int32 → Mm → Option (Mm)} (hK2 : ∀ (v1 : Int32) (v2 : Int32) (v3 : Int32) (M : Mm), K2 v1 v2 v3 M = some res → G Z X M 2 [(0, .ref (za Z 30 0)), (1, .int v1), (2, .int v2), (3, .int v3)] []) (v1 : Int32) (v2 : Int32) (v3 : Int32) (M : Mm)  (hw : F_D_touches_b48 K2 v1 v2 v3 M = some res) : G Z X M 48 [(0, .ref (za Z 30 0)), (1, .int v1), (2, .int v2), (3, .int v3)] [] := by
  rw [F_D_touches_b48] at hw
  refine g_iinc (n' := 1) (lw := fun y => [(3, .int y), (0, .ref (za Z 30 0)), (1, .int v1), (2, .int v2)]) h d_D_touches_48 rfl (by decide) (by decide) (fun _ => rfl) (fun n1 en1 => ?_)
  have hw := o_l hw n1 en1
  refine g_goto (tgt := 2) h d_D_touches_51 (by decide) ?_
  refine g_sub [1, 2, 3, 0] rfl ?_
  exact hK2 v1 v2 n1 M hw
set_option maxHeartbeats 4000000 in
set_option maxRecDepth 100000 in
theorem w_D_touches_b45 {Z : ZT} {X : XT} (hL : Lay Z sD) (h : Ok Z X "FlowGateModel" c_D_touches ws_D_touches 4 ({ frames := 1, cells := 0, slots := 0, locals := 20 })) {res : Mm} (hQ : FinV Z X res) {K2 : Int32 → Int32 → Int32 → Mm → Option (Mm)} (hK2 : ∀ (v1 : Int32) (v2 : Int32) (v3 : Int32) (M : Mm), K2 v1 v2 v3 M = some res → G Z X M 2 [(0, .ref (za Z 30 0)), (1, .int v1), (2, .int v2), (3, .int v3)] []) (v1 : Int32) (v2 : Int32) (v3 : Int32) (s1 : Int32) (s2 : Int32) (s3 : Int32) (s4 : Int32) (M : Mm)  (hw : F_D_touches_b45 K2 v1 v2 v3 s1 s2 s3 s4 M = some res) : G Z X M 45 [(0, .ref (za Z 30 0)), (1, .int v1), (2, .int v2), (3, .int v3)] [.int s4, .int s3, .int s2, .int s1, .ref (za Z 51 0)] := by
  rw [F_D_touches_b45] at hw
  refine g_ior h d_D_touches_45 ?_
  refine g_ior h d_D_touches_46 ?_
  obtain ⟨hv2, hw⟩ := o_in hw
  refine g_iast (t := 51) (i := 0) h hL rfl (by decide) rfl rfl hv2 d_D_touches_47 ?_
  refine g_mem (fun M3 eM3 => ?_)
  have hw := o_l hw M3 eM3
  refine g_sub [0, 1, 2, 3] rfl ?_
  exact w_D_touches_b48 hL h hQ hK2 v1 v2 v3 M3 hw
set_option maxHeartbeats 4000000 in
set_option maxRecDepth 100000 in
theorem w_D_touches_b2 {Z : ZT} {X : XT} (hL : Lay Z sD) (h : Ok Z X "FlowGateModel" c_D_touches ws_D_touches 4 ({ frames := 1, cells := 0, slots := 0, locals := 20 })) {res : Mm} (hQ : FinV Z X res)  : ∀ (n : Nat) (v1 : Int32) (v2 : Int32) (v3 : Int32) (M : Mm), F_D_touches_b2  n v1 v2 v3 M = some res → G Z X M 2 [(0, .ref (za Z 30 0)), (1, .int v1), (2, .int v2), (3, .int v3)] [] := by
  intro n
  induction n with
  | zero =>
    intro v1 v2 v3 M hw
    cases hw
  | succ n hK2 =>
    intro v1 v2 v3 M hw
    rw [F_D_touches_b2] at hw
    refine g_iload_n h d_D_touches_2 rfl rfl ?_
    refine g_bipush (v := 48) h d_D_touches_3 (by decide) ?_
    refine g_icmp_ge (tgt := 54) h d_D_touches_5 (by decide) (fun c4 => ?_) (fun c4 => ?_)
    · have hw := o_t c4 hw
      exact g_vret h hQ d_D_touches_54 hw
    · have hw := o_f c4 hw
      refine g_aload_n h d_D_touches_8 rfl rfl ?_
      refine g_getL (t := 30) (i := 0) (k := 39) (C := "FlowGateModel") (T := T_D) (N := 42) h hL rfl (by decide) ob_30 (by decide) rfl (fun w hw => mc (in_D w hw)) (mc m_fl_D_186) rfl d_D_touches_9 ?_
      refine g_iload_n h d_D_touches_12 rfl rfl ?_
      refine g_lshr h d_D_touches_13 ?_
      refine g_lconst (v := 1) h d_D_touches_14 rfl ?_
      refine g_land h d_D_touches_15 ?_
      refine g_lconst (v := 1) h d_D_touches_16 rfl ?_
      refine g_lcmp h d_D_touches_17 ?_
      refine g_if_ne (tgt := 48) h d_D_touches_18 (by decide) (fun c5 => ?_) (fun c5 => ?_)
      · have hw := o_f c5 hw
        refine g_sub [0, 1, 2, 3] rfl ?_
        exact w_D_touches_b48 hL h hQ hK2 v1 v2 v3 M hw
      · have hw := o_t c5 hw
        refine g_aload_n h d_D_touches_21 rfl rfl ?_
        refine g_getR (t := 30) (i := 0) (k := 27) (C := "FlowGateModel") (T := T_D) (N := 42) h hL rfl (by decide) ob_30 (by decide) rfl (t' := 51) (i' := 0) rfl rfl (fun w hw => mc (in_D w hw)) (mc m_fl_D_76) rfl d_D_touches_22 ?_
        refine g_iload_n h d_D_touches_25 rfl rfl ?_
        refine g_dup2_11 h d_D_touches_26 rfl rfl ?_
        obtain ⟨hv6, hw⟩ := o_in hw
        refine g_iald (t := 51) (i := 0) h hL rfl (by decide) rfl rfl hv6 d_D_touches_27 ?_
        refine g_iconst (v := 1) h d_D_touches_28 (by decide) ?_
        refine g_iload_n h d_D_touches_29 rfl rfl ?_
        refine g_ishl h d_D_touches_30 ?_
        refine g_iload_n h d_D_touches_31 rfl rfl ?_
        refine g_calli h (g_runS (rest := [.int ((1 : Int32) <<< (v1 &&& 31)), .int (M.1 51 0 (v3 : Int32).toNatClampNeg), .int v3, .ref (za Z 51 0)]) h (ct_D_isWide hL v2 M (p_D_isWide v2 M)) (cwS 1 h.2.2.2.2.1 (g_S m_ml_D_140 m_st_D_isWide m_in_D m_co_D_isWide) rfl rfl rfl (by decide +kernel) ⟨Nat.le_of_ble_eq_true rfl, Nat.le_of_ble_eq_true rfl⟩) rfl rfl (Nat.le_of_ble_eq_true rfl) d_D_touches_32) ?_
        refine g_topi (fun r8 er8 => ?_)
        have hw := o_l hw r8 er8
        refine g_if_eq (tgt := 44) h d_D_touches_35 (by decide) (fun c9 => ?_) (fun c9 => ?_)
        · have hw := o_t c9 hw
          refine g_iconst (v := 0) h d_D_touches_44 (by decide) ?_
          refine g_sub [0, 1, 2, 3] rfl ?_
          exact w_D_touches_b45 hL h hQ hK2 v1 v2 v3 v3 (M.1 51 0 (v3 : Int32).toNatClampNeg) ((1 : Int32) <<< (v1 &&& 31)) 0 M hw
        · have hw := o_f c9 hw
          refine g_iconst (v := 2) h d_D_touches_38 (by decide) ?_
          refine g_iload_n h d_D_touches_39 rfl rfl ?_
          refine g_ishl h d_D_touches_40 ?_
          refine g_goto (tgt := 45) h d_D_touches_41 (by decide) ?_
          refine g_sub [0, 1, 2, 3] rfl ?_
          exact w_D_touches_b45 hL h hQ hK2 v1 v2 v3 v3 (M.1 51 0 (v3 : Int32).toNatClampNeg) ((1 : Int32) <<< (v1 &&& 31)) ((2 : Int32) <<< (v1 &&& 31)) M hw
set_option maxHeartbeats 4000000 in
set_option maxRecDepth 100000 in
theorem ct_D_touches {Z : ZT} (hL : Lay Z sD) (v1 : Int32) (v2 : Int32) (M : Mm)  {res : Mm} (hw : F_D_touches v1 v2 M = some res) : CtV Z y_D_touches ws_D_touches (({ frames := 1, cells := 0, slots := 0, locals := 20 })) [.ref (za Z 30 0), .int v1, .int v2] M res := by
  refine CtV.of hL (cc := c_D_touches) (maxL := 4) (by decide) rfl (Nat.le_of_ble_eq_true rfl) (fun X h hQ => ?_)
  show G Z X M 0 [(0, .ref (za Z 30 0)), (1, .int v1), (2, .int v2)] []
  rw [F_D_touches] at hw
  refine g_iconst (v := 0) h d_D_touches_0 (by decide) ?_
  refine g_istore_n (lv' := [(3, .int 0), (0, .ref (za Z 30 0)), (1, .int v1), (2, .int v2)]) h d_D_touches_1 rfl (by decide) rfl ?_
  refine g_sub [1, 2, 3, 0] rfl ?_
  exact w_D_touches_b2 hL h hQ  fuel v1 v2 0 M hw
set_option maxHeartbeats 4000000 in
set_option maxRecDepth 100000 in
theorem w_D_go_b44 {Z : ZT} {X : XT} (hL : Lay Z sD) (h : Ok Z X "FlowGateModel" c_D_go ws_D_go 3 ({ frames := 5, cells := 0, slots := 0, locals := 116 })) {res : Mm} (hQ : FinV Z X res)  (v2 : Int32) (M : Mm)  (hw : F_D_go_b44 v2 M = some res) : G Z X M 44 [(0, .ref (za Z 30 0)), (2, .int v2)] [] := by
  rw [F_D_go_b44] at hw
  refine g_aload_n h d_D_go_44 rfl rfl ?_
  refine g_iload_n h d_D_go_45 rfl rfl ?_
  obtain ⟨M2, hc1, hw⟩ := o_v hw
  refine g_callv h (g_runV (rest := []) h (ct_D_meet hL v2 M hc1) (cwV 1 h.2.2.2.2.1 (g_V m_ml_D_172 m_im_D_meet m_se_D_meet m_in_D m_co_D_meet) rfl rfl rfl (by decide +kernel) ⟨Nat.le_of_ble_eq_true rfl, Nat.le_of_ble_eq_true rfl⟩) (hL.recv h rfl (by decide) ob_30) rfl rfl (Nat.le_of_ble_eq_true rfl) d_D_go_46) ?_
  exact g_vret h hQ d_D_go_49 hw
set_option maxHeartbeats 4000000 in
set_option maxRecDepth 100000 in
theorem ct_D_go {Z : ZT} (hL : Lay Z sD) (v1 : Int32) (v2 : Int32) (M : Mm)  {res : Mm} (hw : F_D_go v1 v2 M = some res) : CtV Z y_D_go ws_D_go (({ frames := 5, cells := 0, slots := 0, locals := 116 })) [.ref (za Z 30 0), .int v1, .int v2] M res := by
  refine CtV.of hL (cc := c_D_go) (maxL := 3) (by decide) rfl (Nat.le_of_ble_eq_true rfl) (fun X h hQ => ?_)
  show G Z X M 0 [(0, .ref (za Z 30 0)), (1, .int v1), (2, .int v2)] []
  rw [F_D_go] at hw
  refine g_aload_n h d_D_go_0 rfl rfl ?_
  refine g_getI (t := 30) (i := 0) (k := 34) (C := "FlowGateModel") (T := T_D) (N := 42) h hL rfl (by decide) ob_30 (by decide) rfl (fun w hw => mc (in_D w hw)) (mc m_fl_D_130) rfl d_D_go_1 ?_
  refine g_if_le (tgt := 8) h d_D_go_4 (by decide) (fun c3 => ?_) (fun c3 => ?_)
  · have hw := o_t c3 hw
    refine g_iload_n h d_D_go_8 rfl rfl ?_
    refine g_aload_n h d_D_go_9 rfl rfl ?_
    refine g_getI (t := 30) (i := 0) (k := 11) (C := "FlowGateModel") (T := T_D) (N := 42) h hL rfl (by decide) ob_30 (by decide) rfl (fun w hw => mc (in_D w hw)) (mc m_fl_D_118) rfl d_D_go_10 ?_
    refine g_icmp_lt (tgt := 23) h d_D_go_13 (by decide) (fun c4 => ?_) (fun c4 => ?_)
    · have hw := o_t c4 hw
      refine g_iload_n h d_D_go_23 rfl rfl ?_
      refine g_iload_n h d_D_go_24 rfl rfl ?_
      refine g_icmp_gt (tgt := 44) h d_D_go_25 (by decide) (fun c5 => ?_) (fun c5 => ?_)
      · have hw := o_t c5 hw
        refine g_sub [0, 2] rfl ?_
        exact w_D_go_b44 hL h hQ  v2 M hw
      · have hw := o_f c5 hw
        refine g_aload_n h d_D_go_28 rfl rfl ?_
        refine g_iconst (v := 1) h d_D_go_29 (by decide) ?_
        obtain ⟨r8, M7, hc6, hw⟩ := o_b hw
        refine g_calli h (g_runV (rest := []) h (ct_D_hasRaw hL 1 M hc6) (cwV 1 h.2.2.2.2.1 (g_V m_ml_D_179 m_im_D_hasRaw m_se_D_hasRaw m_in_D m_co_D_hasRaw) rfl rfl rfl (by decide +kernel) ⟨Nat.le_of_ble_eq_true rfl, Nat.le_of_ble_eq_true rfl⟩) (hL.recv h rfl (by decide) ob_30) rfl rfl (Nat.le_of_ble_eq_true rfl) d_D_go_30) ?_
        refine g_if_eq (tgt := 44) h d_D_go_33 (by decide) (fun c9 => ?_) (fun c9 => ?_)
        · have hw := o_t c9 hw
          refine g_sub [0, 2] rfl ?_
          exact w_D_go_b44 hL h hQ  v2 M7 hw
        · have hw := o_f c9 hw
          refine g_aload_n h d_D_go_36 rfl rfl ?_
          refine g_bipush (v := 8) h d_D_go_37 (by decide) ?_
          refine g_iload_n h d_D_go_39 rfl rfl ?_
          obtain ⟨M11, hc10, hw⟩ := o_v hw
          refine g_callv h (g_runV (rest := []) h (ct_D_fail hL 8 v1 M7 hc10) (cwV 2 h.2.2.2.2.1 (g_V m_ml_D_133 m_im_D_fail m_se_D_fail m_in_D m_co_D_fail) rfl rfl rfl (by decide +kernel) ⟨Nat.le_of_ble_eq_true rfl, Nat.le_of_ble_eq_true rfl⟩) (hL.recv h rfl (by decide) ob_30) rfl rfl (Nat.le_of_ble_eq_true rfl) d_D_go_40) ?_
          exact g_vret h hQ d_D_go_43 hw
    · have hw := o_f c4 hw
      refine g_aload_n h d_D_go_16 rfl rfl ?_
      refine g_iconst (v := 5) h d_D_go_17 (by decide) ?_
      refine g_iload_n h d_D_go_18 rfl rfl ?_
      obtain ⟨M13, hc12, hw⟩ := o_v hw
      refine g_callv h (g_runV (rest := []) h (ct_D_fail hL 5 v1 M hc12) (cwV 2 h.2.2.2.2.1 (g_V m_ml_D_133 m_im_D_fail m_se_D_fail m_in_D m_co_D_fail) rfl rfl rfl (by decide +kernel) ⟨Nat.le_of_ble_eq_true rfl, Nat.le_of_ble_eq_true rfl⟩) (hL.recv h rfl (by decide) ob_30) rfl rfl (Nat.le_of_ble_eq_true rfl) d_D_go_19) ?_
      exact g_vret h hQ d_D_go_22 hw
  · have hw := o_f c3 hw
    exact g_vret h hQ d_D_go_7 hw
