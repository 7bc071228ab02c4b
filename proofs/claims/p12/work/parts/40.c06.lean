set_option maxHeartbeats 4000000 in
set_option maxRecDepth 100000 in
theorem w_R_replace_b25 {Z : ZT} {X : XT} (hL : Lay Z sC) (h : Ok Z X "FlowGate$Frame" c_R_replace ws_R_replace 4 ({ frames := 0, cells := 0, slots := 0, locals := 0 })) {res : Mm} (hQ : FinV Z X res) {K2 : Nat → Int32 → Int32 → Int32 → Mm → Option (Mm)} (hK2 : ∀ (i0 : Nat) (v1 : Int32) (v2 : Int32) (v3 : Int32) (M : Mm), i0 < cnt 19 → K2 i0 v1 v2 v3 M = some res → G Z X M 2 [(0, .ref (za Z 19 i0)), (1, .int v1), (2, .int v2), (3, .int v3)] []) (i0 : Nat) (v1 : Int32) (v2 : Int32) (v3 : Int32) (M : Mm) (hbi0 : i0 < cnt 19) (hw : F_R_replace_b25 K2 i0 v1 v2 v3 M = some res) : G Z X M 25 [(0, .ref (za Z 19 i0)), (1, .int v1), (2, .int v2), (3, .int v3)] [] := by
  rw [F_R_replace_b25] at hw
  refine g_iinc (n' := 1) (lw := fun y => [(3, .int y), (0, .ref (za Z 19 i0)), (1, .int v1), (2, .int v2)]) h d_R_replace_25 rfl (by decide) (by decide) (fun _ => rfl) (fun n1 en1 => ?_)
  have hw := o_l hw n1 en1
  refine g_goto (tgt := 2) h d_R_replace_28 (by decide) ?_
  refine g_sub [1, 2, 3, 0] rfl ?_
  exact hK2 i0 v1 v2 n1 M hbi0 hw
set_option maxHeartbeats 4000000 in
set_option maxRecDepth 100000 in
theorem w_R_replace_b58 {Z : ZT} {X : XT} (hL : Lay Z sC) (h : Ok Z X "FlowGate$Frame" c_R_replace ws_R_replace 4 ({ frames := 0, cells := 0, slots := 0, locals := 0 })) {res : Mm} (hQ : FinV Z X res) {K33 : Nat → Int32 → Int32 → Int32 → Mm → Option (Mm)} (hK33 : ∀ (i0 : Nat) (v1 : Int32) (v2 : Int32) (v3 : Int32) (M : Mm), i0 < cnt 19 → K33 i0 v1 v2 v3 M = some res → G Z X M 33 [(0, .ref (za Z 19 i0)), (1, .int v1), (2, .int v2), (3, .int v3)] []) (i0 : Nat) (v1 : Int32) (v2 : Int32) (v3 : Int32) (M : Mm) (hbi0 : i0 < cnt 19) (hw : F_R_replace_b58 K33 i0 v1 v2 v3 M = some res) : G Z X M 58 [(0, .ref (za Z 19 i0)), (1, .int v1), (2, .int v2), (3, .int v3)] [] := by
  rw [F_R_replace_b58] at hw
  refine g_iinc (n' := 1) (lw := fun y => [(3, .int y), (0, .ref (za Z 19 i0)), (1, .int v1), (2, .int v2)]) h d_R_replace_58 rfl (by decide) (by decide) (fun _ => rfl) (fun n2 en2 => ?_)
  have hw := o_l hw n2 en2
  refine g_goto (tgt := 33) h d_R_replace_61 (by decide) ?_
  refine g_sub [1, 2, 3, 0] rfl ?_
  exact hK33 i0 v1 v2 n2 M hbi0 hw
set_option maxHeartbeats 4000000 in
set_option maxRecDepth 100000 in
theorem w_R_replace_b33 {Z : ZT} {X : XT} (hL : Lay Z sC) (h : Ok Z X "FlowGate$Frame" c_R_replace ws_R_replace 4 ({ frames := 0, cells := 0, slots := 0, locals := 0 })) {res : Mm} (hQ : FinV Z X res)  : ∀ (n : Nat) (i0 : Nat) (v1 : Int32) (v2 : Int32) (v3 : Int32) (M : Mm), i0 < cnt 19 → F_R_replace_b33  n i0 v1 v2 v3 M = some res → G Z X M 33 [(0, .ref (za Z 19 i0)), (1, .int v1), (2, .int v2), (3, .int v3)] [] := by
  intro n
  induction n with
  | zero =>
    intro i0 v1 v2 v3 M hbi0 hw
    cases hw
  | succ n hK33 =>
    intro i0 v1 v2 v3 M hbi0 hw
    rw [F_R_replace_b33] at hw
    refine g_iload_n h d_R_replace_33 rfl rfl ?_
    refine g_aload_n h d_R_replace_34 rfl rfl ?_
    refine g_getI (t := 19) (i := i0) (k := 2) (C := "FlowGate$Frame") (T := T_R) (N := 5) h hL rfl hbi0 ob_19 (by decide) rfl (fun w hw => mc (in_R w hw)) (mc m_fl_R_27) rfl d_R_replace_35 ?_
    refine g_icmp_ge (tgt := 64) h d_R_replace_38 (by decide) (fun c3 => ?_) (fun c3 => ?_)
    · have hw := o_t c3 hw
      exact g_vret h hQ d_R_replace_64 hw
    · have hw := o_f c3 hw
      refine g_aload_n h d_R_replace_41 rfl rfl ?_
      refine g_getR (t := 19) (i := i0) (k := 1) (C := "FlowGate$Frame") (T := T_R) (N := 5) h hL rfl hbi0 ob_19 (by decide) rfl (t' := 21) (i' := i0) rfl rfl (fun w hw => mc (in_R w hw)) (mc m_fl_R_15) rfl d_R_replace_42 ?_
      refine g_iload_n h d_R_replace_45 rfl rfl ?_
      obtain ⟨hv4, hw⟩ := o_in hw
      refine g_iald (t := 21) (i := i0) h hL rfl hbi0 rfl rfl hv4 d_R_replace_46 ?_
      refine g_iload_n h d_R_replace_47 rfl rfl ?_
      refine g_icmp_ne (tgt := 58) h d_R_replace_48 (by decide) (fun c5 => ?_) (fun c5 => ?_)
      · have hw := o_f c5 hw
        refine g_sub [0, 1, 2, 3] rfl ?_
        exact w_R_replace_b58 hL h hQ hK33 i0 v1 v2 v3 M hbi0 hw
      · have hw := o_t c5 hw
        refine g_aload_n h d_R_replace_51 rfl rfl ?_
        refine g_getR (t := 19) (i := i0) (k := 1) (C := "FlowGate$Frame") (T := T_R) (N := 5) h hL rfl hbi0 ob_19 (by decide) rfl (t' := 21) (i' := i0) rfl rfl (fun w hw => mc (in_R w hw)) (mc m_fl_R_15) rfl d_R_replace_52 ?_
        refine g_iload_n h d_R_replace_55 rfl rfl ?_
        refine g_iload_n h d_R_replace_56 rfl rfl ?_
        obtain ⟨hv6, hw⟩ := o_in hw
        refine g_iast (t := 21) (i := i0) h hL rfl hbi0 rfl rfl hv6 d_R_replace_57 ?_
        refine g_mem (fun M7 eM7 => ?_)
        have hw := o_l hw M7 eM7
        refine g_sub [0, 1, 2, 3] rfl ?_
        exact w_R_replace_b58 hL h hQ hK33 i0 v1 v2 v3 M7 hbi0 hw
set_option maxHeartbeats 4000000 in
set_option maxRecDepth 100000 in
theorem w_R_replace_b2 {Z : ZT} {X : XT} (hL : Lay Z sC) (h : Ok Z X "FlowGate$Frame" c_R_replace ws_R_replace 4 ({ frames := 0, cells := 0, slots := 0, locals := 0 })) {res : Mm} (hQ : FinV Z X res)  : ∀ (n : Nat) (i0 : Nat) (v1 : Int32) (v2 : Int32) (v3 : Int32) (M : Mm), i0 < cnt 19 → F_R_replace_b2  n i0 v1 v2 v3 M = some res → G Z X M 2 [(0, .ref (za Z 19 i0)), (1, .int v1), (2, .int v2), (3, .int v3)] [] := by
  intro n
  induction n with
  | zero =>
    intro i0 v1 v2 v3 M hbi0 hw
    cases hw
  | succ n hK2 =>
    intro i0 v1 v2 v3 M hbi0 hw
    rw [F_R_replace_b2] at hw
    refine g_iload_n h d_R_replace_2 rfl rfl ?_
    refine g_bipush (v := 12) h d_R_replace_3 (by decide) ?_
    refine g_icmp_ge (tgt := 31) h d_R_replace_5 (by decide) (fun c8 => ?_) (fun c8 => ?_)
    · have hw := o_t c8 hw
      refine g_iconst (v := 0) h d_R_replace_31 (by decide) ?_
      refine g_istore_n (lv' := [(3, .int 0), (0, .ref (za Z 19 i0)), (1, .int v1), (2, .int v2)]) h d_R_replace_32 rfl (by decide) rfl ?_
      refine g_sub [1, 2, 3, 0] rfl ?_
      exact w_R_replace_b33 hL h hQ  fuel i0 v1 v2 0 M hbi0 hw
    · have hw := o_f c8 hw
      refine g_aload_n h d_R_replace_8 rfl rfl ?_
      refine g_getR (t := 19) (i := i0) (k := 0) (C := "FlowGate$Frame") (T := T_R) (N := 5) h hL rfl hbi0 ob_19 (by decide) rfl (t' := 20) (i' := i0) rfl rfl (fun w hw => mc (in_R w hw)) (mc m_fl_R_9) rfl d_R_replace_9 ?_
      refine g_iload_n h d_R_replace_12 rfl rfl ?_
      obtain ⟨hv9, hw⟩ := o_in hw
      refine g_iald (t := 20) (i := i0) h hL rfl hbi0 rfl rfl hv9 d_R_replace_13 ?_
      refine g_iload_n h d_R_replace_14 rfl rfl ?_
      refine g_icmp_ne (tgt := 25) h d_R_replace_15 (by decide) (fun c10 => ?_) (fun c10 => ?_)
      · have hw := o_f c10 hw
        refine g_sub [0, 1, 2, 3] rfl ?_
        exact w_R_replace_b25 hL h hQ hK2 i0 v1 v2 v3 M hbi0 hw
      · have hw := o_t c10 hw
        refine g_aload_n h d_R_replace_18 rfl rfl ?_
        refine g_getR (t := 19) (i := i0) (k := 0) (C := "FlowGate$Frame") (T := T_R) (N := 5) h hL rfl hbi0 ob_19 (by decide) rfl (t' := 20) (i' := i0) rfl rfl (fun w hw => mc (in_R w hw)) (mc m_fl_R_9) rfl d_R_replace_19 ?_
        refine g_iload_n h d_R_replace_22 rfl rfl ?_
        refine g_iload_n h d_R_replace_23 rfl rfl ?_
        obtain ⟨hv11, hw⟩ := o_in hw
        refine g_iast (t := 20) (i := i0) h hL rfl hbi0 rfl rfl hv11 d_R_replace_24 ?_
        refine g_mem (fun M12 eM12 => ?_)
        have hw := o_l hw M12 eM12
        refine g_sub [0, 1, 2, 3] rfl ?_
        exact w_R_replace_b25 hL h hQ hK2 i0 v1 v2 v3 M12 hbi0 hw
set_option maxHeartbeats 4000000 in
set_option maxRecDepth 100000 in
theorem ct_R_replace {Z : ZT} (hL : Lay Z sC) (i0 : Nat) (v1 : Int32) (v2 : Int32) (M : Mm) (hbi0 : i0 < cnt 19) {res : Mm} (hw : F_R_replace i0 v1 v2 M = some res) : CtV Z y_R_replace ws_R_replace (({ frames := 0, cells := 0, slots := 0, locals := 0 })) [.ref (za Z 19 i0), .int v1, .int v2] M res := by
  refine CtV.of hL (cc := c_R_replace) (maxL := 4) (by decide) rfl (Nat.le_of_ble_eq_true rfl) (fun X h hQ => ?_)
  show G Z X M 0 [(0, .ref (za Z 19 i0)), (1, .int v1), (2, .int v2)] []
  rw [F_R_replace] at hw
  refine g_iconst (v := 0) h d_R_replace_0 (by decide) ?_
  refine g_istore_n (lv' := [(3, .int 0), (0, .ref (za Z 19 i0)), (1, .int v1), (2, .int v2)]) h d_R_replace_1 rfl (by decide) rfl ?_
  refine g_sub [1, 2, 3, 0] rfl ?_
  exact w_R_replace_b2 hL h hQ  fuel i0 v1 v2 0 M hbi0 hw
set_option maxHeartbeats 4000000 in
set_option maxRecDepth 100000 in
theorem ct_W_create {Z : ZT} (hL : Lay Z sC) (v1 : Int32) (M : Mm)  {res : Int32 × Mm} (hw : F_W_create v1 M = some res) : CtI Z y_W_create ws_W_create (({ frames := 2, cells := 0, slots := 0, locals := 44 })) [.ref (za Z 14 0), .int v1] M res := by
  refine CtI.of hL (cc := c_W_create) (maxL := 2) (by decide) rfl (Nat.le_of_ble_eq_true rfl) (fun X h hQ => ?_)
  show G Z X M 0 [(0, .ref (za Z 14 0)), (1, .int v1)] []
  rw [F_W_create] at hw
  refine g_aload_n h d_W_create_0 rfl rfl ?_
  refine g_getR (t := 14) (i := 0) (k := 6) (C := "FlowGate$Flow") (T := T_W) (N := 12) h hL rfl (by decide) ob_14 (by decide) rfl (t' := 19) (i' := 0) rfl rfl (fun w hw => mc (in_W w hw)) (mc m_fl_W_29) rfl d_W_create_1 ?_
  refine g_sipush (v := 1000) h d_W_create_4 (by decide) ?_
  refine g_iload_n h d_W_create_7 rfl rfl ?_
  refine g_iadd h d_W_create_8 ?_
  obtain ⟨r3, M2, hc1, hw⟩ := o_b hw
  refine g_calli h (g_runV (rest := []) h (ct_R_isOnStack hL 0 ((1000 : Int32) + v1) M (by decide) hc1) (cwV 1 h.2.2.2.2.1 (g_V m_ml_W_258 m_im_R_isOnStack m_se_R_isOnStack m_in_R m_co_R_isOnStack) rfl rfl rfl (by decide +kernel) ⟨Nat.le_of_ble_eq_true rfl, Nat.le_of_ble_eq_true rfl⟩) (hL.recv h rfl (by decide) ob_19) rfl rfl (Nat.le_of_ble_eq_true rfl) d_W_create_9) ?_
  refine g_if_eq (tgt := 17) h d_W_create_12 (by decide) (fun c4 => ?_) (fun c4 => ?_)
  · have hw := o_t c4 hw
    refine g_aload_n h d_W_create_17 rfl rfl ?_
    refine g_getR (t := 14) (i := 0) (k := 6) (C := "FlowGate$Flow") (T := T_W) (N := 12) h hL rfl (by decide) ob_14 (by decide) rfl (t' := 19) (i' := 0) rfl rfl (fun w hw => mc (in_W w hw)) (mc m_fl_W_29) rfl d_W_create_18 ?_
    refine g_sipush (v := 1000) h d_W_create_21 (by decide) ?_
    refine g_iload_n h d_W_create_24 rfl rfl ?_
    refine g_iadd h d_W_create_25 ?_
    refine g_iconst (v := 0) h d_W_create_26 (by decide) ?_
    obtain ⟨M6, hc5, hw⟩ := o_v hw
    refine g_callv h (g_runV (rest := []) h (ct_R_replace hL 0 ((1000 : Int32) + v1) 0 M2 (by decide) hc5) (cwV 2 h.2.2.2.2.1 (g_V m_ml_W_261 m_im_R_replace m_se_R_replace m_in_R m_co_R_replace) rfl rfl rfl (by decide +kernel) ⟨Nat.le_of_ble_eq_true rfl, Nat.le_of_ble_eq_true rfl⟩) (hL.recv h rfl (by decide) ob_19) rfl rfl (Nat.le_of_ble_eq_true rfl) d_W_create_27) ?_
    refine g_aload_n h d_W_create_30 rfl rfl ?_
    refine g_getR (t := 14) (i := 0) (k := 6) (C := "FlowGate$Flow") (T := T_W) (N := 12) h hL rfl (by decide) ob_14 (by decide) rfl (t' := 19) (i' := 0) rfl rfl (fun w hw => mc (in_W w hw)) (mc m_fl_W_29) rfl d_W_create_31 ?_
    refine g_sipush (v := 1000) h d_W_create_34 (by decide) ?_
    refine g_iload_n h d_W_create_37 rfl rfl ?_
    refine g_iadd h d_W_create_38 ?_
    refine g_aload_n h d_W_create_39 rfl rfl ?_
    refine g_getR (t := 14) (i := 0) (k := 1) (C := "FlowGate$Flow") (T := T_W) (N := 12) h hL rfl (by decide) ob_14 (by decide) rfl (t' := 4) (i' := 0) rfl rfl (fun w hw => mc (in_W w hw)) (mc m_fl_W_40) rfl d_W_create_40 ?_
    refine g_getI (t := 4) (i := 0) (k := 13) (C := "FlowGate$Method") (T := T_M) (N := 14) h hL rfl (by decide) ob_4 (by decide) rfl (fun w hw => mc (in_M w hw)) (mc m_fl_W_116) rfl d_W_create_43 ?_
    obtain ⟨r9, M8, hc7, hw⟩ := o_b hw
    refine g_calli h (g_runV (rest := []) h (ct_R_push hL 0 ((1000 : Int32) + v1) (M6.1 4 0 13) M6 (by decide) hc7) (cwV 2 h.2.2.2.2.1 (g_V m_ml_W_200 m_im_R_push m_se_R_push m_in_R m_co_R_push) rfl rfl rfl (by decide +kernel) ⟨Nat.le_of_ble_eq_true rfl, Nat.le_of_ble_eq_true rfl⟩) (hL.recv h rfl (by decide) ob_19) rfl rfl (Nat.le_of_ble_eq_true rfl) d_W_create_46) ?_
    exact g_iret h hQ d_W_create_49 hw
  · have hw := o_f c4 hw
    refine g_iconst (v := 2) h d_W_create_15 (by decide) ?_
    exact g_iret h hQ d_W_create_16 hw
set_option maxHeartbeats 4000000 in
set_option maxRecDepth 100000 in
theorem ct_W_build {Z : ZT} (hL : Lay Z sC) (v1 : Int32) (M : Mm)  {res : Int32 × Mm} (hw : F_W_build v1 M = some res) : CtI Z y_W_build ws_W_build (({ frames := 1, cells := 0, slots := 0, locals := 23 })) [.ref (za Z 14 0), .int v1] M res := by
  refine CtI.of hL (cc := c_W_build) (maxL := 3) (by decide) rfl (Nat.le_of_ble_eq_true rfl) (fun X h hQ => ?_)
  show G Z X M 0 [(0, .ref (za Z 14 0)), (1, .int v1)] []
  rw [F_W_build] at hw
  refine g_aload_n h d_W_build_0 rfl rfl ?_
  refine g_getR (t := 14) (i := 0) (k := 6) (C := "FlowGate$Flow") (T := T_W) (N := 12) h hL rfl (by decide) ob_14 (by decide) rfl (t' := 19) (i' := 0) rfl rfl (fun w hw => mc (in_W w hw)) (mc m_fl_W_29) rfl d_W_build_1 ?_
  refine g_iconst (v := 0) h d_W_build_4 (by decide) ?_
  obtain ⟨r3, M2, hc1, hw⟩ := o_b hw
  refine g_calli h (g_runV (rest := []) h (ct_R_top hL 0 0 M (by decide) hc1) (cwV 1 h.2.2.2.2.1 (g_V m_ml_W_219 m_im_R_top m_se_R_top m_in_R m_co_R_top) rfl rfl rfl (by decide +kernel) ⟨Nat.le_of_ble_eq_true rfl, Nat.le_of_ble_eq_true rfl⟩) (hL.recv h rfl (by decide) ob_19) rfl rfl (Nat.le_of_ble_eq_true rfl) d_W_build_5) ?_
  refine g_istore_n (lv' := [(2, .int r3), (0, .ref (za Z 14 0)), (1, .int v1)]) h d_W_build_8 rfl (by decide) rfl ?_
  refine g_iload_n h d_W_build_9 rfl rfl ?_
  refine g_calli h (g_runSN (rest := []) h (ct_G_isRaw hL r3 M2 (p_G_isRaw r3 M2)) ⟨va_cnB 1 h.2.2.2.2.1 (g_C m_co_G_isRaw) rfl rfl rfl (h.2.2.2.2.2.2.2.2.2.2.1 ("FlowGate$Flow", 264, y_G_isRaw, "FlowGate") (by decide +kernel)) (h.2.2.2.2.1 _ (mc m_in_G)) (by decide +kernel) ⟨Nat.le_of_ble_eq_true rfl, Nat.le_of_ble_eq_true rfl⟩, h.2.2.2.2.1 _ (mc m_st_G_isRaw), trivial⟩ rfl rfl (Nat.le_of_ble_eq_true rfl) d_W_build_10) ?_
  refine g_topi (fun r5 er5 => ?_)
  have hw := o_l hw r5 er5
  refine g_if_eq (tgt := 33) h d_W_build_13 (by decide) (fun c6 => ?_) (fun c6 => ?_)
  · have hw := o_t c6 hw
    refine g_iconst (v := 2) h d_W_build_33 (by decide) ?_
    exact g_iret h hQ d_W_build_34 hw
  · have hw := o_f c6 hw
    refine g_aload_n h d_W_build_16 rfl rfl ?_
    refine g_getR (t := 14) (i := 0) (k := 1) (C := "FlowGate$Flow") (T := T_W) (N := 12) h hL rfl (by decide) ob_14 (by decide) rfl (t' := 4) (i' := 0) rfl rfl (fun w hw => mc (in_W w hw)) (mc m_fl_W_40) rfl d_W_build_17 ?_
    refine g_getR (t := 4) (i := 0) (k := 1) (C := "FlowGate$Method") (T := T_M) (N := 14) h hL rfl (by decide) ob_4 (by decide) rfl (t' := 6) (i' := 0) rfl rfl (fun w hw => mc (in_M w hw)) (mc m_fl_W_150) rfl d_W_build_20 ?_
    refine g_iload_n h d_W_build_23 rfl rfl ?_
    refine g_sipush (v := 1000) h d_W_build_24 (by decide) ?_
    refine g_isub h d_W_build_27 ?_
    obtain ⟨hv7, hw⟩ := o_in hw
    refine g_iald (t := 6) (i := 0) h hL rfl (by decide) rfl rfl hv7 d_W_build_28 ?_
    refine g_iload_n h d_W_build_29 rfl rfl ?_
    refine g_icmp_eq (tgt := 35) h d_W_build_30 (by decide) (fun c8 => ?_) (fun c8 => ?_)
    · have hw := o_t c8 hw
      refine g_aload_n h d_W_build_35 rfl rfl ?_
      refine g_getR (t := 14) (i := 0) (k := 6) (C := "FlowGate$Flow") (T := T_W) (N := 12) h hL rfl (by decide) ob_14 (by decide) rfl (t' := 19) (i' := 0) rfl rfl (fun w hw => mc (in_W w hw)) (mc m_fl_W_29) rfl d_W_build_36 ?_
      refine g_iconst (v := 1) h d_W_build_39 (by decide) ?_
      obtain ⟨M10, hc9, hw⟩ := o_v hw
      refine g_callv h (g_runV (rest := []) h (ct_R_drop hL 0 1 M2 (by decide) hc9) (cwV 1 h.2.2.2.2.1 (g_V m_ml_W_197 m_im_R_drop m_se_R_drop m_in_R m_co_R_drop) rfl rfl rfl (by decide +kernel) ⟨Nat.le_of_ble_eq_true rfl, Nat.le_of_ble_eq_true rfl⟩) (hL.recv h rfl (by decide) ob_19) rfl rfl (Nat.le_of_ble_eq_true rfl) d_W_build_40) ?_
      refine g_aload_n h d_W_build_43 rfl rfl ?_
      refine g_getR (t := 14) (i := 0) (k := 6) (C := "FlowGate$Flow") (T := T_W) (N := 12) h hL rfl (by decide) ob_14 (by decide) rfl (t' := 19) (i' := 0) rfl rfl (fun w hw => mc (in_W w hw)) (mc m_fl_W_29) rfl d_W_build_44 ?_
      refine g_iload_n h d_W_build_47 rfl rfl ?_
      refine g_bipush (v := 16) h d_W_build_48 (by decide) ?_
      refine g_iload_n h d_W_build_50 rfl rfl ?_
      refine g_iadd h d_W_build_51 ?_
      obtain ⟨M12, hc11, hw⟩ := o_v hw
      refine g_callv h (g_runV (rest := []) h (ct_R_replace hL 0 r3 ((16 : Int32) + v1) M10 (by decide) hc11) (cwV 2 h.2.2.2.2.1 (g_V m_ml_W_261 m_im_R_replace m_se_R_replace m_in_R m_co_R_replace) rfl rfl rfl (by decide +kernel) ⟨Nat.le_of_ble_eq_true rfl, Nat.le_of_ble_eq_true rfl⟩) (hL.recv h rfl (by decide) ob_19) rfl rfl (Nat.le_of_ble_eq_true rfl) d_W_build_52) ?_
      refine g_iconst (v := 0) h d_W_build_55 (by decide) ?_
      exact g_iret h hQ d_W_build_56 hw
    · have hw := o_f c8 hw
      refine g_iconst (v := 2) h d_W_build_33 (by decide) ?_
      exact g_iret h hQ d_W_build_34 hw
set_option maxHeartbeats 4000000 in
set_option maxRecDepth 100000 in
theorem w_W_useObject_b97 {Z : ZT} {X : XT} (hL : Lay Z sC) (h : Ok Z X "FlowGate$Flow" c_W_useObject ws_W_useObject 5 ({ frames := 3, cells := 0, slots := 0, locals := 69 })) {res : Int32 × Mm} (hQ : FinI Z X .int res)  (s1 : Int32) (M : Mm)  (hw : F_W_useObject_b97 s1 M = some res) : G Z X M 97 [] [.int s1, .ref (za Z 14 0)] := by
  rw [F_W_useObject_b97] at hw
  refine g_iconst (v := 2) h d_W_useObject_97 (by decide) ?_
  obtain ⟨r3, M2, hc1, hw⟩ := o_b hw
  refine g_calli h (g_runV (rest := []) h (ct_W_takeIf hL s1 2 M hc1) (cwV 2 h.2.2.2.2.1 (g_V m_ml_W_236 m_im_W_takeIf m_se_W_takeIf m_in_W m_co_W_takeIf) rfl rfl rfl (by decide +kernel) ⟨Nat.le_of_ble_eq_true rfl, Nat.le_of_ble_eq_true rfl⟩) (hL.recv h rfl (by decide) ob_14) rfl rfl (Nat.le_of_ble_eq_true rfl) d_W_useObject_98) ?_
  exact g_iret h hQ d_W_useObject_101 hw
set_option maxHeartbeats 4000000 in
set_option maxRecDepth 100000 in
theorem w_W_useObject_b96 {Z : ZT} {X : XT} (hL : Lay Z sC) (h : Ok Z X "FlowGate$Flow" c_W_useObject ws_W_useObject 5 ({ frames := 3, cells := 0, slots := 0, locals := 69 })) {res : Int32 × Mm} (hQ : FinI Z X .int res)   (M : Mm)  (hw : F_W_useObject_b96 M = some res) : G Z X M 96 [] [.ref (za Z 14 0)] := by
  rw [F_W_useObject_b96] at hw
  refine g_iconst (v := 0) h d_W_useObject_96 (by decide) ?_
  refine g_sub [] rfl ?_
  exact w_W_useObject_b97 hL h hQ  0 M hw
set_option maxHeartbeats 4000000 in
set_option maxRecDepth 100000 in
theorem ct_W_useObject {Z : ZT} (hL : Lay Z sC) (v1 : Int32) (v2 : Int32) (v3 : Int32) (M : Mm)  {res : Int32 × Mm} (hw : F_W_useObject v1 v2 v3 M = some res) : CtI Z y_W_useObject ws_W_useObject (({ frames := 3, cells := 0, slots := 0, locals := 69 })) [.ref (za Z 14 0), .int v1, .int v2, .int v3] M res := by
  refine CtI.of hL (cc := c_W_useObject) (maxL := 5) (by decide) rfl (Nat.le_of_ble_eq_true rfl) (fun X h hQ => ?_)
  show G Z X M 0 [(0, .ref (za Z 14 0)), (1, .int v1), (2, .int v2), (3, .int v3)] []
  rw [F_W_useObject] at hw
  refine g_aload_n h d_W_useObject_0 rfl rfl ?_
  refine g_getR (t := 14) (i := 0) (k := 6) (C := "FlowGate$Flow") (T := T_W) (N := 12) h hL rfl (by decide) ob_14 (by decide) rfl (t' := 19) (i' := 0) rfl rfl (fun w hw => mc (in_W w hw)) (mc m_fl_W_29) rfl d_W_useObject_1 ?_
  refine g_iconst (v := 0) h d_W_useObject_4 (by decide) ?_
  obtain ⟨r6, M5, hc4, hw⟩ := o_b hw
  refine g_calli h (g_runV (rest := []) h (ct_R_top hL 0 0 M (by decide) hc4) (cwV 1 h.2.2.2.2.1 (g_V m_ml_W_219 m_im_R_top m_se_R_top m_in_R m_co_R_top) rfl rfl rfl (by decide +kernel) ⟨Nat.le_of_ble_eq_true rfl, Nat.le_of_ble_eq_true rfl⟩) (hL.recv h rfl (by decide) ob_19) rfl rfl (Nat.le_of_ble_eq_true rfl) d_W_useObject_5) ?_
  refine g_istore (lv' := [(4, .int r6), (0, .ref (za Z 14 0)), (1, .int v1), (2, .int v2), (3, .int v3)]) h d_W_useObject_8 (by decide) rfl ?_
  refine g_iload_n h d_W_useObject_10 rfl rfl ?_
  rcases Classical.em (v1 = 22) with c35_0 | c35_0
  · refine g_tabIn (tgt := 36) h d_W_useObject_11 (by rw [c35_0]; decide) (by rw [c35_0]; decide) (by rw [c35_0]; rfl) (by decide) ?_
    have hw := o_t c35_0 hw
    refine g_aload_n h d_W_useObject_36 rfl rfl ?_
    refine g_aload_n h d_W_useObject_37 rfl rfl ?_
    refine g_getR (t := 14) (i := 0) (k := 0) (C := "FlowGate$Flow") (T := T_W) (N := 12) h hL rfl (by decide) ob_14 (by decide) rfl (t' := 1) (i' := 0) rfl rfl (fun w hw => mc (in_W w hw)) (mc m_fl_W_36) rfl d_W_useObject_38 ?_
    refine g_iload h d_W_useObject_41 rfl ?_
    refine g_bipush (v := 16) h d_W_useObject_43 (by decide) ?_
    refine g_iload_n h d_W_useObject_45 rfl rfl ?_
    refine g_iadd h d_W_useObject_46 ?_
    obtain ⟨r14, M13, hc12, hw⟩ := o_b hw
    refine g_calli h (g_runV (rest := [.ref (za Z 14 0)]) h (ct_T_goesFor hL r6 ((16 : Int32) + v2) M5 hc12) (cwV 2 h.2.2.2.2.1 (g_V m_ml_W_252 m_im_T_goesFor m_se_T_goesFor m_in_T m_co_T_goesFor) rfl rfl rfl (by decide +kernel) ⟨Nat.le_of_ble_eq_true rfl, Nat.le_of_ble_eq_true rfl⟩) (hL.recv h rfl (by decide) ob_1) rfl rfl (Nat.le_of_ble_eq_true rfl) d_W_useObject_47) ?_
    refine g_iconst (v := 1) h d_W_useObject_50 (by decide) ?_
    refine g_iload_n h d_W_useObject_51 rfl rfl ?_
    obtain ⟨r17, M16, hc15, hw⟩ := o_b hw
    refine g_calli h (g_runV (rest := []) h (ct_W_exchangeIf hL r14 1 v3 M13 hc15) (cwV 3 h.2.2.2.2.1 (g_V m_ml_W_243 m_im_W_exchangeIf m_se_W_exchangeIf m_in_W m_co_W_exchangeIf) rfl rfl rfl (by decide +kernel) ⟨Nat.le_of_ble_eq_true rfl, Nat.le_of_ble_eq_true rfl⟩) (hL.recv h rfl (by decide) ob_14) rfl rfl (Nat.le_of_ble_eq_true rfl) d_W_useObject_52) ?_
    exact g_iret h hQ d_W_useObject_55 hw
  have hw := o_f c35_0 hw
  rcases Classical.em (v1 = 23) with c35_1 | c35_1
  · refine g_tabIn (tgt := 56) h d_W_useObject_11 (by rw [c35_1]; decide) (by rw [c35_1]; decide) (by rw [c35_1]; rfl) (by decide) ?_
    have hw := o_t c35_1 hw
    refine g_aload_n h d_W_useObject_56 rfl rfl ?_
    refine g_aload_n h d_W_useObject_57 rfl rfl ?_
    refine g_getR (t := 14) (i := 0) (k := 0) (C := "FlowGate$Flow") (T := T_W) (N := 12) h hL rfl (by decide) ob_14 (by decide) rfl (t' := 1) (i' := 0) rfl rfl (fun w hw => mc (in_W w hw)) (mc m_fl_W_36) rfl d_W_useObject_58 ?_
    refine g_iload h d_W_useObject_61 rfl ?_
    refine g_iload_n h d_W_useObject_63 rfl rfl ?_
    obtain ⟨r20, M19, hc18, hw⟩ := o_b hw
    refine g_calli h (g_runV (rest := [.ref (za Z 14 0)]) h (ct_T_goesFor hL r6 v3 M5 hc18) (cwV 2 h.2.2.2.2.1 (g_V m_ml_W_252 m_im_T_goesFor m_se_T_goesFor m_in_T m_co_T_goesFor) rfl rfl rfl (by decide +kernel) ⟨Nat.le_of_ble_eq_true rfl, Nat.le_of_ble_eq_true rfl⟩) (hL.recv h rfl (by decide) ob_1) rfl rfl (Nat.le_of_ble_eq_true rfl) d_W_useObject_64) ?_
    refine g_if_eq (tgt := 96) h d_W_useObject_67 (by decide) (fun c21 => ?_) (fun c21 => ?_)
    · have hw := o_t c21 hw
      refine g_sub [] rfl ?_
      exact w_W_useObject_b96 hL h hQ  M19 hw
    · have hw := o_f c21 hw
      refine g_aload_n h d_W_useObject_70 rfl rfl ?_
      refine g_getR (t := 14) (i := 0) (k := 0) (C := "FlowGate$Flow") (T := T_W) (N := 12) h hL rfl (by decide) ob_14 (by decide) rfl (t' := 1) (i' := 0) rfl rfl (fun w hw => mc (in_W w hw)) (mc m_fl_W_36) rfl d_W_useObject_71 ?_
      refine g_aload_n h d_W_useObject_74 rfl rfl ?_
      refine g_getR (t := 14) (i := 0) (k := 6) (C := "FlowGate$Flow") (T := T_W) (N := 12) h hL rfl (by decide) ob_14 (by decide) rfl (t' := 19) (i' := 0) rfl rfl (fun w hw => mc (in_W w hw)) (mc m_fl_W_29) rfl d_W_useObject_75 ?_
      refine g_iconst (v := 1) h d_W_useObject_78 (by decide) ?_
      obtain ⟨r24, M23, hc22, hw⟩ := o_b hw
      refine g_calli h (g_runV (rest := [.ref (za Z 1 0), .ref (za Z 14 0)]) h (ct_R_top hL 0 1 M19 (by decide) hc22) (cwV 1 h.2.2.2.2.1 (g_V m_ml_W_219 m_im_R_top m_se_R_top m_in_R m_co_R_top) rfl rfl rfl (by decide +kernel) ⟨Nat.le_of_ble_eq_true rfl, Nat.le_of_ble_eq_true rfl⟩) (hL.recv h rfl (by decide) ob_19) rfl rfl (Nat.le_of_ble_eq_true rfl) d_W_useObject_79) ?_
      refine g_bipush (v := 16) h d_W_useObject_82 (by decide) ?_
      refine g_iload_n h d_W_useObject_84 rfl rfl ?_
      refine g_iadd h d_W_useObject_85 ?_
      obtain ⟨r27, M26, hc25, hw⟩ := o_b hw
      refine g_calli h (g_runV (rest := [.ref (za Z 14 0)]) h (ct_T_goesFor hL r24 ((16 : Int32) + v2) M23 hc25) (cwV 2 h.2.2.2.2.1 (g_V m_ml_W_252 m_im_T_goesFor m_se_T_goesFor m_in_T m_co_T_goesFor) rfl rfl rfl (by decide +kernel) ⟨Nat.le_of_ble_eq_true rfl, Nat.le_of_ble_eq_true rfl⟩) (hL.recv h rfl (by decide) ob_1) rfl rfl (Nat.le_of_ble_eq_true rfl) d_W_useObject_86) ?_
      refine g_if_eq (tgt := 96) h d_W_useObject_89 (by decide) (fun c28 => ?_) (fun c28 => ?_)
      · have hw := o_t c28 hw
        refine g_sub [] rfl ?_
        exact w_W_useObject_b96 hL h hQ  M26 hw
      · have hw := o_f c28 hw
        refine g_iconst (v := 1) h d_W_useObject_92 (by decide) ?_
        refine g_goto (tgt := 97) h d_W_useObject_93 (by decide) ?_
        refine g_sub [] rfl ?_
        exact w_W_useObject_b97 hL h hQ  1 M26 hw
  have hw := o_f c35_1 hw
  rcases Classical.em (v1 = 24) with c35_2 | c35_2
  · refine g_tabIn (tgt := 102) h d_W_useObject_11 (by rw [c35_2]; decide) (by rw [c35_2]; decide) (by rw [c35_2]; rfl) (by decide) ?_
    have hw := o_t c35_2 hw
    refine g_aload_n h d_W_useObject_102 rfl rfl ?_
    refine g_aload_n h d_W_useObject_103 rfl rfl ?_
    refine g_getR (t := 14) (i := 0) (k := 0) (C := "FlowGate$Flow") (T := T_W) (N := 12) h hL rfl (by decide) ob_14 (by decide) rfl (t' := 1) (i' := 0) rfl rfl (fun w hw => mc (in_W w hw)) (mc m_fl_W_36) rfl d_W_useObject_104 ?_
    refine g_iload h d_W_useObject_107 rfl ?_
    refine g_iload_n h d_W_useObject_109 rfl rfl ?_
    obtain ⟨r31, M30, hc29, hw⟩ := o_b hw
    refine g_calli h (g_runV (rest := [.ref (za Z 14 0)]) h (ct_T_goesFor hL r6 v2 M5 hc29) (cwV 2 h.2.2.2.2.1 (g_V m_ml_W_252 m_im_T_goesFor m_se_T_goesFor m_in_T m_co_T_goesFor) rfl rfl rfl (by decide +kernel) ⟨Nat.le_of_ble_eq_true rfl, Nat.le_of_ble_eq_true rfl⟩) (hL.recv h rfl (by decide) ob_1) rfl rfl (Nat.le_of_ble_eq_true rfl) d_W_useObject_110) ?_
    refine g_iconst (v := 1) h d_W_useObject_113 (by decide) ?_
    refine g_iload_n h d_W_useObject_114 rfl rfl ?_
    obtain ⟨r34, M33, hc32, hw⟩ := o_b hw
    refine g_calli h (g_runV (rest := []) h (ct_W_exchangeIf hL r31 1 v3 M30 hc32) (cwV 3 h.2.2.2.2.1 (g_V m_ml_W_243 m_im_W_exchangeIf m_se_W_exchangeIf m_in_W m_co_W_exchangeIf) rfl rfl rfl (by decide +kernel) ⟨Nat.le_of_ble_eq_true rfl, Nat.le_of_ble_eq_true rfl⟩) (hL.recv h rfl (by decide) ob_14) rfl rfl (Nat.le_of_ble_eq_true rfl) d_W_useObject_115) ?_
    exact g_iret h hQ d_W_useObject_118 hw
  have hw := o_f c35_2 hw
  refine g_tabOut (tgt := 119) h d_W_useObject_11 (sw_out 22 3 (by decide) (by decide) (fun j hj => ?_)) (by decide) ?_
  · rcases (show j = 0 ∨ j = 1 ∨ j = 2 by omega) with rfl | rfl | rfl
    · exact c35_0
    · exact c35_1
    · exact c35_2
  refine g_aload_n h d_W_useObject_119 rfl rfl ?_
  refine g_aload_n h d_W_useObject_120 rfl rfl ?_
  refine g_getR (t := 14) (i := 0) (k := 0) (C := "FlowGate$Flow") (T := T_W) (N := 12) h hL rfl (by decide) ob_14 (by decide) rfl (t' := 1) (i' := 0) rfl rfl (fun w hw => mc (in_W w hw)) (mc m_fl_W_36) rfl d_W_useObject_121 ?_
  refine g_iload h d_W_useObject_124 rfl ?_
  refine g_calli h (g_runV (rest := [.ref (za Z 14 0)]) h (ct_T_isRefOrNull hL r6 M5 (p_T_isRefOrNull r6 M5)) (cwV 1 h.2.2.2.2.1 (g_V m_ml_W_247 m_im_T_isRefOrNull m_se_T_isRefOrNull m_in_T m_co_T_isRefOrNull) rfl rfl rfl (by decide +kernel) ⟨Nat.le_of_ble_eq_true rfl, Nat.le_of_ble_eq_true rfl⟩) (hL.recv h rfl (by decide) ob_1) rfl rfl (Nat.le_of_ble_eq_true rfl) d_W_useObject_126) ?_
  refine g_topi (fun r8 er8 => ?_)
  have hw := o_l hw r8 er8
  refine g_iconst (v := 1) h d_W_useObject_129 (by decide) ?_
  refine g_iload_n h d_W_useObject_130 rfl rfl ?_
  obtain ⟨r11, M10, hc9, hw⟩ := o_b hw
  refine g_calli h (g_runV (rest := []) h (ct_W_exchangeIf hL r8 1 v2 M5 hc9) (cwV 3 h.2.2.2.2.1 (g_V m_ml_W_243 m_im_W_exchangeIf m_se_W_exchangeIf m_in_W m_co_W_exchangeIf) rfl rfl rfl (by decide +kernel) ⟨Nat.le_of_ble_eq_true rfl, Nat.le_of_ble_eq_true rfl⟩) (hL.recv h rfl (by decide) ob_14) rfl rfl (Nat.le_of_ble_eq_true rfl) d_W_useObject_131) ?_
  exact g_iret h hQ d_W_useObject_134 hw
set_option maxHeartbeats 4000000 in
set_option maxRecDepth 100000 in
theorem ct_W_isRowOf {Z : ZT} (hL : Lay Z sC) (v0 : Int32) (v1 : Int32) (M : Mm)  {res : Int32 × Mm} (hw : F_W_isRowOf v0 v1 M = some res) : CtI Z y_W_isRowOf ws_W_isRowOf (({ frames := 0, cells := 0, slots := 0, locals := 0 })) [.int v0, .int v1] M res := by
  refine CtI.of hL (cc := c_W_isRowOf) (maxL := 2) (by decide) rfl (Nat.le_of_ble_eq_true rfl) (fun X h hQ => ?_)
  show G Z X M 0 [(0, .int v0), (1, .int v1)] []
  rw [F_W_isRowOf] at hw
  refine g_iload_n h d_W_isRowOf_0 rfl rfl ?_
  refine g_iconst (v := 5) h d_W_isRowOf_1 (by decide) ?_
  refine g_icmp_eq (tgt := 10) h d_W_isRowOf_2 (by decide) (fun c1 => ?_) (fun c1 => ?_)
  · have hw := o_t c1 hw
    refine g_iconst (v := 1) h d_W_isRowOf_10 (by decide) ?_
    refine g_goto (tgt := 15) h d_W_isRowOf_11 (by decide) ?_
    exact g_zret h hQ d_W_isRowOf_15 rfl hw
  · have hw := o_f c1 hw
    refine g_iload_n h d_W_isRowOf_5 rfl rfl ?_
    refine g_iload_n h d_W_isRowOf_6 rfl rfl ?_
    refine g_icmp_ne (tgt := 14) h d_W_isRowOf_7 (by decide) (fun c2 => ?_) (fun c2 => ?_)
    · have hw := o_f c2 hw
      refine g_iconst (v := 0) h d_W_isRowOf_14 (by decide) ?_
      exact g_zret h hQ d_W_isRowOf_15 rfl hw
    · have hw := o_t c2 hw
      refine g_iconst (v := 1) h d_W_isRowOf_10 (by decide) ?_
      refine g_goto (tgt := 15) h d_W_isRowOf_11 (by decide) ?_
      exact g_zret h hQ d_W_isRowOf_15 rfl hw
set_option maxHeartbeats 4000000 in
set_option maxRecDepth 100000 in
theorem ct_W_elementOf {Z : ZT} (hL : Lay Z sC) (v0 : Int32) (M : Mm)  {res : Int32 × Mm} (hw : F_W_elementOf v0 M = some res) : CtI Z y_W_elementOf ws_W_elementOf (({ frames := 0, cells := 0, slots := 0, locals := 0 })) [.int v0] M res := by
  refine CtI.of hL (cc := c_W_elementOf) (maxL := 1) (by decide) rfl (Nat.le_of_ble_eq_true rfl) (fun X h hQ => ?_)
  show G Z X M 0 [(0, .int v0)] []
  rw [F_W_elementOf] at hw
  refine g_iload_n h d_W_elementOf_0 rfl rfl ?_
  refine g_bipush (v := 76) h d_W_elementOf_1 (by decide) ?_
  refine g_icmp_ne (tgt := 10) h d_W_elementOf_3 (by decide) (fun c1 => ?_) (fun c1 => ?_)
  · have hw := o_f c1 hw
    refine g_iload_n h d_W_elementOf_10 rfl rfl ?_
    refine g_bipush (v := 64) h d_W_elementOf_11 (by decide) ?_
    refine g_isub h d_W_elementOf_13 ?_
    exact g_iret h hQ d_W_elementOf_14 hw
  · have hw := o_t c1 hw
    refine g_iconst (v := 1) h d_W_elementOf_6 (by decide) ?_
    refine g_goto (tgt := 14) h d_W_elementOf_7 (by decide) ?_
    exact g_iret h hQ d_W_elementOf_14 hw
set_option maxHeartbeats 4000000 in
set_option maxRecDepth 100000 in
theorem w_W_useRow_b47 {Z : ZT} {X : XT} (hL : Lay Z sC) (h : Ok Z X "FlowGate$Flow" c_W_useRow ws_W_useRow 4 ({ frames := 3, cells := 0, slots := 0, locals := 69 })) {res : Int32 × Mm} (hQ : FinI Z X .int res)  (v2 : Int32) (s1 : Int32) (M : Mm)  (hw : F_W_useRow_b47 v2 s1 M = some res) : G Z X M 47 [(2, .int v2)] [.int s1, .ref (za Z 14 0)] := by
  rw [F_W_useRow_b47] at hw
  refine g_iconst (v := 1) h d_W_useRow_47 (by decide) ?_
  refine g_iload_n h d_W_useRow_48 rfl rfl ?_
  refine g_bipush (v := 64) h d_W_useRow_49 (by decide) ?_
  refine g_iadd h d_W_useRow_51 ?_
  obtain ⟨r3, M2, hc1, hw⟩ := o_b hw
  refine g_calli h (g_runV (rest := []) h (ct_W_exchangeIf hL s1 1 (v2 + 64) M hc1) (cwV 3 h.2.2.2.2.1 (g_V m_ml_W_243 m_im_W_exchangeIf m_se_W_exchangeIf m_in_W m_co_W_exchangeIf) rfl rfl rfl (by decide +kernel) ⟨Nat.le_of_ble_eq_true rfl, Nat.le_of_ble_eq_true rfl⟩) (hL.recv h rfl (by decide) ob_14) rfl rfl (Nat.le_of_ble_eq_true rfl) d_W_useRow_52) ?_
  exact g_iret h hQ d_W_useRow_55 hw
set_option maxHeartbeats 4000000 in
set_option maxRecDepth 100000 in
theorem w_W_useRow_b82 {Z : ZT} {X : XT} (hL : Lay Z sC) (h : Ok Z X "FlowGate$Flow" c_W_useRow ws_W_useRow 4 ({ frames := 3, cells := 0, slots := 0, locals := 69 })) {res : Int32 × Mm} (hQ : FinI Z X .int res)  (v2 : Int32) (s1 : Int32) (M : Mm)  (hw : F_W_useRow_b82 v2 s1 M = some res) : G Z X M 82 [(2, .int v2)] [.int s1, .ref (za Z 14 0)] := by
  rw [F_W_useRow_b82] at hw
  refine g_iconst (v := 2) h d_W_useRow_82 (by decide) ?_
  refine g_iload_n h d_W_useRow_83 rfl rfl ?_
  refine g_calli h (g_runS (rest := [.int 2, .int s1, .ref (za Z 14 0)]) h (ct_W_elementOf hL v2 M (p_W_elementOf v2 M)) (cwS 1 h.2.2.2.2.1 (g_S m_ml_W_270 m_st_W_elementOf m_in_W m_co_W_elementOf) rfl rfl rfl (by decide +kernel) ⟨Nat.le_of_ble_eq_true rfl, Nat.le_of_ble_eq_true rfl⟩) rfl rfl (Nat.le_of_ble_eq_true rfl) d_W_useRow_84) ?_
  refine g_topi (fun r5 er5 => ?_)
  have hw := o_l hw r5 er5
  obtain ⟨r8, M7, hc6, hw⟩ := o_b hw
  refine g_calli h (g_runV (rest := []) h (ct_W_exchangeIf hL s1 2 r5 M hc6) (cwV 3 h.2.2.2.2.1 (g_V m_ml_W_243 m_im_W_exchangeIf m_se_W_exchangeIf m_in_W m_co_W_exchangeIf) rfl rfl rfl (by decide +kernel) ⟨Nat.le_of_ble_eq_true rfl, Nat.le_of_ble_eq_true rfl⟩) (hL.recv h rfl (by decide) ob_14) rfl rfl (Nat.le_of_ble_eq_true rfl) d_W_useRow_87) ?_
  exact g_iret h hQ d_W_useRow_90 hw
set_option maxHeartbeats 4000000 in
set_option maxRecDepth 100000 in
theorem w_W_useRow_b81 {Z : ZT} {X : XT} (hL : Lay Z sC) (h : Ok Z X "FlowGate$Flow" c_W_useRow ws_W_useRow 4 ({ frames := 3, cells := 0, slots := 0, locals := 69 })) {res : Int32 × Mm} (hQ : FinI Z X .int res)  (v2 : Int32) (M : Mm)  (hw : F_W_useRow_b81 v2 M = some res) : G Z X M 81 [(2, .int v2)] [.ref (za Z 14 0)] := by
  rw [F_W_useRow_b81] at hw
  refine g_iconst (v := 0) h d_W_useRow_81 (by decide) ?_
  refine g_sub [0] rfl ?_
  exact w_W_useRow_b82 hL h hQ  v2 0 M hw
set_option maxHeartbeats 4000000 in
set_option maxRecDepth 100000 in
theorem w_W_useRow_b139 {Z : ZT} {X : XT} (hL : Lay Z sC) (h : Ok Z X "FlowGate$Flow" c_W_useRow ws_W_useRow 4 ({ frames := 3, cells := 0, slots := 0, locals := 69 })) {res : Int32 × Mm} (hQ : FinI Z X .int res)  (s1 : Int32) (M : Mm)  (hw : F_W_useRow_b139 s1 M = some res) : G Z X M 139 [] [.int s1, .ref (za Z 14 0)] := by
  rw [F_W_useRow_b139] at hw
  refine g_iconst (v := 3) h d_W_useRow_139 (by decide) ?_
  obtain ⟨r11, M10, hc9, hw⟩ := o_b hw
  refine g_calli h (g_runV (rest := []) h (ct_W_takeIf hL s1 3 M hc9) (cwV 2 h.2.2.2.2.1 (g_V m_ml_W_236 m_im_W_takeIf m_se_W_takeIf m_in_W m_co_W_takeIf) rfl rfl rfl (by decide +kernel) ⟨Nat.le_of_ble_eq_true rfl, Nat.le_of_ble_eq_true rfl⟩) (hL.recv h rfl (by decide) ob_14) rfl rfl (Nat.le_of_ble_eq_true rfl) d_W_useRow_140) ?_
  exact g_iret h hQ d_W_useRow_143 hw
set_option maxHeartbeats 4000000 in
set_option maxRecDepth 100000 in
theorem w_W_useRow_b138 {Z : ZT} {X : XT} (hL : Lay Z sC) (h : Ok Z X "FlowGate$Flow" c_W_useRow ws_W_useRow 4 ({ frames := 3, cells := 0, slots := 0, locals := 69 })) {res : Int32 × Mm} (hQ : FinI Z X .int res)   (M : Mm)  (hw : F_W_useRow_b138 M = some res) : G Z X M 138 [] [.ref (za Z 14 0)] := by
  rw [F_W_useRow_b138] at hw
  refine g_iconst (v := 0) h d_W_useRow_138 (by decide) ?_
  refine g_sub [] rfl ?_
  exact w_W_useRow_b139 hL h hQ  0 M hw
set_option maxHeartbeats 4000000 in
set_option maxRecDepth 100000 in
theorem w_W_useRow_b166 {Z : ZT} {X : XT} (hL : Lay Z sC) (h : Ok Z X "FlowGate$Flow" c_W_useRow ws_W_useRow 4 ({ frames := 3, cells := 0, slots := 0, locals := 69 })) {res : Int32 × Mm} (hQ : FinI Z X .int res)  (s1 : Int32) (M : Mm)  (hw : F_W_useRow_b166 s1 M = some res) : G Z X M 166 [] [.int s1, .ref (za Z 14 0)] := by
  rw [F_W_useRow_b166] at hw
  refine g_iconst (v := 1) h d_W_useRow_166 (by decide) ?_
  refine g_iconst (v := 1) h d_W_useRow_167 (by decide) ?_
  obtain ⟨r14, M13, hc12, hw⟩ := o_b hw
  refine g_calli h (g_runV (rest := []) h (ct_W_exchangeIf hL s1 1 1 M hc12) (cwV 3 h.2.2.2.2.1 (g_V m_ml_W_243 m_im_W_exchangeIf m_se_W_exchangeIf m_in_W m_co_W_exchangeIf) rfl rfl rfl (by decide +kernel) ⟨Nat.le_of_ble_eq_true rfl, Nat.le_of_ble_eq_true rfl⟩) (hL.recv h rfl (by decide) ob_14) rfl rfl (Nat.le_of_ble_eq_true rfl) d_W_useRow_168) ?_
  exact g_iret h hQ d_W_useRow_171 hw
set_option maxHeartbeats 4000000 in
set_option maxRecDepth 100000 in
theorem w_W_useRow_b161 {Z : ZT} {X : XT} (hL : Lay Z sC) (h : Ok Z X "FlowGate$Flow" c_W_useRow ws_W_useRow 4 ({ frames := 3, cells := 0, slots := 0, locals := 69 })) {res : Int32 × Mm} (hQ : FinI Z X .int res)   (M : Mm)  (hw : F_W_useRow_b161 M = some res) : G Z X M 161 [] [.ref (za Z 14 0)] := by
  rw [F_W_useRow_b161] at hw
  refine g_iconst (v := 1) h d_W_useRow_161 (by decide) ?_
  refine g_goto (tgt := 166) h d_W_useRow_162 (by decide) ?_
  refine g_sub [] rfl ?_
  exact w_W_useRow_b166 hL h hQ  1 M hw
set_option maxHeartbeats 4000000 in
set_option maxRecDepth 100000 in
theorem ct_W_useRow {Z : ZT} (hL : Lay Z sC) (v1 : Int32) (v2 : Int32) (M : Mm)  {res : Int32 × Mm} (hw : F_W_useRow v1 v2 M = some res) : CtI Z y_W_useRow ws_W_useRow (({ frames := 3, cells := 0, slots := 0, locals := 69 })) [.ref (za Z 14 0), .int v1, .int v2] M res := by
  refine CtI.of hL (cc := c_W_useRow) (maxL := 4) (by decide) rfl (Nat.le_of_ble_eq_true rfl) (fun X h hQ => ?_)
  show G Z X M 0 [(0, .ref (za Z 14 0)), (1, .int v1), (2, .int v2)] []
  rw [F_W_useRow] at hw
  refine g_aload_n h d_W_useRow_0 rfl rfl ?_
  refine g_getR (t := 14) (i := 0) (k := 6) (C := "FlowGate$Flow") (T := T_W) (N := 12) h hL rfl (by decide) ob_14 (by decide) rfl (t' := 19) (i' := 0) rfl rfl (fun w hw => mc (in_W w hw)) (mc m_fl_W_29) rfl d_W_useRow_1 ?_
  refine g_iconst (v := 0) h d_W_useRow_4 (by decide) ?_
  obtain ⟨r17, M16, hc15, hw⟩ := o_b hw
  refine g_calli h (g_runV (rest := []) h (ct_R_top hL 0 0 M (by decide) hc15) (cwV 1 h.2.2.2.2.1 (g_V m_ml_W_219 m_im_R_top m_se_R_top m_in_R m_co_R_top) rfl rfl rfl (by decide +kernel) ⟨Nat.le_of_ble_eq_true rfl, Nat.le_of_ble_eq_true rfl⟩) (hL.recv h rfl (by decide) ob_19) rfl rfl (Nat.le_of_ble_eq_true rfl) d_W_useRow_5) ?_
  refine g_istore_n (lv' := [(3, .int r17), (0, .ref (za Z 14 0)), (1, .int v1), (2, .int v2)]) h d_W_useRow_8 rfl (by decide) rfl ?_
  refine g_iload_n h d_W_useRow_9 rfl rfl ?_
  rcases Classical.em (v1 = 26) with c46_0 | c46_0
  · refine g_tabIn (tgt := 36) h d_W_useRow_10 (by rw [c46_0]; decide) (by rw [c46_0]; decide) (by rw [c46_0]; rfl) (by decide) ?_
    have hw := o_t c46_0 hw
    refine g_aload_n h d_W_useRow_36 rfl rfl ?_
    refine g_iload_n h d_W_useRow_37 rfl rfl ?_
    refine g_iconst (v := 1) h d_W_useRow_38 (by decide) ?_
    refine g_icmp_ne (tgt := 46) h d_W_useRow_39 (by decide) (fun c22 => ?_) (fun c22 => ?_)
    · have hw := o_f c22 hw
      refine g_iconst (v := 0) h d_W_useRow_46 (by decide) ?_
      refine g_sub [3] rfl ?_
      exact w_W_useRow_b47 hL h hQ  v2 0 M16 hw
    · have hw := o_t c22 hw
      refine g_iconst (v := 1) h d_W_useRow_42 (by decide) ?_
      refine g_goto (tgt := 47) h d_W_useRow_43 (by decide) ?_
      refine g_sub [3] rfl ?_
      exact w_W_useRow_b47 hL h hQ  v2 1 M16 hw
  have hw := o_f c46_0 hw
  rcases Classical.em (v1 = 27) with c46_1 | c46_1
  · refine g_tabIn (tgt := 56) h d_W_useRow_10 (by rw [c46_1]; decide) (by rw [c46_1]; decide) (by rw [c46_1]; rfl) (by decide) ?_
    have hw := o_t c46_1 hw
    refine g_aload_n h d_W_useRow_56 rfl rfl ?_
    refine g_iload_n h d_W_useRow_57 rfl rfl ?_
    refine g_iconst (v := 1) h d_W_useRow_58 (by decide) ?_
    refine g_icmp_ne (tgt := 81) h d_W_useRow_59 (by decide) (fun c23 => ?_) (fun c23 => ?_)
    · have hw := o_f c23 hw
      refine g_sub [3] rfl ?_
      exact w_W_useRow_b81 hL h hQ  v2 M16 hw
    · have hw := o_t c23 hw
      refine g_aload_n h d_W_useRow_62 rfl rfl ?_
      refine g_getR (t := 14) (i := 0) (k := 6) (C := "FlowGate$Flow") (T := T_W) (N := 12) h hL rfl (by decide) ob_14 (by decide) rfl (t' := 19) (i' := 0) rfl rfl (fun w hw => mc (in_W w hw)) (mc m_fl_W_29) rfl d_W_useRow_63 ?_
      refine g_iconst (v := 1) h d_W_useRow_66 (by decide) ?_
      obtain ⟨r26, M25, hc24, hw⟩ := o_b hw
      refine g_calli h (g_runV (rest := [.ref (za Z 14 0)]) h (ct_R_top hL 0 1 M16 (by decide) hc24) (cwV 1 h.2.2.2.2.1 (g_V m_ml_W_219 m_im_R_top m_se_R_top m_in_R m_co_R_top) rfl rfl rfl (by decide +kernel) ⟨Nat.le_of_ble_eq_true rfl, Nat.le_of_ble_eq_true rfl⟩) (hL.recv h rfl (by decide) ob_19) rfl rfl (Nat.le_of_ble_eq_true rfl) d_W_useRow_67) ?_
      refine g_iload_n h d_W_useRow_70 rfl rfl ?_
      refine g_calli h (g_runS (rest := [.ref (za Z 14 0)]) h (ct_W_isRowOf hL r26 v2 M25 (p_W_isRowOf r26 v2 M25)) (cwS 2 h.2.2.2.2.1 (g_S m_ml_W_267 m_st_W_isRowOf m_in_W m_co_W_isRowOf) rfl rfl rfl (by decide +kernel) ⟨Nat.le_of_ble_eq_true rfl, Nat.le_of_ble_eq_true rfl⟩) rfl rfl (Nat.le_of_ble_eq_true rfl) d_W_useRow_71) ?_
      refine g_topi (fun r28 er28 => ?_)
      have hw := o_l hw r28 er28
      refine g_if_eq (tgt := 81) h d_W_useRow_74 (by decide) (fun c29 => ?_) (fun c29 => ?_)
      · have hw := o_t c29 hw
        refine g_sub [3] rfl ?_
        exact w_W_useRow_b81 hL h hQ  v2 M25 hw
      · have hw := o_f c29 hw
        refine g_iconst (v := 1) h d_W_useRow_77 (by decide) ?_
        refine g_goto (tgt := 82) h d_W_useRow_78 (by decide) ?_
        refine g_sub [3] rfl ?_
        exact w_W_useRow_b82 hL h hQ  v2 1 M25 hw
  have hw := o_f c46_1 hw
  rcases Classical.em (v1 = 28) with c46_2 | c46_2
  · refine g_tabIn (tgt := 91) h d_W_useRow_10 (by rw [c46_2]; decide) (by rw [c46_2]; decide) (by rw [c46_2]; rfl) (by decide) ?_
    have hw := o_t c46_2 hw
    refine g_aload_n h d_W_useRow_91 rfl rfl ?_
    refine g_aload_n h d_W_useRow_92 rfl rfl ?_
    refine g_getR (t := 14) (i := 0) (k := 0) (C := "FlowGate$Flow") (T := T_W) (N := 12) h hL rfl (by decide) ob_14 (by decide) rfl (t' := 1) (i' := 0) rfl rfl (fun w hw => mc (in_W w hw)) (mc m_fl_W_36) rfl d_W_useRow_93 ?_
    refine g_iload_n h d_W_useRow_96 rfl rfl ?_
    refine g_iload_n h d_W_useRow_97 rfl rfl ?_
    refine g_calli h (g_runS (rest := [.int r17, .ref (za Z 1 0), .ref (za Z 14 0)]) h (ct_W_elementOf hL v2 M16 (p_W_elementOf v2 M16)) (cwS 1 h.2.2.2.2.1 (g_S m_ml_W_270 m_st_W_elementOf m_in_W m_co_W_elementOf) rfl rfl rfl (by decide +kernel) ⟨Nat.le_of_ble_eq_true rfl, Nat.le_of_ble_eq_true rfl⟩) rfl rfl (Nat.le_of_ble_eq_true rfl) d_W_useRow_98) ?_
    refine g_topi (fun r31 er31 => ?_)
    have hw := o_l hw r31 er31
    obtain ⟨r34, M33, hc32, hw⟩ := o_b hw
    refine g_calli h (g_runV (rest := [.ref (za Z 14 0)]) h (ct_T_goesFor hL r17 r31 M16 hc32) (cwV 2 h.2.2.2.2.1 (g_V m_ml_W_252 m_im_T_goesFor m_se_T_goesFor m_in_T m_co_T_goesFor) rfl rfl rfl (by decide +kernel) ⟨Nat.le_of_ble_eq_true rfl, Nat.le_of_ble_eq_true rfl⟩) (hL.recv h rfl (by decide) ob_1) rfl rfl (Nat.le_of_ble_eq_true rfl) d_W_useRow_101) ?_
    refine g_if_eq (tgt := 138) h d_W_useRow_104 (by decide) (fun c35 => ?_) (fun c35 => ?_)
    · have hw := o_t c35 hw
      refine g_sub [] rfl ?_
      exact w_W_useRow_b138 hL h hQ  M33 hw
    · have hw := o_f c35 hw
      refine g_aload_n h d_W_useRow_107 rfl rfl ?_
      refine g_getR (t := 14) (i := 0) (k := 6) (C := "FlowGate$Flow") (T := T_W) (N := 12) h hL rfl (by decide) ob_14 (by decide) rfl (t' := 19) (i' := 0) rfl rfl (fun w hw => mc (in_W w hw)) (mc m_fl_W_29) rfl d_W_useRow_108 ?_
      refine g_iconst (v := 1) h d_W_useRow_111 (by decide) ?_
      obtain ⟨r38, M37, hc36, hw⟩ := o_b hw
      refine g_calli h (g_runV (rest := [.ref (za Z 14 0)]) h (ct_R_top hL 0 1 M33 (by decide) hc36) (cwV 1 h.2.2.2.2.1 (g_V m_ml_W_219 m_im_R_top m_se_R_top m_in_R m_co_R_top) rfl rfl rfl (by decide +kernel) ⟨Nat.le_of_ble_eq_true rfl, Nat.le_of_ble_eq_true rfl⟩) (hL.recv h rfl (by decide) ob_19) rfl rfl (Nat.le_of_ble_eq_true rfl) d_W_useRow_112) ?_
      refine g_iconst (v := 1) h d_W_useRow_115 (by decide) ?_
      refine g_icmp_ne (tgt := 138) h d_W_useRow_116 (by decide) (fun c39 => ?_) (fun c39 => ?_)
      · have hw := o_f c39 hw
        refine g_sub [] rfl ?_
        exact w_W_useRow_b138 hL h hQ  M37 hw
      · have hw := o_t c39 hw
        refine g_aload_n h d_W_useRow_119 rfl rfl ?_
        refine g_getR (t := 14) (i := 0) (k := 6) (C := "FlowGate$Flow") (T := T_W) (N := 12) h hL rfl (by decide) ob_14 (by decide) rfl (t' := 19) (i' := 0) rfl rfl (fun w hw => mc (in_W w hw)) (mc m_fl_W_29) rfl d_W_useRow_120 ?_
        refine g_iconst (v := 2) h d_W_useRow_123 (by decide) ?_
        obtain ⟨r42, M41, hc40, hw⟩ := o_b hw
        refine g_calli h (g_runV (rest := [.ref (za Z 14 0)]) h (ct_R_top hL 0 2 M37 (by decide) hc40) (cwV 1 h.2.2.2.2.1 (g_V m_ml_W_219 m_im_R_top m_se_R_top m_in_R m_co_R_top) rfl rfl rfl (by decide +kernel) ⟨Nat.le_of_ble_eq_true rfl, Nat.le_of_ble_eq_true rfl⟩) (hL.recv h rfl (by decide) ob_19) rfl rfl (Nat.le_of_ble_eq_true rfl) d_W_useRow_124) ?_
        refine g_iload_n h d_W_useRow_127 rfl rfl ?_
        refine g_calli h (g_runS (rest := [.ref (za Z 14 0)]) h (ct_W_isRowOf hL r42 v2 M41 (p_W_isRowOf r42 v2 M41)) (cwS 2 h.2.2.2.2.1 (g_S m_ml_W_267 m_st_W_isRowOf m_in_W m_co_W_isRowOf) rfl rfl rfl (by decide +kernel) ⟨Nat.le_of_ble_eq_true rfl, Nat.le_of_ble_eq_true rfl⟩) rfl rfl (Nat.le_of_ble_eq_true rfl) d_W_useRow_128) ?_
        refine g_topi (fun r44 er44 => ?_)
        have hw := o_l hw r44 er44
        refine g_if_eq (tgt := 138) h d_W_useRow_131 (by decide) (fun c45 => ?_) (fun c45 => ?_)
        · have hw := o_t c45 hw
          refine g_sub [] rfl ?_
          exact w_W_useRow_b138 hL h hQ  M41 hw
        · have hw := o_f c45 hw
          refine g_iconst (v := 1) h d_W_useRow_134 (by decide) ?_
          refine g_goto (tgt := 139) h d_W_useRow_135 (by decide) ?_
          refine g_sub [] rfl ?_
          exact w_W_useRow_b139 hL h hQ  1 M41 hw
  have hw := o_f c46_2 hw
  refine g_tabOut (tgt := 144) h d_W_useRow_10 (sw_out 26 3 (by decide) (by decide) (fun j hj => ?_)) (by decide) ?_
  · rcases (show j = 0 ∨ j = 1 ∨ j = 2 by omega) with rfl | rfl | rfl
    · exact c46_0
    · exact c46_1
    · exact c46_2
  refine g_aload_n h d_W_useRow_144 rfl rfl ?_
  refine g_iload_n h d_W_useRow_145 rfl rfl ?_
  refine g_iconst (v := 5) h d_W_useRow_146 (by decide) ?_
  refine g_icmp_eq (tgt := 161) h d_W_useRow_147 (by decide) (fun c18 => ?_) (fun c18 => ?_)
  · have hw := o_t c18 hw
    refine g_sub [] rfl ?_
    exact w_W_useRow_b161 hL h hQ  M16 hw
  · have hw := o_f c18 hw
    refine g_aload_n h d_W_useRow_150 rfl rfl ?_
    refine g_getR (t := 14) (i := 0) (k := 0) (C := "FlowGate$Flow") (T := T_W) (N := 12) h hL rfl (by decide) ob_14 (by decide) rfl (t' := 1) (i' := 0) rfl rfl (fun w hw => mc (in_W w hw)) (mc m_fl_W_36) rfl d_W_useRow_151 ?_
    refine g_iload_n h d_W_useRow_154 rfl rfl ?_
    refine g_calli h (g_runV (rest := [.ref (za Z 14 0)]) h (ct_T_isRow hL r17 M16 (p_T_isRow r17 M16)) (cwV 1 h.2.2.2.2.1 (g_V m_ml_W_273 m_im_T_isRow m_se_T_isRow m_in_T m_co_T_isRow) rfl rfl rfl (by decide +kernel) ⟨Nat.le_of_ble_eq_true rfl, Nat.le_of_ble_eq_true rfl⟩) (hL.recv h rfl (by decide) ob_1) rfl rfl (Nat.le_of_ble_eq_true rfl) d_W_useRow_155) ?_
    refine g_topi (fun r20 er20 => ?_)
    have hw := o_l hw r20 er20
    refine g_if_eq (tgt := 165) h d_W_useRow_158 (by decide) (fun c21 => ?_) (fun c21 => ?_)
    · have hw := o_t c21 hw
      refine g_iconst (v := 0) h d_W_useRow_165 (by decide) ?_
      refine g_sub [] rfl ?_
      exact w_W_useRow_b166 hL h hQ  0 M16 hw
    · have hw := o_f c21 hw
      refine g_sub [] rfl ?_
      exact w_W_useRow_b161 hL h hQ  M16 hw
