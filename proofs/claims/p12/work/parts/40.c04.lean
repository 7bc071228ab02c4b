set_option maxHeartbeats 4000000 in
set_option maxRecDepth 100000 in
theorem ct_W_fitsLocal {Z : ZT} (hL : Lay Z sC) (v1 : Int32) (v2 : Int32) (M : Mm)  {res : Int32 × Mm} (hw : F_W_fitsLocal v1 v2 M = some res) : CtI Z y_W_fitsLocal ws_W_fitsLocal (({ frames := 1, cells := 0, slots := 0, locals := 20 })) [.ref (za Z 14 0), .int v1, .int v2] M res := by
  refine CtI.of hL (cc := c_W_fitsLocal) (maxL := 3) (by decide) rfl (Nat.le_of_ble_eq_true rfl) (fun X h hQ => ?_)
  show G Z X M 0 [(0, .ref (za Z 14 0)), (1, .int v1), (2, .int v2)] []
  rw [F_W_fitsLocal] at hw
  refine g_iload_n h d_W_fitsLocal_0 rfl rfl ?_
  refine g_iload_n h d_W_fitsLocal_1 rfl rfl ?_
  refine g_calli h (g_runSN (rest := [.int v1]) h (ct_G_widthOf hL v2 M (p_G_widthOf v2 M)) ⟨va_cnB 1 h.2.2.2.2.1 (g_C m_co_G_widthOf) rfl rfl rfl (h.2.2.2.2.2.2.2.2.2.2.1 ("FlowGate$Flow", 203, y_G_widthOf, "FlowGate") (by decide +kernel)) (h.2.2.2.2.1 _ (mc m_in_G)) (by decide +kernel) ⟨Nat.le_of_ble_eq_true rfl, Nat.le_of_ble_eq_true rfl⟩, h.2.2.2.2.1 _ (mc m_st_G_widthOf), trivial⟩ rfl rfl (Nat.le_of_ble_eq_true rfl) d_W_fitsLocal_2) ?_
  refine g_topi (fun r2 er2 => ?_)
  have hw := o_l hw r2 er2
  refine g_iadd h d_W_fitsLocal_5 ?_
  refine g_aload_n h d_W_fitsLocal_6 rfl rfl ?_
  refine g_getR (t := 14) (i := 0) (k := 1) (C := "FlowGate$Flow") (T := T_W) (N := 12) h hL rfl (by decide) ob_14 (by decide) rfl (t' := 4) (i' := 0) rfl rfl (fun w hw => mc (in_W w hw)) (mc m_fl_W_40) rfl d_W_fitsLocal_7 ?_
  refine g_getI (t := 4) (i := 0) (k := 12) (C := "FlowGate$Method") (T := T_M) (N := 14) h hL rfl (by decide) ob_4 (by decide) rfl (fun w hw => mc (in_M w hw)) (mc m_fl_W_206) rfl d_W_fitsLocal_10 ?_
  refine g_icmp_gt (tgt := 20) h d_W_fitsLocal_13 (by decide) (fun c3 => ?_) (fun c3 => ?_)
  · have hw := o_t c3 hw
    refine g_iconst (v := 0) h d_W_fitsLocal_20 (by decide) ?_
    exact g_zret h hQ d_W_fitsLocal_21 rfl hw
  · have hw := o_f c3 hw
    refine g_iconst (v := 1) h d_W_fitsLocal_16 (by decide) ?_
    refine g_goto (tgt := 21) h d_W_fitsLocal_17 (by decide) ?_
    exact g_zret h hQ d_W_fitsLocal_21 rfl hw
set_option maxHeartbeats 4000000 in
set_option maxRecDepth 100000 in
theorem ct_G_isWide {Z : ZT} (hL : Lay Z sC) (v0 : Int32) (M : Mm)  {res : Int32 × Mm} (hw : F_G_isWide v0 M = some res) : CtI Z y_G_isWide ws_G_isWide (({ frames := 0, cells := 0, slots := 0, locals := 0 })) [.int v0] M res := by
  refine CtI.of hL (cc := c_G_isWide) (maxL := 1) (by decide) rfl (Nat.le_of_ble_eq_true rfl) (fun X h hQ => ?_)
  show G Z X M 0 [(0, .int v0)] []
  rw [F_G_isWide] at hw
  refine g_iload_n h d_G_isWide_0 rfl rfl ?_
  refine g_iconst (v := 3) h d_G_isWide_1 (by decide) ?_
  refine g_icmp_eq (tgt := 10) h d_G_isWide_2 (by decide) (fun c1 => ?_) (fun c1 => ?_)
  · have hw := o_t c1 hw
    refine g_iconst (v := 1) h d_G_isWide_10 (by decide) ?_
    refine g_goto (tgt := 15) h d_G_isWide_11 (by decide) ?_
    exact g_zret h hQ d_G_isWide_15 rfl hw
  · have hw := o_f c1 hw
    refine g_iload_n h d_G_isWide_5 rfl rfl ?_
    refine g_iconst (v := 4) h d_G_isWide_6 (by decide) ?_
    refine g_icmp_ne (tgt := 14) h d_G_isWide_7 (by decide) (fun c2 => ?_) (fun c2 => ?_)
    · have hw := o_f c2 hw
      refine g_iconst (v := 0) h d_G_isWide_14 (by decide) ?_
      exact g_zret h hQ d_G_isWide_15 rfl hw
    · have hw := o_t c2 hw
      refine g_iconst (v := 1) h d_G_isWide_10 (by decide) ?_
      refine g_goto (tgt := 15) h d_G_isWide_11 (by decide) ?_
      exact g_zret h hQ d_G_isWide_15 rfl hw
set_option maxHeartbeats 4000000 in
set_option maxRecDepth 100000 in
theorem w_R_touchAll_b37 {Z : ZT} {X : XT} (hL : Lay Z sC) (h : Ok Z X "FlowGate$Frame" c_R_touchAll ws_R_touchAll 3 ({ frames := 1, cells := 0, slots := 0, locals := 21 })) {res : Mm} (hQ : FinV Z X res) {K2 : Nat → Int32 → Int32 → Mm → Option (Mm)} (hK2 : ∀ (i0 : Nat) (v1 : Int32) (v2 : Int32) (M : Mm), i0 < cnt 19 → K2 i0 v1 v2 M = some res → G Z X M 2 [(0, .ref (za Z 19 i0)), (1, .int v1), (2, .int v2)] []) (i0 : Nat) (v1 : Int32) (v2 : Int32) (M : Mm) (hbi0 : i0 < cnt 19) (hw : F_R_touchAll_b37 K2 i0 v1 v2 M = some res) : G Z X M 37 [(0, .ref (za Z 19 i0)), (1, .int v1), (2, .int v2)] [] := by
  rw [F_R_touchAll_b37] at hw
  refine g_iinc (n' := 1) (lw := fun y => [(2, .int y), (0, .ref (za Z 19 i0)), (1, .int v1)]) h d_R_touchAll_37 rfl (by decide) (by decide) (fun _ => rfl) (fun n1 en1 => ?_)
  have hw := o_l hw n1 en1
  refine g_goto (tgt := 2) h d_R_touchAll_40 (by decide) ?_
  refine g_sub [1, 2, 0] rfl ?_
  exact hK2 i0 v1 n1 M hbi0 hw
set_option maxHeartbeats 4000000 in
set_option maxRecDepth 100000 in
theorem w_R_touchAll_b2 {Z : ZT} {X : XT} (hL : Lay Z sC) (h : Ok Z X "FlowGate$Frame" c_R_touchAll ws_R_touchAll 3 ({ frames := 1, cells := 0, slots := 0, locals := 21 })) {res : Mm} (hQ : FinV Z X res)  : ∀ (n : Nat) (i0 : Nat) (v1 : Int32) (v2 : Int32) (M : Mm), i0 < cnt 19 → F_R_touchAll_b2  n i0 v1 v2 M = some res → G Z X M 2 [(0, .ref (za Z 19 i0)), (1, .int v1), (2, .int v2)] [] := by
  intro n
  induction n with
  | zero =>
    intro i0 v1 v2 M hbi0 hw
    cases hw
  | succ n hK2 =>
    intro i0 v1 v2 M hbi0 hw
    rw [F_R_touchAll_b2] at hw
    refine g_iload_n h d_R_touchAll_2 rfl rfl ?_
    refine g_bipush (v := 48) h d_R_touchAll_3 (by decide) ?_
    refine g_icmp_ge (tgt := 43) h d_R_touchAll_5 (by decide) (fun c2 => ?_) (fun c2 => ?_)
    · have hw := o_t c2 hw
      exact g_vret h hQ d_R_touchAll_43 hw
    · have hw := o_f c2 hw
      refine g_aload_n h d_R_touchAll_8 rfl rfl ?_
      refine g_getL (t := 19) (i := i0) (k := 3) (C := "FlowGate$Frame") (T := T_R) (N := 5) h hL rfl hbi0 ob_19 (by decide) rfl (fun w hw => mc (in_R w hw)) (mc m_fl_R_31) rfl d_R_touchAll_9 ?_
      refine g_iload_n h d_R_touchAll_12 rfl rfl ?_
      refine g_lshr h d_R_touchAll_13 ?_
      refine g_lconst (v := 0) h d_R_touchAll_14 rfl ?_
      refine g_lcmp h d_R_touchAll_15 ?_
      refine g_if_eq (tgt := 43) h d_R_touchAll_16 (by decide) (fun c3 => ?_) (fun c3 => ?_)
      · have hw := o_t c3 hw
        exact g_vret h hQ d_R_touchAll_43 hw
      · have hw := o_f c3 hw
        refine g_aload_n h d_R_touchAll_19 rfl rfl ?_
        refine g_iload_n h d_R_touchAll_20 rfl rfl ?_
        refine g_calli h (g_runV (rest := []) h (ct_R_isIn hL i0 v2 M hbi0 (p_R_isIn i0 v2 M)) (cwV 1 h.2.2.2.2.1 (g_V m_ml_R_69 m_im_R_isIn m_se_R_isIn m_in_R m_co_R_isIn) rfl rfl rfl (by decide +kernel) ⟨Nat.le_of_ble_eq_true rfl, Nat.le_of_ble_eq_true rfl⟩) (hL.recv h rfl hbi0 ob_19) rfl rfl (Nat.le_of_ble_eq_true rfl) d_R_touchAll_21) ?_
        refine g_topi (fun r5 er5 => ?_)
        have hw := o_l hw r5 er5
        refine g_if_eq (tgt := 37) h d_R_touchAll_24 (by decide) (fun c6 => ?_) (fun c6 => ?_)
        · have hw := o_t c6 hw
          refine g_sub [0, 1, 2] rfl ?_
          exact w_R_touchAll_b37 hL h hQ hK2 i0 v1 v2 M hbi0 hw
        · have hw := o_f c6 hw
          refine g_aload_n h d_R_touchAll_27 rfl rfl ?_
          refine g_getR (t := 19) (i := i0) (k := 4) (C := "FlowGate$Frame") (T := T_R) (N := 5) h hL rfl hbi0 ob_19 (by decide) rfl (t' := 22) (i' := i0) rfl rfl (fun w hw => mc (in_R w hw)) (mc m_fl_R_18) rfl d_R_touchAll_28 ?_
          refine g_iload_n h d_R_touchAll_31 rfl rfl ?_
          refine g_dup2_11 h d_R_touchAll_32 rfl rfl ?_
          obtain ⟨hv7, hw⟩ := o_in hw
          refine g_iald (t := 22) (i := i0) h hL rfl hbi0 rfl rfl hv7 d_R_touchAll_33 ?_
          refine g_iload_n h d_R_touchAll_34 rfl rfl ?_
          refine g_ior h d_R_touchAll_35 ?_
          obtain ⟨hv8, hw⟩ := o_in hw
          refine g_iast (t := 22) (i := i0) h hL rfl hbi0 rfl rfl hv8 d_R_touchAll_36 ?_
          refine g_mem (fun M9 eM9 => ?_)
          have hw := o_l hw M9 eM9
          refine g_sub [0, 1, 2] rfl ?_
          exact w_R_touchAll_b37 hL h hQ hK2 i0 v1 v2 M9 hbi0 hw
set_option maxHeartbeats 4000000 in
set_option maxRecDepth 100000 in
theorem ct_R_touchAll {Z : ZT} (hL : Lay Z sC) (i0 : Nat) (v1 : Int32) (M : Mm) (hbi0 : i0 < cnt 19) {res : Mm} (hw : F_R_touchAll i0 v1 M = some res) : CtV Z y_R_touchAll ws_R_touchAll (({ frames := 1, cells := 0, slots := 0, locals := 21 })) [.ref (za Z 19 i0), .int v1] M res := by
  refine CtV.of hL (cc := c_R_touchAll) (maxL := 3) (by decide) rfl (Nat.le_of_ble_eq_true rfl) (fun X h hQ => ?_)
  show G Z X M 0 [(0, .ref (za Z 19 i0)), (1, .int v1)] []
  rw [F_R_touchAll] at hw
  refine g_iconst (v := 0) h d_R_touchAll_0 (by decide) ?_
  refine g_istore_n (lv' := [(2, .int 0), (0, .ref (za Z 19 i0)), (1, .int v1)]) h d_R_touchAll_1 rfl (by decide) rfl ?_
  refine g_sub [1, 2, 0] rfl ?_
  exact w_R_touchAll_b2 hL h hQ  fuel i0 v1 0 M hbi0 hw
set_option maxHeartbeats 4000000 in
set_option maxRecDepth 100000 in
theorem w_R_touch_b17 {Z : ZT} {X : XT} (hL : Lay Z sC) (h : Ok Z X "FlowGate$Frame" c_R_touch ws_R_touch 3 ({ frames := 2, cells := 0, slots := 0, locals := 43 })) {res : Mm} (hQ : FinV Z X res)  (j0 : Nat) (s1 : Int32) (M : Mm) (hbj0 : j0 < cnt 19) (hw : F_R_touch_b17 j0 s1 M = some res) : G Z X M 17 [] [.int s1, .ref (za Z 19 j0)] := by
  rw [F_R_touch_b17] at hw
  obtain ⟨M2, hc1, hw⟩ := o_v hw
  refine g_callv h (g_runV (rest := []) h (ct_R_touchAll hL j0 s1 M hbj0 hc1) (cwV 1 h.2.2.2.2.1 (g_V m_ml_R_57 m_im_R_touchAll m_se_R_touchAll m_in_R m_co_R_touchAll) rfl rfl rfl (by decide +kernel) ⟨Nat.le_of_ble_eq_true rfl, Nat.le_of_ble_eq_true rfl⟩) (hL.recv h rfl hbj0 ob_19) rfl rfl (Nat.le_of_ble_eq_true rfl) d_R_touch_17) ?_
  exact g_vret h hQ d_R_touch_20 hw
set_option maxHeartbeats 4000000 in
set_option maxRecDepth 100000 in
theorem ct_R_touch {Z : ZT} (hL : Lay Z sC) (i0 : Nat) (v1 : Int32) (v2 : Int32) (M : Mm) (hbi0 : i0 < cnt 19) {res : Mm} (hw : F_R_touch i0 v1 v2 M = some res) : CtV Z y_R_touch ws_R_touch (({ frames := 2, cells := 0, slots := 0, locals := 43 })) [.ref (za Z 19 i0), .int v1, .int v2] M res := by
  refine CtV.of hL (cc := c_R_touch) (maxL := 3) (by decide) rfl (Nat.le_of_ble_eq_true rfl) (fun X h hQ => ?_)
  show G Z X M 0 [(0, .ref (za Z 19 i0)), (1, .int v1), (2, .int v2)] []
  rw [F_R_touch] at hw
  refine g_aload_n h d_R_touch_0 rfl rfl ?_
  refine g_iload_n h d_R_touch_1 rfl rfl ?_
  refine g_calli h (g_runSN (rest := [.ref (za Z 19 i0)]) h (ct_G_isWide hL v2 M (p_G_isWide v2 M)) ⟨va_cnB 1 h.2.2.2.2.1 (g_C m_co_G_isWide) rfl rfl rfl (h.2.2.2.2.2.2.2.2.2.2.1 ("FlowGate$Frame", 65, y_G_isWide, "FlowGate") (by decide +kernel)) (h.2.2.2.2.1 _ (mc m_in_G)) (by decide +kernel) ⟨Nat.le_of_ble_eq_true rfl, Nat.le_of_ble_eq_true rfl⟩, h.2.2.2.2.1 _ (mc m_st_G_isWide), trivial⟩ rfl rfl (Nat.le_of_ble_eq_true rfl) d_R_touch_2) ?_
  refine g_topi (fun r4 er4 => ?_)
  have hw := o_l hw r4 er4
  refine g_if_eq (tgt := 14) h d_R_touch_5 (by decide) (fun c5 => ?_) (fun c5 => ?_)
  · have hw := o_t c5 hw
    refine g_iconst (v := 1) h d_R_touch_14 (by decide) ?_
    refine g_iload_n h d_R_touch_15 rfl rfl ?_
    refine g_ishl h d_R_touch_16 ?_
    refine g_sub [] rfl ?_
    exact w_R_touch_b17 hL h hQ  i0 ((1 : Int32) <<< (v1 &&& 31)) M hbi0 hw
  · have hw := o_f c5 hw
    refine g_iconst (v := 3) h d_R_touch_8 (by decide) ?_
    refine g_iload_n h d_R_touch_9 rfl rfl ?_
    refine g_ishl h d_R_touch_10 ?_
    refine g_goto (tgt := 17) h d_R_touch_11 (by decide) ?_
    refine g_sub [] rfl ?_
    exact w_R_touch_b17 hL h hQ  i0 ((3 : Int32) <<< (v1 &&& 31)) M hbi0 hw
set_option maxHeartbeats 4000000 in
set_option maxRecDepth 100000 in
theorem w_R_push_b8 {Z : ZT} {X : XT} (hL : Lay Z sC) (h : Ok Z X "FlowGate$Frame" c_R_push ws_R_push 5 ({ frames := 1, cells := 0, slots := 0, locals := 20 })) {res : Int32 × Mm} (hQ : FinI Z X .int res)  : ∀ (n : Nat) (i0 : Nat) (v1 : Int32) (v2 : Int32) (v3 : Int32) (v4 : Int32) (M : Mm), i0 < cnt 19 → F_R_push_b8  n i0 v1 v2 v3 v4 M = some res → G Z X M 8 [(0, .ref (za Z 19 i0)), (1, .int v1), (2, .int v2), (3, .int v3), (4, .int v4)] [] := by
  intro n
  induction n with
  | zero =>
    intro i0 v1 v2 v3 v4 M hbi0 hw
    cases hw
  | succ n hK8 =>
    intro i0 v1 v2 v3 v4 M hbi0 hw
    rw [F_R_push_b8] at hw
    refine g_iload h d_R_push_8 rfl ?_
    refine g_aload_n h d_R_push_10 rfl rfl ?_
    refine g_getI (t := 19) (i := i0) (k := 2) (C := "FlowGate$Frame") (T := T_R) (N := 5) h hL rfl hbi0 ob_19 (by decide) rfl (fun w hw => mc (in_R w hw)) (mc m_fl_R_27) rfl d_R_push_11 ?_
    refine g_icmp_ge (tgt := 36) h d_R_push_14 (by decide) (fun c1 => ?_) (fun c1 => ?_)
    · have hw := o_t c1 hw
      refine g_iload_n h d_R_push_36 rfl rfl ?_
      refine g_iload_n h d_R_push_37 rfl rfl ?_
      refine g_icmp_le (tgt := 43) h d_R_push_38 (by decide) (fun c2 => ?_) (fun c2 => ?_)
      · have hw := o_t c2 hw
        refine g_aload_n h d_R_push_43 rfl rfl ?_
        refine g_getR (t := 19) (i := i0) (k := 1) (C := "FlowGate$Frame") (T := T_R) (N := 5) h hL rfl hbi0 ob_19 (by decide) rfl (t' := 21) (i' := i0) rfl rfl (fun w hw => mc (in_R w hw)) (mc m_fl_R_15) rfl d_R_push_44 ?_
        refine g_aload_n h d_R_push_47 rfl rfl ?_
        refine g_getI (t := 19) (i := i0) (k := 2) (C := "FlowGate$Frame") (T := T_R) (N := 5) h hL rfl hbi0 ob_19 (by decide) rfl (fun w hw => mc (in_R w hw)) (mc m_fl_R_27) rfl d_R_push_48 ?_
        refine g_iload_n h d_R_push_51 rfl rfl ?_
        obtain ⟨hv3, hw⟩ := o_in hw
        refine g_iast (t := 21) (i := i0) h hL rfl hbi0 rfl rfl hv3 d_R_push_52 ?_
        refine g_mem (fun M4 eM4 => ?_)
        have hw := o_l hw M4 eM4
        refine g_aload_n h d_R_push_53 rfl rfl ?_
        refine g_dup h d_R_push_54 rfl ?_
        refine g_getI (t := 19) (i := i0) (k := 2) (C := "FlowGate$Frame") (T := T_R) (N := 5) h hL rfl hbi0 ob_19 (by decide) rfl (fun w hw => mc (in_R w hw)) (mc m_fl_R_27) rfl d_R_push_55 ?_
        refine g_iconst (v := 1) h d_R_push_58 (by decide) ?_
        refine g_iadd h d_R_push_59 ?_
        refine g_putI (t := 19) (i := i0) (k := 2) (C := "FlowGate$Frame") (T := T_R) (N := 5) h hL rfl hbi0 ob_19 (by decide) rfl (fun w hw => mc (in_R w hw)) ty_R ty_R_ok nm_R (mc m_fl_R_27) rfl rfl rfl d_R_push_60 ?_
        refine g_mem (fun M5 eM5 => ?_)
        have hw := o_l hw M5 eM5
        refine g_iconst (v := 0) h d_R_push_63 (by decide) ?_
        exact g_iret h hQ d_R_push_64 hw
      · have hw := o_f c2 hw
        refine g_iconst (v := 3) h d_R_push_41 (by decide) ?_
        exact g_iret h hQ d_R_push_42 hw
    · have hw := o_f c1 hw
      refine g_iload_n h d_R_push_17 rfl rfl ?_
      refine g_aload_n h d_R_push_18 rfl rfl ?_
      refine g_getR (t := 19) (i := i0) (k := 1) (C := "FlowGate$Frame") (T := T_R) (N := 5) h hL rfl hbi0 ob_19 (by decide) rfl (t' := 21) (i' := i0) rfl rfl (fun w hw => mc (in_R w hw)) (mc m_fl_R_15) rfl d_R_push_19 ?_
      refine g_iload h d_R_push_22 rfl ?_
      obtain ⟨hv6, hw⟩ := o_in hw
      refine g_iald (t := 21) (i := i0) h hL rfl hbi0 rfl rfl hv6 d_R_push_24 ?_
      refine g_calli h (g_runSN (rest := [.int v3]) h (ct_G_widthOf hL (M.1 21 i0 (v4 : Int32).toNatClampNeg) M (p_G_widthOf (M.1 21 i0 (v4 : Int32).toNatClampNeg) M)) ⟨va_cnB 1 h.2.2.2.2.1 (g_C m_co_G_widthOf) rfl rfl rfl (h.2.2.2.2.2.2.2.2.2.2.1 ("FlowGate$Frame", 49, y_G_widthOf, "FlowGate") (by decide +kernel)) (h.2.2.2.2.1 _ (mc m_in_G)) (by decide +kernel) ⟨Nat.le_of_ble_eq_true rfl, Nat.le_of_ble_eq_true rfl⟩, h.2.2.2.2.1 _ (mc m_st_G_widthOf), trivial⟩ rfl rfl (Nat.le_of_ble_eq_true rfl) d_R_push_25) ?_
      refine g_topi (fun r8 er8 => ?_)
      have hw := o_l hw r8 er8
      refine g_iadd h d_R_push_28 ?_
      refine g_topi (fun n9 en9 => ?_)
      have hw := o_l hw n9 en9
      refine g_istore_n (lv' := [(3, .int n9), (0, .ref (za Z 19 i0)), (1, .int v1), (2, .int v2), (4, .int v4)]) h d_R_push_29 rfl (by decide) rfl ?_
      refine g_iinc (n' := 1) (lw := fun y => [(4, .int y), (3, .int n9), (0, .ref (za Z 19 i0)), (1, .int v1), (2, .int v2)]) h d_R_push_30 rfl (by decide) (by decide) (fun _ => rfl) (fun n10 en10 => ?_)
      have hw := o_l hw n10 en10
      refine g_goto (tgt := 8) h d_R_push_33 (by decide) ?_
      refine g_sub [2, 3, 4, 1, 0] rfl ?_
      exact hK8 i0 v1 v2 n9 n10 M hbi0 hw
set_option maxHeartbeats 4000000 in
set_option maxRecDepth 100000 in
theorem ct_R_push {Z : ZT} (hL : Lay Z sC) (i0 : Nat) (v1 : Int32) (v2 : Int32) (M : Mm) (hbi0 : i0 < cnt 19) {res : Int32 × Mm} (hw : F_R_push i0 v1 v2 M = some res) : CtI Z y_R_push ws_R_push (({ frames := 1, cells := 0, slots := 0, locals := 20 })) [.ref (za Z 19 i0), .int v1, .int v2] M res := by
  refine CtI.of hL (cc := c_R_push) (maxL := 5) (by decide) rfl (Nat.le_of_ble_eq_true rfl) (fun X h hQ => ?_)
  show G Z X M 0 [(0, .ref (za Z 19 i0)), (1, .int v1), (2, .int v2)] []
  rw [F_R_push] at hw
  refine g_iload_n h d_R_push_0 rfl rfl ?_
  refine g_calli h (g_runSN (rest := []) h (ct_G_widthOf hL v1 M (p_G_widthOf v1 M)) ⟨va_cnB 1 h.2.2.2.2.1 (g_C m_co_G_widthOf) rfl rfl rfl (h.2.2.2.2.2.2.2.2.2.2.1 ("FlowGate$Frame", 49, y_G_widthOf, "FlowGate") (by decide +kernel)) (h.2.2.2.2.1 _ (mc m_in_G)) (by decide +kernel) ⟨Nat.le_of_ble_eq_true rfl, Nat.le_of_ble_eq_true rfl⟩, h.2.2.2.2.1 _ (mc m_st_G_widthOf), trivial⟩ rfl rfl (Nat.le_of_ble_eq_true rfl) d_R_push_1) ?_
  refine g_topi (fun r12 er12 => ?_)
  have hw := o_l hw r12 er12
  refine g_istore_n (lv' := [(3, .int r12), (0, .ref (za Z 19 i0)), (1, .int v1), (2, .int v2)]) h d_R_push_4 rfl (by decide) rfl ?_
  refine g_iconst (v := 0) h d_R_push_5 (by decide) ?_
  refine g_istore (lv' := [(4, .int 0), (3, .int r12), (0, .ref (za Z 19 i0)), (1, .int v1), (2, .int v2)]) h d_R_push_6 (by decide) rfl ?_
  refine g_sub [2, 3, 4, 1, 0] rfl ?_
  exact w_R_push_b8 hL h hQ  fuel i0 v1 v2 r12 0 M hbi0 hw
set_option maxHeartbeats 4000000 in
set_option maxRecDepth 100000 in
theorem ct_W_load {Z : ZT} (hL : Lay Z sC) (v1 : Int32) (M : Mm)  {res : Int32 × Mm} (hw : F_W_load v1 M = some res) : CtI Z y_W_load ws_W_load (({ frames := 3, cells := 0, slots := 0, locals := 65 })) [.ref (za Z 14 0), .int v1] M res := by
  refine CtI.of hL (cc := c_W_load) (maxL := 3) (by decide) rfl (Nat.le_of_ble_eq_true rfl) (fun X h hQ => ?_)
  show G Z X M 0 [(0, .ref (za Z 14 0)), (1, .int v1)] []
  rw [F_W_load] at hw
  refine g_aload_n h d_W_load_0 rfl rfl ?_
  refine g_getR (t := 14) (i := 0) (k := 6) (C := "FlowGate$Flow") (T := T_W) (N := 12) h hL rfl (by decide) ob_14 (by decide) rfl (t' := 19) (i' := 0) rfl rfl (fun w hw => mc (in_W w hw)) (mc m_fl_W_29) rfl d_W_load_1 ?_
  refine g_getR (t := 19) (i := 0) (k := 0) (C := "FlowGate$Frame") (T := T_R) (N := 5) h hL rfl (by decide) ob_19 (by decide) rfl (t' := 20) (i' := 0) rfl rfl (fun w hw => mc (in_R w hw)) (mc m_fl_W_153) rfl d_W_load_4 ?_
  refine g_iload_n h d_W_load_7 rfl rfl ?_
  obtain ⟨hv1, hw⟩ := o_in hw
  refine g_iald (t := 20) (i := 0) h hL rfl (by decide) rfl rfl hv1 d_W_load_8 ?_
  refine g_topi (fun n2 en2 => ?_)
  have hw := o_l hw n2 en2
  refine g_istore_n (lv' := [(2, .int n2), (0, .ref (za Z 14 0)), (1, .int v1)]) h d_W_load_9 rfl (by decide) rfl ?_
  refine g_iload_n h d_W_load_10 rfl rfl ?_
  refine g_if_eq (tgt := 30) h d_W_load_11 (by decide) (fun c3 => ?_) (fun c3 => ?_)
  · have hw := o_t c3 hw
    refine g_iconst (v := 2) h d_W_load_30 (by decide) ?_
    exact g_iret h hQ d_W_load_31 hw
  · have hw := o_f c3 hw
    refine g_iload_n h d_W_load_14 rfl rfl ?_
    refine g_calli h (g_runSN (rest := []) h (ct_G_isReturn hL n2 M (p_G_isReturn n2 M)) ⟨va_cnB 1 h.2.2.2.2.1 (g_C m_co_G_isReturn) rfl rfl rfl (h.2.2.2.2.2.2.2.2.2.2.1 ("FlowGate$Flow", 208, y_G_isReturn, "FlowGate") (by decide +kernel)) (h.2.2.2.2.1 _ (mc m_in_G)) (by decide +kernel) ⟨Nat.le_of_ble_eq_true rfl, Nat.le_of_ble_eq_true rfl⟩, h.2.2.2.2.1 _ (mc m_st_G_isReturn), trivial⟩ rfl rfl (Nat.le_of_ble_eq_true rfl) d_W_load_15) ?_
    refine g_topi (fun r5 er5 => ?_)
    have hw := o_l hw r5 er5
    refine g_if_ne (tgt := 30) h d_W_load_18 (by decide) (fun c6 => ?_) (fun c6 => ?_)
    · have hw := o_f c6 hw
      refine g_iconst (v := 2) h d_W_load_30 (by decide) ?_
      exact g_iret h hQ d_W_load_31 hw
    · have hw := o_t c6 hw
      refine g_aload_n h d_W_load_21 rfl rfl ?_
      refine g_iload_n h d_W_load_22 rfl rfl ?_
      refine g_iload_n h d_W_load_23 rfl rfl ?_
      refine g_calli h (g_runV (rest := []) h (ct_W_fitsLocal hL v1 n2 M (p_W_fitsLocal v1 n2 M)) (cwV 2 h.2.2.2.2.1 (g_V m_ml_W_212 m_im_W_fitsLocal m_se_W_fitsLocal m_in_W m_co_W_fitsLocal) rfl rfl rfl (by decide +kernel) ⟨Nat.le_of_ble_eq_true rfl, Nat.le_of_ble_eq_true rfl⟩) (hL.recv h rfl (by decide) ob_14) rfl rfl (Nat.le_of_ble_eq_true rfl) d_W_load_24) ?_
      refine g_topi (fun r8 er8 => ?_)
      have hw := o_l hw r8 er8
      refine g_if_ne (tgt := 32) h d_W_load_27 (by decide) (fun c9 => ?_) (fun c9 => ?_)
      · have hw := o_f c9 hw
        refine g_aload_n h d_W_load_32 rfl rfl ?_
        refine g_getR (t := 14) (i := 0) (k := 6) (C := "FlowGate$Flow") (T := T_W) (N := 12) h hL rfl (by decide) ob_14 (by decide) rfl (t' := 19) (i' := 0) rfl rfl (fun w hw => mc (in_W w hw)) (mc m_fl_W_29) rfl d_W_load_33 ?_
        refine g_iload_n h d_W_load_36 rfl rfl ?_
        refine g_iload_n h d_W_load_37 rfl rfl ?_
        obtain ⟨M11, hc10, hw⟩ := o_v hw
        refine g_callv h (g_runV (rest := []) h (ct_R_touch hL 0 v1 n2 M (by decide) hc10) (cwV 2 h.2.2.2.2.1 (g_V m_ml_W_215 m_im_R_touch m_se_R_touch m_in_R m_co_R_touch) rfl rfl rfl (by decide +kernel) ⟨Nat.le_of_ble_eq_true rfl, Nat.le_of_ble_eq_true rfl⟩) (hL.recv h rfl (by decide) ob_19) rfl rfl (Nat.le_of_ble_eq_true rfl) d_W_load_38) ?_
        refine g_aload_n h d_W_load_41 rfl rfl ?_
        refine g_getR (t := 14) (i := 0) (k := 6) (C := "FlowGate$Flow") (T := T_W) (N := 12) h hL rfl (by decide) ob_14 (by decide) rfl (t' := 19) (i' := 0) rfl rfl (fun w hw => mc (in_W w hw)) (mc m_fl_W_29) rfl d_W_load_42 ?_
        refine g_iload_n h d_W_load_45 rfl rfl ?_
        refine g_aload_n h d_W_load_46 rfl rfl ?_
        refine g_getR (t := 14) (i := 0) (k := 1) (C := "FlowGate$Flow") (T := T_W) (N := 12) h hL rfl (by decide) ob_14 (by decide) rfl (t' := 4) (i' := 0) rfl rfl (fun w hw => mc (in_W w hw)) (mc m_fl_W_40) rfl d_W_load_47 ?_
        refine g_getI (t := 4) (i := 0) (k := 13) (C := "FlowGate$Method") (T := T_M) (N := 14) h hL rfl (by decide) ob_4 (by decide) rfl (fun w hw => mc (in_M w hw)) (mc m_fl_W_116) rfl d_W_load_50 ?_
        obtain ⟨r14, M13, hc12, hw⟩ := o_b hw
        refine g_calli h (g_runV (rest := []) h (ct_R_push hL 0 n2 (M11.1 4 0 13) M11 (by decide) hc12) (cwV 2 h.2.2.2.2.1 (g_V m_ml_W_200 m_im_R_push m_se_R_push m_in_R m_co_R_push) rfl rfl rfl (by decide +kernel) ⟨Nat.le_of_ble_eq_true rfl, Nat.le_of_ble_eq_true rfl⟩) (hL.recv h rfl (by decide) ob_19) rfl rfl (Nat.le_of_ble_eq_true rfl) d_W_load_53) ?_
        exact g_iret h hQ d_W_load_56 hw
      · have hw := o_t c9 hw
        refine g_iconst (v := 2) h d_W_load_30 (by decide) ?_
        exact g_iret h hQ d_W_load_31 hw
set_option maxHeartbeats 4000000 in
set_option maxRecDepth 100000 in
theorem ct_R_top {Z : ZT} (hL : Lay Z sC) (i0 : Nat) (v1 : Int32) (M : Mm) (hbi0 : i0 < cnt 19) {res : Int32 × Mm} (hw : F_R_top i0 v1 M = some res) : CtI Z y_R_top ws_R_top (({ frames := 0, cells := 0, slots := 0, locals := 0 })) [.ref (za Z 19 i0), .int v1] M res := by
  refine CtI.of hL (cc := c_R_top) (maxL := 2) (by decide) rfl (Nat.le_of_ble_eq_true rfl) (fun X h hQ => ?_)
  show G Z X M 0 [(0, .ref (za Z 19 i0)), (1, .int v1)] []
  rw [F_R_top] at hw
  refine g_iload_n h d_R_top_0 rfl rfl ?_
  refine g_aload_n h d_R_top_1 rfl rfl ?_
  refine g_getI (t := 19) (i := i0) (k := 2) (C := "FlowGate$Frame") (T := T_R) (N := 5) h hL rfl hbi0 ob_19 (by decide) rfl (fun w hw => mc (in_R w hw)) (mc m_fl_R_27) rfl d_R_top_2 ?_
  refine g_icmp_ge (tgt := 24) h d_R_top_5 (by decide) (fun c1 => ?_) (fun c1 => ?_)
  · have hw := o_t c1 hw
    refine g_iconst (v := -1) h d_R_top_24 (by decide) ?_
    exact g_iret h hQ d_R_top_25 hw
  · have hw := o_f c1 hw
    refine g_aload_n h d_R_top_8 rfl rfl ?_
    refine g_getR (t := 19) (i := i0) (k := 1) (C := "FlowGate$Frame") (T := T_R) (N := 5) h hL rfl hbi0 ob_19 (by decide) rfl (t' := 21) (i' := i0) rfl rfl (fun w hw => mc (in_R w hw)) (mc m_fl_R_15) rfl d_R_top_9 ?_
    refine g_aload_n h d_R_top_12 rfl rfl ?_
    refine g_getI (t := 19) (i := i0) (k := 2) (C := "FlowGate$Frame") (T := T_R) (N := 5) h hL rfl hbi0 ob_19 (by decide) rfl (fun w hw => mc (in_R w hw)) (mc m_fl_R_27) rfl d_R_top_13 ?_
    refine g_iconst (v := 1) h d_R_top_16 (by decide) ?_
    refine g_isub h d_R_top_17 ?_
    refine g_iload_n h d_R_top_18 rfl rfl ?_
    refine g_isub h d_R_top_19 ?_
    obtain ⟨hv2, hw⟩ := o_in hw
    refine g_iald (t := 21) (i := i0) h hL rfl hbi0 rfl rfl hv2 d_R_top_20 ?_
    refine g_goto (tgt := 25) h d_R_top_21 (by decide) ?_
    exact g_iret h hQ d_R_top_25 hw
set_option maxHeartbeats 4000000 in
set_option maxRecDepth 100000 in
theorem ct_R_drop {Z : ZT} (hL : Lay Z sC) (i0 : Nat) (v1 : Int32) (M : Mm) (hbi0 : i0 < cnt 19) {res : Mm} (hw : F_R_drop i0 v1 M = some res) : CtV Z y_R_drop ws_R_drop (({ frames := 0, cells := 0, slots := 0, locals := 0 })) [.ref (za Z 19 i0), .int v1] M res := by
  refine CtV.of hL (cc := c_R_drop) (maxL := 2) (by decide) rfl (Nat.le_of_ble_eq_true rfl) (fun X h hQ => ?_)
  show G Z X M 0 [(0, .ref (za Z 19 i0)), (1, .int v1)] []
  rw [F_R_drop] at hw
  refine g_aload_n h d_R_drop_0 rfl rfl ?_
  refine g_dup h d_R_drop_1 rfl ?_
  refine g_getI (t := 19) (i := i0) (k := 2) (C := "FlowGate$Frame") (T := T_R) (N := 5) h hL rfl hbi0 ob_19 (by decide) rfl (fun w hw => mc (in_R w hw)) (mc m_fl_R_27) rfl d_R_drop_2 ?_
  refine g_iload_n h d_R_drop_5 rfl rfl ?_
  refine g_isub h d_R_drop_6 ?_
  refine g_putI (t := 19) (i := i0) (k := 2) (C := "FlowGate$Frame") (T := T_R) (N := 5) h hL rfl hbi0 ob_19 (by decide) rfl (fun w hw => mc (in_R w hw)) ty_R ty_R_ok nm_R (mc m_fl_R_27) rfl rfl rfl d_R_drop_7 ?_
  refine g_mem (fun M1 eM1 => ?_)
  have hw := o_l hw M1 eM1
  exact g_vret h hQ d_R_drop_10 hw
set_option maxHeartbeats 4000000 in
set_option maxRecDepth 100000 in
theorem w_R_store_b27 {Z : ZT} {X : XT} (hL : Lay Z sC) (h : Ok Z X "FlowGate$Frame" c_R_store ws_R_store 3 ({ frames := 1, cells := 0, slots := 0, locals := 20 })) {res : Mm} (hQ : FinV Z X res)  (i0 : Nat) (v1 : Int32) (v2 : Int32) (M : Mm) (hbi0 : i0 < cnt 19) (hw : F_R_store_b27 i0 v1 v2 M = some res) : G Z X M 27 [(0, .ref (za Z 19 i0)), (1, .int v1), (2, .int v2)] [] := by
  rw [F_R_store_b27] at hw
  refine g_aload_n h d_R_store_27 rfl rfl ?_
  refine g_getR (t := 19) (i := i0) (k := 0) (C := "FlowGate$Frame") (T := T_R) (N := 5) h hL rfl hbi0 ob_19 (by decide) rfl (t' := 20) (i' := i0) rfl rfl (fun w hw => mc (in_R w hw)) (mc m_fl_R_9) rfl d_R_store_28 ?_
  refine g_iload_n h d_R_store_31 rfl rfl ?_
  refine g_iload_n h d_R_store_32 rfl rfl ?_
  obtain ⟨hv1, hw⟩ := o_in hw
  refine g_iast (t := 20) (i := i0) h hL rfl hbi0 rfl rfl hv1 d_R_store_33 ?_
  refine g_mem (fun M2 eM2 => ?_)
  have hw := o_l hw M2 eM2
  refine g_iload_n h d_R_store_34 rfl rfl ?_
  refine g_calli h (g_runSN (rest := []) h (ct_G_isWide hL v2 M2 (p_G_isWide v2 M2)) ⟨va_cnB 1 h.2.2.2.2.1 (g_C m_co_G_isWide) rfl rfl rfl (h.2.2.2.2.2.2.2.2.2.2.1 ("FlowGate$Frame", 65, y_G_isWide, "FlowGate") (by decide +kernel)) (h.2.2.2.2.1 _ (mc m_in_G)) (by decide +kernel) ⟨Nat.le_of_ble_eq_true rfl, Nat.le_of_ble_eq_true rfl⟩, h.2.2.2.2.1 _ (mc m_st_G_isWide), trivial⟩ rfl rfl (Nat.le_of_ble_eq_true rfl) d_R_store_35) ?_
  refine g_topi (fun r4 er4 => ?_)
  have hw := o_l hw r4 er4
  refine g_if_eq (tgt := 50) h d_R_store_38 (by decide) (fun c5 => ?_) (fun c5 => ?_)
  · have hw := o_t c5 hw
    exact g_vret h hQ d_R_store_50 hw
  · have hw := o_f c5 hw
    refine g_aload_n h d_R_store_41 rfl rfl ?_
    refine g_getR (t := 19) (i := i0) (k := 0) (C := "FlowGate$Frame") (T := T_R) (N := 5) h hL rfl hbi0 ob_19 (by decide) rfl (t' := 20) (i' := i0) rfl rfl (fun w hw => mc (in_R w hw)) (mc m_fl_R_9) rfl d_R_store_42 ?_
    refine g_iload_n h d_R_store_45 rfl rfl ?_
    refine g_iconst (v := 1) h d_R_store_46 (by decide) ?_
    refine g_iadd h d_R_store_47 ?_
    refine g_iconst (v := 0) h d_R_store_48 (by decide) ?_
    obtain ⟨hv6, hw⟩ := o_in hw
    refine g_iast (t := 20) (i := i0) h hL rfl hbi0 rfl rfl hv6 d_R_store_49 ?_
    refine g_mem (fun M7 eM7 => ?_)
    have hw := o_l hw M7 eM7
    exact g_vret h hQ d_R_store_50 hw
set_option maxHeartbeats 4000000 in
set_option maxRecDepth 100000 in
theorem ct_R_store {Z : ZT} (hL : Lay Z sC) (i0 : Nat) (v1 : Int32) (v2 : Int32) (M : Mm) (hbi0 : i0 < cnt 19) {res : Mm} (hw : F_R_store i0 v1 v2 M = some res) : CtV Z y_R_store ws_R_store (({ frames := 1, cells := 0, slots := 0, locals := 20 })) [.ref (za Z 19 i0), .int v1, .int v2] M res := by
  refine CtV.of hL (cc := c_R_store) (maxL := 3) (by decide) rfl (Nat.le_of_ble_eq_true rfl) (fun X h hQ => ?_)
  show G Z X M 0 [(0, .ref (za Z 19 i0)), (1, .int v1), (2, .int v2)] []
  rw [F_R_store] at hw
  refine g_iload_n h d_R_store_0 rfl rfl ?_
  refine g_if_le (tgt := 27) h d_R_store_1 (by decide) (fun c8 => ?_) (fun c8 => ?_)
  · have hw := o_t c8 hw
    refine g_sub [0, 1, 2] rfl ?_
    exact w_R_store_b27 hL h hQ  i0 v1 v2 M hbi0 hw
  · have hw := o_f c8 hw
    refine g_aload_n h d_R_store_4 rfl rfl ?_
    refine g_getR (t := 19) (i := i0) (k := 0) (C := "FlowGate$Frame") (T := T_R) (N := 5) h hL rfl hbi0 ob_19 (by decide) rfl (t' := 20) (i' := i0) rfl rfl (fun w hw => mc (in_R w hw)) (mc m_fl_R_9) rfl d_R_store_5 ?_
    refine g_iload_n h d_R_store_8 rfl rfl ?_
    refine g_iconst (v := 1) h d_R_store_9 (by decide) ?_
    refine g_isub h d_R_store_10 ?_
    obtain ⟨hv9, hw⟩ := o_in hw
    refine g_iald (t := 20) (i := i0) h hL rfl hbi0 rfl rfl hv9 d_R_store_11 ?_
    refine g_calli h (g_runSN (rest := []) h (ct_G_isWide hL (M.1 20 i0 (v1 - 1 : Int32).toNatClampNeg) M (p_G_isWide (M.1 20 i0 (v1 - 1 : Int32).toNatClampNeg) M)) ⟨va_cnB 1 h.2.2.2.2.1 (g_C m_co_G_isWide) rfl rfl rfl (h.2.2.2.2.2.2.2.2.2.2.1 ("FlowGate$Frame", 65, y_G_isWide, "FlowGate") (by decide +kernel)) (h.2.2.2.2.1 _ (mc m_in_G)) (by decide +kernel) ⟨Nat.le_of_ble_eq_true rfl, Nat.le_of_ble_eq_true rfl⟩, h.2.2.2.2.1 _ (mc m_st_G_isWide), trivial⟩ rfl rfl (Nat.le_of_ble_eq_true rfl) d_R_store_12) ?_
    refine g_topi (fun r11 er11 => ?_)
    have hw := o_l hw r11 er11
    refine g_if_eq (tgt := 27) h d_R_store_15 (by decide) (fun c12 => ?_) (fun c12 => ?_)
    · have hw := o_t c12 hw
      refine g_sub [0, 1, 2] rfl ?_
      exact w_R_store_b27 hL h hQ  i0 v1 v2 M hbi0 hw
    · have hw := o_f c12 hw
      refine g_aload_n h d_R_store_18 rfl rfl ?_
      refine g_getR (t := 19) (i := i0) (k := 0) (C := "FlowGate$Frame") (T := T_R) (N := 5) h hL rfl hbi0 ob_19 (by decide) rfl (t' := 20) (i' := i0) rfl rfl (fun w hw => mc (in_R w hw)) (mc m_fl_R_9) rfl d_R_store_19 ?_
      refine g_iload_n h d_R_store_22 rfl rfl ?_
      refine g_iconst (v := 1) h d_R_store_23 (by decide) ?_
      refine g_isub h d_R_store_24 ?_
      refine g_iconst (v := 0) h d_R_store_25 (by decide) ?_
      obtain ⟨hv13, hw⟩ := o_in hw
      refine g_iast (t := 20) (i := i0) h hL rfl hbi0 rfl rfl hv13 d_R_store_26 ?_
      refine g_mem (fun M14 eM14 => ?_)
      have hw := o_l hw M14 eM14
      refine g_sub [0, 1, 2] rfl ?_
      exact w_R_store_b27 hL h hQ  i0 v1 v2 M14 hbi0 hw
set_option maxHeartbeats 4000000 in
set_option maxRecDepth 100000 in
theorem ct_W_store {Z : ZT} (hL : Lay Z sC) (v1 : Int32) (M : Mm)  {res : Int32 × Mm} (hw : F_W_store v1 M = some res) : CtI Z y_W_store ws_W_store (({ frames := 3, cells := 0, slots := 0, locals := 65 })) [.ref (za Z 14 0), .int v1] M res := by
  refine CtI.of hL (cc := c_W_store) (maxL := 3) (by decide) rfl (Nat.le_of_ble_eq_true rfl) (fun X h hQ => ?_)
  show G Z X M 0 [(0, .ref (za Z 14 0)), (1, .int v1)] []
  rw [F_W_store] at hw
  refine g_aload_n h d_W_store_0 rfl rfl ?_
  refine g_getR (t := 14) (i := 0) (k := 6) (C := "FlowGate$Flow") (T := T_W) (N := 12) h hL rfl (by decide) ob_14 (by decide) rfl (t' := 19) (i' := 0) rfl rfl (fun w hw => mc (in_W w hw)) (mc m_fl_W_29) rfl d_W_store_1 ?_
  refine g_iconst (v := 0) h d_W_store_4 (by decide) ?_
  obtain ⟨r3, M2, hc1, hw⟩ := o_b hw
  refine g_calli h (g_runV (rest := []) h (ct_R_top hL 0 0 M (by decide) hc1) (cwV 1 h.2.2.2.2.1 (g_V m_ml_W_219 m_im_R_top m_se_R_top m_in_R m_co_R_top) rfl rfl rfl (by decide +kernel) ⟨Nat.le_of_ble_eq_true rfl, Nat.le_of_ble_eq_true rfl⟩) (hL.recv h rfl (by decide) ob_19) rfl rfl (Nat.le_of_ble_eq_true rfl) d_W_store_5) ?_
  refine g_istore_n (lv' := [(2, .int r3), (0, .ref (za Z 14 0)), (1, .int v1)]) h d_W_store_8 rfl (by decide) rfl ?_
  refine g_iload_n h d_W_store_9 rfl rfl ?_
  refine g_iconst (v := -1) h d_W_store_10 (by decide) ?_
  refine g_icmp_eq (tgt := 27) h d_W_store_11 (by decide) (fun c4 => ?_) (fun c4 => ?_)
  · have hw := o_t c4 hw
    refine g_iconst (v := 2) h d_W_store_27 (by decide) ?_
    exact g_iret h hQ d_W_store_28 hw
  · have hw := o_f c4 hw
    refine g_iload_n h d_W_store_14 rfl rfl ?_
    refine g_if_eq (tgt := 27) h d_W_store_15 (by decide) (fun c5 => ?_) (fun c5 => ?_)
    · have hw := o_t c5 hw
      refine g_iconst (v := 2) h d_W_store_27 (by decide) ?_
      exact g_iret h hQ d_W_store_28 hw
    · have hw := o_f c5 hw
      refine g_aload_n h d_W_store_18 rfl rfl ?_
      refine g_iload_n h d_W_store_19 rfl rfl ?_
      refine g_iload_n h d_W_store_20 rfl rfl ?_
      refine g_calli h (g_runV (rest := []) h (ct_W_fitsLocal hL v1 r3 M2 (p_W_fitsLocal v1 r3 M2)) (cwV 2 h.2.2.2.2.1 (g_V m_ml_W_212 m_im_W_fitsLocal m_se_W_fitsLocal m_in_W m_co_W_fitsLocal) rfl rfl rfl (by decide +kernel) ⟨Nat.le_of_ble_eq_true rfl, Nat.le_of_ble_eq_true rfl⟩) (hL.recv h rfl (by decide) ob_14) rfl rfl (Nat.le_of_ble_eq_true rfl) d_W_store_21) ?_
      refine g_topi (fun r7 er7 => ?_)
      have hw := o_l hw r7 er7
      refine g_if_ne (tgt := 29) h d_W_store_24 (by decide) (fun c8 => ?_) (fun c8 => ?_)
      · have hw := o_f c8 hw
        refine g_aload_n h d_W_store_29 rfl rfl ?_
        refine g_getR (t := 14) (i := 0) (k := 6) (C := "FlowGate$Flow") (T := T_W) (N := 12) h hL rfl (by decide) ob_14 (by decide) rfl (t' := 19) (i' := 0) rfl rfl (fun w hw => mc (in_W w hw)) (mc m_fl_W_29) rfl d_W_store_30 ?_
        refine g_iconst (v := 1) h d_W_store_33 (by decide) ?_
        obtain ⟨M10, hc9, hw⟩ := o_v hw
        refine g_callv h (g_runV (rest := []) h (ct_R_drop hL 0 1 M2 (by decide) hc9) (cwV 1 h.2.2.2.2.1 (g_V m_ml_W_197 m_im_R_drop m_se_R_drop m_in_R m_co_R_drop) rfl rfl rfl (by decide +kernel) ⟨Nat.le_of_ble_eq_true rfl, Nat.le_of_ble_eq_true rfl⟩) (hL.recv h rfl (by decide) ob_19) rfl rfl (Nat.le_of_ble_eq_true rfl) d_W_store_34) ?_
        refine g_aload_n h d_W_store_37 rfl rfl ?_
        refine g_getR (t := 14) (i := 0) (k := 6) (C := "FlowGate$Flow") (T := T_W) (N := 12) h hL rfl (by decide) ob_14 (by decide) rfl (t' := 19) (i' := 0) rfl rfl (fun w hw => mc (in_W w hw)) (mc m_fl_W_29) rfl d_W_store_38 ?_
        refine g_iload_n h d_W_store_41 rfl rfl ?_
        refine g_iload_n h d_W_store_42 rfl rfl ?_
        obtain ⟨M12, hc11, hw⟩ := o_v hw
        refine g_callv h (g_runV (rest := []) h (ct_R_store hL 0 v1 r3 M10 (by decide) hc11) (cwV 2 h.2.2.2.2.1 (g_V m_ml_W_222 m_im_R_store m_se_R_store m_in_R m_co_R_store) rfl rfl rfl (by decide +kernel) ⟨Nat.le_of_ble_eq_true rfl, Nat.le_of_ble_eq_true rfl⟩) (hL.recv h rfl (by decide) ob_19) rfl rfl (Nat.le_of_ble_eq_true rfl) d_W_store_43) ?_
        refine g_aload_n h d_W_store_46 rfl rfl ?_
        refine g_getR (t := 14) (i := 0) (k := 6) (C := "FlowGate$Flow") (T := T_W) (N := 12) h hL rfl (by decide) ob_14 (by decide) rfl (t' := 19) (i' := 0) rfl rfl (fun w hw => mc (in_W w hw)) (mc m_fl_W_29) rfl d_W_store_47 ?_
        refine g_iload_n h d_W_store_50 rfl rfl ?_
        refine g_iload_n h d_W_store_51 rfl rfl ?_
        obtain ⟨M14, hc13, hw⟩ := o_v hw
        refine g_callv h (g_runV (rest := []) h (ct_R_touch hL 0 v1 r3 M12 (by decide) hc13) (cwV 2 h.2.2.2.2.1 (g_V m_ml_W_215 m_im_R_touch m_se_R_touch m_in_R m_co_R_touch) rfl rfl rfl (by decide +kernel) ⟨Nat.le_of_ble_eq_true rfl, Nat.le_of_ble_eq_true rfl⟩) (hL.recv h rfl (by decide) ob_19) rfl rfl (Nat.le_of_ble_eq_true rfl) d_W_store_52) ?_
        refine g_iconst (v := 0) h d_W_store_55 (by decide) ?_
        exact g_iret h hQ d_W_store_56 hw
      · have hw := o_t c8 hw
        refine g_iconst (v := 2) h d_W_store_27 (by decide) ?_
        exact g_iret h hQ d_W_store_28 hw
set_option maxHeartbeats 4000000 in
set_option maxRecDepth 100000 in
theorem ct_W_increase {Z : ZT} (hL : Lay Z sC) (v1 : Int32) (M : Mm)  {res : Int32 × Mm} (hw : F_W_increase v1 M = some res) : CtI Z y_W_increase ws_W_increase (({ frames := 3, cells := 0, slots := 0, locals := 65 })) [.ref (za Z 14 0), .int v1] M res := by
  refine CtI.of hL (cc := c_W_increase) (maxL := 2) (by decide) rfl (Nat.le_of_ble_eq_true rfl) (fun X h hQ => ?_)
  show G Z X M 0 [(0, .ref (za Z 14 0)), (1, .int v1)] []
  rw [F_W_increase] at hw
  refine g_aload_n h d_W_increase_0 rfl rfl ?_
  refine g_getR (t := 14) (i := 0) (k := 6) (C := "FlowGate$Flow") (T := T_W) (N := 12) h hL rfl (by decide) ob_14 (by decide) rfl (t' := 19) (i' := 0) rfl rfl (fun w hw => mc (in_W w hw)) (mc m_fl_W_29) rfl d_W_increase_1 ?_
  refine g_getR (t := 19) (i := 0) (k := 0) (C := "FlowGate$Frame") (T := T_R) (N := 5) h hL rfl (by decide) ob_19 (by decide) rfl (t' := 20) (i' := 0) rfl rfl (fun w hw => mc (in_R w hw)) (mc m_fl_W_153) rfl d_W_increase_4 ?_
  refine g_iload_n h d_W_increase_7 rfl rfl ?_
  obtain ⟨hv1, hw⟩ := o_in hw
  refine g_iald (t := 20) (i := 0) h hL rfl (by decide) rfl rfl hv1 d_W_increase_8 ?_
  refine g_iconst (v := 1) h d_W_increase_9 (by decide) ?_
  refine g_icmp_eq (tgt := 15) h d_W_increase_10 (by decide) (fun c2 => ?_) (fun c2 => ?_)
  · have hw := o_t c2 hw
    refine g_aload_n h d_W_increase_15 rfl rfl ?_
    refine g_getR (t := 14) (i := 0) (k := 6) (C := "FlowGate$Flow") (T := T_W) (N := 12) h hL rfl (by decide) ob_14 (by decide) rfl (t' := 19) (i' := 0) rfl rfl (fun w hw => mc (in_W w hw)) (mc m_fl_W_29) rfl d_W_increase_16 ?_
    refine g_iload_n h d_W_increase_19 rfl rfl ?_
    refine g_iconst (v := 1) h d_W_increase_20 (by decide) ?_
    obtain ⟨M4, hc3, hw⟩ := o_v hw
    refine g_callv h (g_runV (rest := []) h (ct_R_touch hL 0 v1 1 M (by decide) hc3) (cwV 2 h.2.2.2.2.1 (g_V m_ml_W_215 m_im_R_touch m_se_R_touch m_in_R m_co_R_touch) rfl rfl rfl (by decide +kernel) ⟨Nat.le_of_ble_eq_true rfl, Nat.le_of_ble_eq_true rfl⟩) (hL.recv h rfl (by decide) ob_19) rfl rfl (Nat.le_of_ble_eq_true rfl) d_W_increase_21) ?_
    refine g_iconst (v := 0) h d_W_increase_24 (by decide) ?_
    exact g_iret h hQ d_W_increase_25 hw
  · have hw := o_f c2 hw
    refine g_iconst (v := 2) h d_W_increase_13 (by decide) ?_
    exact g_iret h hQ d_W_increase_14 hw
set_option maxHeartbeats 4000000 in
set_option maxRecDepth 100000 in
theorem ct_W_prepareReturn {Z : ZT} (hL : Lay Z sC) (v1 : Int32) (v2 : Int32) (M : Mm)  {res : Int32 × Mm} (hw : F_W_prepareReturn v1 v2 M = some res) : CtI Z y_W_prepareReturn ws_W_prepareReturn (({ frames := 3, cells := 0, slots := 0, locals := 65 })) [.ref (za Z 14 0), .int v1, .int v2] M res := by
  refine CtI.of hL (cc := c_W_prepareReturn) (maxL := 5) (by decide) rfl (Nat.le_of_ble_eq_true rfl) (fun X h hQ => ?_)
  show G Z X M 0 [(0, .ref (za Z 14 0)), (1, .int v1), (2, .int v2)] []
  rw [F_W_prepareReturn] at hw
  refine g_aload_n h d_W_prepareReturn_0 rfl rfl ?_
  refine g_getR (t := 14) (i := 0) (k := 6) (C := "FlowGate$Flow") (T := T_W) (N := 12) h hL rfl (by decide) ob_14 (by decide) rfl (t' := 19) (i' := 0) rfl rfl (fun w hw => mc (in_W w hw)) (mc m_fl_W_29) rfl d_W_prepareReturn_1 ?_
  refine g_getR (t := 19) (i := 0) (k := 0) (C := "FlowGate$Frame") (T := T_R) (N := 5) h hL rfl (by decide) ob_19 (by decide) rfl (t' := 20) (i' := 0) rfl rfl (fun w hw => mc (in_R w hw)) (mc m_fl_W_153) rfl d_W_prepareReturn_4 ?_
  refine g_iload_n h d_W_prepareReturn_7 rfl rfl ?_
  obtain ⟨hv1, hw⟩ := o_in hw
  refine g_iald (t := 20) (i := 0) h hL rfl (by decide) rfl rfl hv1 d_W_prepareReturn_8 ?_
  refine g_topi (fun n2 en2 => ?_)
  have hw := o_l hw n2 en2
  refine g_istore_n (lv' := [(3, .int n2), (0, .ref (za Z 14 0)), (1, .int v1), (2, .int v2)]) h d_W_prepareReturn_9 rfl (by decide) rfl ?_
  refine g_iload_n h d_W_prepareReturn_10 rfl rfl ?_
  refine g_calli h (g_runSN (rest := []) h (ct_G_isReturn hL n2 M (p_G_isReturn n2 M)) ⟨va_cnB 1 h.2.2.2.2.1 (g_C m_co_G_isReturn) rfl rfl rfl (h.2.2.2.2.2.2.2.2.2.2.1 ("FlowGate$Flow", 208, y_G_isReturn, "FlowGate") (by decide +kernel)) (h.2.2.2.2.1 _ (mc m_in_G)) (by decide +kernel) ⟨Nat.le_of_ble_eq_true rfl, Nat.le_of_ble_eq_true rfl⟩, h.2.2.2.2.1 _ (mc m_st_G_isReturn), trivial⟩ rfl rfl (Nat.le_of_ble_eq_true rfl) d_W_prepareReturn_11) ?_
  refine g_topi (fun r4 er4 => ?_)
  have hw := o_l hw r4 er4
  refine g_if_ne (tgt := 19) h d_W_prepareReturn_14 (by decide) (fun c5 => ?_) (fun c5 => ?_)
  · have hw := o_f c5 hw
    refine g_iload_n h d_W_prepareReturn_19 rfl rfl ?_
    refine g_sipush (v := 2000) h d_W_prepareReturn_20 (by decide) ?_
    refine g_isub h d_W_prepareReturn_23 ?_
    refine g_topi (fun n6 en6 => ?_)
    have hw := o_l hw n6 en6
    refine g_istore (lv' := [(4, .int n6), (3, .int n2), (0, .ref (za Z 14 0)), (1, .int v1), (2, .int v2)]) h d_W_prepareReturn_24 (by decide) rfl ?_
    refine g_aload_n h d_W_prepareReturn_26 rfl rfl ?_
    refine g_getR (t := 14) (i := 0) (k := 6) (C := "FlowGate$Flow") (T := T_W) (N := 12) h hL rfl (by decide) ob_14 (by decide) rfl (t' := 19) (i' := 0) rfl rfl (fun w hw => mc (in_W w hw)) (mc m_fl_W_29) rfl d_W_prepareReturn_27 ?_
    refine g_iload h d_W_prepareReturn_30 rfl ?_
    refine g_calli h (g_runV (rest := []) h (ct_R_isIn hL 0 n6 M (by decide) (p_R_isIn 0 n6 M)) (cwV 1 h.2.2.2.2.1 (g_V m_ml_W_224 m_im_R_isIn m_se_R_isIn m_in_R m_co_R_isIn) rfl rfl rfl (by decide +kernel) ⟨Nat.le_of_ble_eq_true rfl, Nat.le_of_ble_eq_true rfl⟩) (hL.recv h rfl (by decide) ob_19) rfl rfl (Nat.le_of_ble_eq_true rfl) d_W_prepareReturn_32) ?_
    refine g_topi (fun r8 er8 => ?_)
    have hw := o_l hw r8 er8
    refine g_if_ne (tgt := 41) h d_W_prepareReturn_35 (by decide) (fun c9 => ?_) (fun c9 => ?_)
    · have hw := o_f c9 hw
      refine g_aload_n h d_W_prepareReturn_41 rfl rfl ?_
      refine g_getR (t := 14) (i := 0) (k := 6) (C := "FlowGate$Flow") (T := T_W) (N := 12) h hL rfl (by decide) ob_14 (by decide) rfl (t' := 19) (i' := 0) rfl rfl (fun w hw => mc (in_W w hw)) (mc m_fl_W_29) rfl d_W_prepareReturn_42 ?_
      refine g_iload_n h d_W_prepareReturn_45 rfl rfl ?_
      refine g_iload_n h d_W_prepareReturn_46 rfl rfl ?_
      obtain ⟨M11, hc10, hw⟩ := o_v hw
      refine g_callv h (g_runV (rest := []) h (ct_R_touch hL 0 v2 n2 M (by decide) hc10) (cwV 2 h.2.2.2.2.1 (g_V m_ml_W_215 m_im_R_touch m_se_R_touch m_in_R m_co_R_touch) rfl rfl rfl (by decide +kernel) ⟨Nat.le_of_ble_eq_true rfl, Nat.le_of_ble_eq_true rfl⟩) (hL.recv h rfl (by decide) ob_19) rfl rfl (Nat.le_of_ble_eq_true rfl) d_W_prepareReturn_47) ?_
      refine g_aload_n h d_W_prepareReturn_50 rfl rfl ?_
      refine g_getR (t := 14) (i := 0) (k := 5) (C := "FlowGate$Flow") (T := T_W) (N := 12) h hL rfl (by decide) ob_14 (by decide) rfl (t' := 18) (i' := 0) rfl rfl (fun w hw => mc (in_W w hw)) (mc m_fl_W_24) rfl d_W_prepareReturn_51 ?_
      refine g_iload_n h d_W_prepareReturn_54 rfl rfl ?_
      refine g_dup2_11 h d_W_prepareReturn_55 rfl rfl ?_
      obtain ⟨hv12, hw⟩ := o_in hw
      refine g_lald (t := 18) (i := 0) h hL rfl (by decide) rfl rfl hv12 d_W_prepareReturn_56 ?_
      refine g_lconst (v := 1) h d_W_prepareReturn_57 rfl ?_
      refine g_iload h d_W_prepareReturn_58 rfl ?_
      refine g_lshl h d_W_prepareReturn_60 ?_
      refine g_lor h d_W_prepareReturn_61 ?_
      obtain ⟨hv13, hw⟩ := o_in hw
      refine g_last (t := 18) (i := 0) h hL rfl (by decide) rfl rfl hv13 d_W_prepareReturn_62 ?_
      refine g_mem (fun M14 eM14 => ?_)
      have hw := o_l hw M14 eM14
      refine g_iconst (v := 0) h d_W_prepareReturn_63 (by decide) ?_
      exact g_iret h hQ d_W_prepareReturn_64 hw
    · have hw := o_t c9 hw
      refine g_bipush (v := 7) h d_W_prepareReturn_38 (by decide) ?_
      exact g_iret h hQ d_W_prepareReturn_40 hw
  · have hw := o_t c5 hw
    refine g_iconst (v := 2) h d_W_prepareReturn_17 (by decide) ?_
    exact g_iret h hQ d_W_prepareReturn_18 hw
set_option maxHeartbeats 4000000 in
set_option maxRecDepth 100000 in
theorem ct_R_hasNarrow {Z : ZT} (hL : Lay Z sC) (i0 : Nat) (v1 : Int32) (M : Mm) (hbi0 : i0 < cnt 19) {res : Int32 × Mm} (hw : F_R_hasNarrow i0 v1 M = some res) : CtI Z y_R_hasNarrow ws_R_hasNarrow (({ frames := 1, cells := 0, slots := 0, locals := 20 })) [.ref (za Z 19 i0), .int v1] M res := by
  refine CtI.of hL (cc := c_R_hasNarrow) (maxL := 2) (by decide) rfl (Nat.le_of_ble_eq_true rfl) (fun X h hQ => ?_)
  show G Z X M 0 [(0, .ref (za Z 19 i0)), (1, .int v1)] []
  rw [F_R_hasNarrow] at hw
  refine g_iload_n h d_R_hasNarrow_0 rfl rfl ?_
  refine g_aload_n h d_R_hasNarrow_1 rfl rfl ?_
  refine g_getI (t := 19) (i := i0) (k := 2) (C := "FlowGate$Frame") (T := T_R) (N := 5) h hL rfl hbi0 ob_19 (by decide) rfl (fun w hw => mc (in_R w hw)) (mc m_fl_R_27) rfl d_R_hasNarrow_2 ?_
  refine g_icmp_ge (tgt := 31) h d_R_hasNarrow_5 (by decide) (fun c1 => ?_) (fun c1 => ?_)
  · have hw := o_t c1 hw
    refine g_iconst (v := 0) h d_R_hasNarrow_31 (by decide) ?_
    exact g_zret h hQ d_R_hasNarrow_32 rfl hw
  · have hw := o_f c1 hw
    refine g_aload_n h d_R_hasNarrow_8 rfl rfl ?_
    refine g_getR (t := 19) (i := i0) (k := 1) (C := "FlowGate$Frame") (T := T_R) (N := 5) h hL rfl hbi0 ob_19 (by decide) rfl (t' := 21) (i' := i0) rfl rfl (fun w hw => mc (in_R w hw)) (mc m_fl_R_15) rfl d_R_hasNarrow_9 ?_
    refine g_aload_n h d_R_hasNarrow_12 rfl rfl ?_
    refine g_getI (t := 19) (i := i0) (k := 2) (C := "FlowGate$Frame") (T := T_R) (N := 5) h hL rfl hbi0 ob_19 (by decide) rfl (fun w hw => mc (in_R w hw)) (mc m_fl_R_27) rfl d_R_hasNarrow_13 ?_
    refine g_iconst (v := 1) h d_R_hasNarrow_16 (by decide) ?_
    refine g_isub h d_R_hasNarrow_17 ?_
    refine g_iload_n h d_R_hasNarrow_18 rfl rfl ?_
    refine g_isub h d_R_hasNarrow_19 ?_
    obtain ⟨hv2, hw⟩ := o_in hw
    refine g_iald (t := 21) (i := i0) h hL rfl hbi0 rfl rfl hv2 d_R_hasNarrow_20 ?_
    refine g_calli h (g_runSN (rest := []) h (ct_G_isWide hL (M.1 21 i0 ((M.1 19 i0 2) - 1 - v1 : Int32).toNatClampNeg) M (p_G_isWide (M.1 21 i0 ((M.1 19 i0 2) - 1 - v1 : Int32).toNatClampNeg) M)) ⟨va_cnB 1 h.2.2.2.2.1 (g_C m_co_G_isWide) rfl rfl rfl (h.2.2.2.2.2.2.2.2.2.2.1 ("FlowGate$Frame", 65, y_G_isWide, "FlowGate") (by decide +kernel)) (h.2.2.2.2.1 _ (mc m_in_G)) (by decide +kernel) ⟨Nat.le_of_ble_eq_true rfl, Nat.le_of_ble_eq_true rfl⟩, h.2.2.2.2.1 _ (mc m_st_G_isWide), trivial⟩ rfl rfl (Nat.le_of_ble_eq_true rfl) d_R_hasNarrow_21) ?_
    refine g_topi (fun r4 er4 => ?_)
    have hw := o_l hw r4 er4
    refine g_if_ne (tgt := 31) h d_R_hasNarrow_24 (by decide) (fun c5 => ?_) (fun c5 => ?_)
    · have hw := o_f c5 hw
      refine g_iconst (v := 0) h d_R_hasNarrow_31 (by decide) ?_
      exact g_zret h hQ d_R_hasNarrow_32 rfl hw
    · have hw := o_t c5 hw
      refine g_iconst (v := 1) h d_R_hasNarrow_27 (by decide) ?_
      refine g_goto (tgt := 32) h d_R_hasNarrow_28 (by decide) ?_
      exact g_zret h hQ d_R_hasNarrow_32 rfl hw
set_option maxHeartbeats 4000000 in
set_option maxRecDepth 100000 in
theorem ct_W_takeIf {Z : ZT} (hL : Lay Z sC) (v1 : Int32) (v2 : Int32) (M : Mm)  {res : Int32 × Mm} (hw : F_W_takeIf v1 v2 M = some res) : CtI Z y_W_takeIf ws_W_takeIf (({ frames := 1, cells := 0, slots := 0, locals := 21 })) [.ref (za Z 14 0), .int v1, .int v2] M res := by
  refine CtI.of hL (cc := c_W_takeIf) (maxL := 3) (by decide) rfl (Nat.le_of_ble_eq_true rfl) (fun X h hQ => ?_)
  show G Z X M 0 [(0, .ref (za Z 14 0)), (1, .int v1), (2, .int v2)] []
  rw [F_W_takeIf] at hw
  refine g_iload_n h d_W_takeIf_0 rfl rfl ?_
  refine g_if_ne (tgt := 6) h d_W_takeIf_1 (by decide) (fun c1 => ?_) (fun c1 => ?_)
  · have hw := o_f c1 hw
    refine g_aload_n h d_W_takeIf_6 rfl rfl ?_
    refine g_getR (t := 14) (i := 0) (k := 6) (C := "FlowGate$Flow") (T := T_W) (N := 12) h hL rfl (by decide) ob_14 (by decide) rfl (t' := 19) (i' := 0) rfl rfl (fun w hw => mc (in_W w hw)) (mc m_fl_W_29) rfl d_W_takeIf_7 ?_
    refine g_iload_n h d_W_takeIf_10 rfl rfl ?_
    obtain ⟨M3, hc2, hw⟩ := o_v hw
    refine g_callv h (g_runV (rest := []) h (ct_R_drop hL 0 v2 M (by decide) hc2) (cwV 1 h.2.2.2.2.1 (g_V m_ml_W_197 m_im_R_drop m_se_R_drop m_in_R m_co_R_drop) rfl rfl rfl (by decide +kernel) ⟨Nat.le_of_ble_eq_true rfl, Nat.le_of_ble_eq_true rfl⟩) (hL.recv h rfl (by decide) ob_19) rfl rfl (Nat.le_of_ble_eq_true rfl) d_W_takeIf_11) ?_
    refine g_iconst (v := 0) h d_W_takeIf_14 (by decide) ?_
    exact g_iret h hQ d_W_takeIf_15 hw
  · have hw := o_t c1 hw
    refine g_iconst (v := 2) h d_W_takeIf_4 (by decide) ?_
    exact g_iret h hQ d_W_takeIf_5 hw
set_option maxHeartbeats 4000000 in
set_option maxRecDepth 100000 in
theorem ct_W_pushBoth {Z : ZT} (hL : Lay Z sC) (v1 : Int32) (v2 : Int32) (M : Mm)  {res : Int32 × Mm} (hw : F_W_pushBoth v1 v2 M = some res) : CtI Z y_W_pushBoth ws_W_pushBoth (({ frames := 2, cells := 0, slots := 0, locals := 44 })) [.ref (za Z 14 0), .int v1, .int v2] M res := by
  refine CtI.of hL (cc := c_W_pushBoth) (maxL := 4) (by decide) rfl (Nat.le_of_ble_eq_true rfl) (fun X h hQ => ?_)
  show G Z X M 0 [(0, .ref (za Z 14 0)), (1, .int v1), (2, .int v2)] []
  rw [F_W_pushBoth] at hw
  refine g_aload_n h d_W_pushBoth_0 rfl rfl ?_
  refine g_getR (t := 14) (i := 0) (k := 6) (C := "FlowGate$Flow") (T := T_W) (N := 12) h hL rfl (by decide) ob_14 (by decide) rfl (t' := 19) (i' := 0) rfl rfl (fun w hw => mc (in_W w hw)) (mc m_fl_W_29) rfl d_W_pushBoth_1 ?_
  refine g_iload_n h d_W_pushBoth_4 rfl rfl ?_
  refine g_aload_n h d_W_pushBoth_5 rfl rfl ?_
  refine g_getR (t := 14) (i := 0) (k := 1) (C := "FlowGate$Flow") (T := T_W) (N := 12) h hL rfl (by decide) ob_14 (by decide) rfl (t' := 4) (i' := 0) rfl rfl (fun w hw => mc (in_W w hw)) (mc m_fl_W_40) rfl d_W_pushBoth_6 ?_
  refine g_getI (t := 4) (i := 0) (k := 13) (C := "FlowGate$Method") (T := T_M) (N := 14) h hL rfl (by decide) ob_4 (by decide) rfl (fun w hw => mc (in_M w hw)) (mc m_fl_W_116) rfl d_W_pushBoth_9 ?_
  obtain ⟨r3, M2, hc1, hw⟩ := o_b hw
  refine g_calli h (g_runV (rest := []) h (ct_R_push hL 0 v1 (M.1 4 0 13) M (by decide) hc1) (cwV 2 h.2.2.2.2.1 (g_V m_ml_W_200 m_im_R_push m_se_R_push m_in_R m_co_R_push) rfl rfl rfl (by decide +kernel) ⟨Nat.le_of_ble_eq_true rfl, Nat.le_of_ble_eq_true rfl⟩) (hL.recv h rfl (by decide) ob_19) rfl rfl (Nat.le_of_ble_eq_true rfl) d_W_pushBoth_12) ?_
  refine g_istore_n (lv' := [(3, .int r3), (0, .ref (za Z 14 0)), (1, .int v1), (2, .int v2)]) h d_W_pushBoth_15 rfl (by decide) rfl ?_
  refine g_iload_n h d_W_pushBoth_16 rfl rfl ?_
  refine g_if_ne (tgt := 38) h d_W_pushBoth_17 (by decide) (fun c4 => ?_) (fun c4 => ?_)
  · have hw := o_f c4 hw
    refine g_iload_n h d_W_pushBoth_38 rfl rfl ?_
    exact g_iret h hQ d_W_pushBoth_39 hw
  · have hw := o_t c4 hw
    refine g_aload_n h d_W_pushBoth_20 rfl rfl ?_
    refine g_getR (t := 14) (i := 0) (k := 6) (C := "FlowGate$Flow") (T := T_W) (N := 12) h hL rfl (by decide) ob_14 (by decide) rfl (t' := 19) (i' := 0) rfl rfl (fun w hw => mc (in_W w hw)) (mc m_fl_W_29) rfl d_W_pushBoth_21 ?_
    refine g_iload_n h d_W_pushBoth_24 rfl rfl ?_
    refine g_aload_n h d_W_pushBoth_25 rfl rfl ?_
    refine g_getR (t := 14) (i := 0) (k := 1) (C := "FlowGate$Flow") (T := T_W) (N := 12) h hL rfl (by decide) ob_14 (by decide) rfl (t' := 4) (i' := 0) rfl rfl (fun w hw => mc (in_W w hw)) (mc m_fl_W_40) rfl d_W_pushBoth_26 ?_
    refine g_getI (t := 4) (i := 0) (k := 13) (C := "FlowGate$Method") (T := T_M) (N := 14) h hL rfl (by decide) ob_4 (by decide) rfl (fun w hw => mc (in_M w hw)) (mc m_fl_W_116) rfl d_W_pushBoth_29 ?_
    obtain ⟨r7, M6, hc5, hw⟩ := o_b hw
    refine g_calli h (g_runV (rest := []) h (ct_R_push hL 0 v2 (M2.1 4 0 13) M2 (by decide) hc5) (cwV 2 h.2.2.2.2.1 (g_V m_ml_W_200 m_im_R_push m_se_R_push m_in_R m_co_R_push) rfl rfl rfl (by decide +kernel) ⟨Nat.le_of_ble_eq_true rfl, Nat.le_of_ble_eq_true rfl⟩) (hL.recv h rfl (by decide) ob_19) rfl rfl (Nat.le_of_ble_eq_true rfl) d_W_pushBoth_32) ?_
    refine g_goto (tgt := 39) h d_W_pushBoth_35 (by decide) ?_
    exact g_iret h hQ d_W_pushBoth_39 hw
