set_option maxHeartbeats 4000000 in
set_option maxRecDepth 100000 in
theorem ct_D_in {Z : ZT} (hL : Lay Z sD) (v0 : Int32) (v1 : Int32) (v2 : Int32) (M : Mm)  {res : Int32 × Mm} (hw : F_D_in v0 v1 v2 M = some res) : CtI Z y_D_in ws_D_in (({ frames := 0, cells := 0, slots := 0, locals := 0 })) [.int v0, .int v1, .int v2] M res := by
  refine CtI.of hL (cc := c_D_in) (maxL := 3) (by decide) rfl (Nat.le_of_ble_eq_true rfl) (fun X h hQ => ?_)
  show G Z X M 0 [(0, .int v0), (1, .int v1), (2, .int v2)] []
  rw [F_D_in] at hw
  refine g_iload_n h d_D_in_0 rfl rfl ?_
  refine g_iload_n h d_D_in_1 rfl rfl ?_
  refine g_icmp_lt (tgt := 14) h d_D_in_2 (by decide) (fun c1 => ?_) (fun c1 => ?_)
  · have hw := o_t c1 hw
    refine g_iconst (v := 0) h d_D_in_14 (by decide) ?_
    exact g_zret h hQ d_D_in_15 rfl hw
  · have hw := o_f c1 hw
    refine g_iload_n h d_D_in_5 rfl rfl ?_
    refine g_iload_n h d_D_in_6 rfl rfl ?_
    refine g_icmp_gt (tgt := 14) h d_D_in_7 (by decide) (fun c2 => ?_) (fun c2 => ?_)
    · have hw := o_t c2 hw
      refine g_iconst (v := 0) h d_D_in_14 (by decide) ?_
      exact g_zret h hQ d_D_in_15 rfl hw
    · have hw := o_f c2 hw
      refine g_iconst (v := 1) h d_D_in_10 (by decide) ?_
      refine g_goto (tgt := 15) h d_D_in_11 (by decide) ?_
      exact g_zret h hQ d_D_in_15 rfl hw
set_option maxHeartbeats 4000000 in
set_option maxRecDepth 100000 in
theorem ct_D_isClass {Z : ZT} (hL : Lay Z sD) (v1 : Int32) (M : Mm)  {res : Int32 × Mm} (hw : F_D_isClass v1 M = some res) : CtI Z y_D_isClass ws_D_isClass (({ frames := 1, cells := 0, slots := 0, locals := 22 })) [.ref (za Z 30 0), .int v1] M res := by
  refine CtI.of hL (cc := c_D_isClass) (maxL := 2) (by decide) rfl (Nat.le_of_ble_eq_true rfl) (fun X h hQ => ?_)
  show G Z X M 0 [(0, .ref (za Z 30 0)), (1, .int v1)] []
  rw [F_D_isClass] at hw
  refine g_iload_n h d_D_isClass_0 rfl rfl ?_
  refine g_bipush (v := 16) h d_D_isClass_1 (by decide) ?_
  refine g_bipush (v := 16) h d_D_isClass_3 (by decide) ?_
  refine g_aload_n h d_D_isClass_5 rfl rfl ?_
  refine g_getI (t := 30) (i := 0) (k := 2) (C := "FlowGateModel") (T := T_D) (N := 42) h hL rfl (by decide) ob_30 (by decide) rfl (fun w hw => mc (in_D w hw)) (mc m_fl_D_17) rfl d_D_isClass_6 ?_
  refine g_iadd h d_D_isClass_9 ?_
  refine g_iconst (v := 1) h d_D_isClass_10 (by decide) ?_
  refine g_isub h d_D_isClass_11 ?_
  refine g_calli h (g_runS (rest := []) h (ct_D_in hL v1 16 ((16 : Int32) + (M.1 30 0 2) - 1) M (p_D_in v1 16 ((16 : Int32) + (M.1 30 0 2) - 1) M)) (cwS 3 h.2.2.2.2.1 (g_S m_ml_D_91 m_st_D_in m_in_D m_co_D_in) rfl rfl rfl (by decide +kernel) ⟨Nat.le_of_ble_eq_true rfl, Nat.le_of_ble_eq_true rfl⟩) rfl rfl (Nat.le_of_ble_eq_true rfl) d_D_isClass_12) ?_
  refine g_topi (fun r2 er2 => ?_)
  have hw := o_l hw r2 er2
  obtain ⟨hn3, hw⟩ := o_nz hw
  exact g_zret h hQ d_D_isClass_15 hn3 hw
set_option maxHeartbeats 4000000 in
set_option maxRecDepth 100000 in
theorem ct_D_isRef {Z : ZT} (hL : Lay Z sD) (v1 : Int32) (M : Mm)  {res : Int32 × Mm} (hw : F_D_isRef v1 M = some res) : CtI Z y_D_isRef ws_D_isRef (({ frames := 2, cells := 0, slots := 0, locals := 43 })) [.ref (za Z 30 0), .int v1] M res := by
  refine CtI.of hL (cc := c_D_isRef) (maxL := 2) (by decide) rfl (Nat.le_of_ble_eq_true rfl) (fun X h hQ => ?_)
  show G Z X M 0 [(0, .ref (za Z 30 0)), (1, .int v1)] []
  rw [F_D_isRef] at hw
  refine g_aload_n h d_D_isRef_0 rfl rfl ?_
  refine g_iload_n h d_D_isRef_1 rfl rfl ?_
  refine g_calli h (g_runV (rest := []) h (ct_D_isClass hL v1 M (p_D_isClass v1 M)) (cwV 1 h.2.2.2.2.1 (g_V m_ml_D_95 m_im_D_isClass m_se_D_isClass m_in_D m_co_D_isClass) rfl rfl rfl (by decide +kernel) ⟨Nat.le_of_ble_eq_true rfl, Nat.le_of_ble_eq_true rfl⟩) (hL.recv h rfl (by decide) ob_30) rfl rfl (Nat.le_of_ble_eq_true rfl) d_D_isRef_2) ?_
  refine g_topi (fun r2 er2 => ?_)
  have hw := o_l hw r2 er2
  refine g_if_ne (tgt := 40) h d_D_isRef_5 (by decide) (fun c3 => ?_) (fun c3 => ?_)
  · have hw := o_f c3 hw
    refine g_iconst (v := 1) h d_D_isRef_40 (by decide) ?_
    refine g_goto (tgt := 45) h d_D_isRef_41 (by decide) ?_
    exact g_zret h hQ d_D_isRef_45 rfl hw
  · have hw := o_t c3 hw
    refine g_iload_n h d_D_isRef_8 rfl rfl ?_
    refine g_bipush (v := 64) h d_D_isRef_9 (by decide) ?_
    refine g_sipush (v := 255) h d_D_isRef_11 (by decide) ?_
    refine g_calli h (g_runS (rest := []) h (ct_D_in hL v1 64 255 M (p_D_in v1 64 255 M)) (cwS 3 h.2.2.2.2.1 (g_S m_ml_D_91 m_st_D_in m_in_D m_co_D_in) rfl rfl rfl (by decide +kernel) ⟨Nat.le_of_ble_eq_true rfl, Nat.le_of_ble_eq_true rfl⟩) rfl rfl (Nat.le_of_ble_eq_true rfl) d_D_isRef_14) ?_
    refine g_topi (fun r5 er5 => ?_)
    have hw := o_l hw r5 er5
    refine g_if_eq (tgt := 44) h d_D_isRef_17 (by decide) (fun c6 => ?_) (fun c6 => ?_)
    · have hw := o_t c6 hw
      refine g_iconst (v := 0) h d_D_isRef_44 (by decide) ?_
      exact g_zret h hQ d_D_isRef_45 rfl hw
    · have hw := o_f c6 hw
      refine g_iload_n h d_D_isRef_20 rfl rfl ?_
      refine g_bipush (v := 64) h d_D_isRef_21 (by decide) ?_
      refine g_irem h d_D_isRef_23 (by decide) ?_
      refine g_bipush (v := 12) h d_D_isRef_24 (by decide) ?_
      refine g_icmp_eq (tgt := 40) h d_D_isRef_26 (by decide) (fun c7 => ?_) (fun c7 => ?_)
      · have hw := o_t c7 hw
        refine g_iconst (v := 1) h d_D_isRef_40 (by decide) ?_
        refine g_goto (tgt := 45) h d_D_isRef_41 (by decide) ?_
        exact g_zret h hQ d_D_isRef_45 rfl hw
      · have hw := o_f c7 hw
        refine g_aload_n h d_D_isRef_29 rfl rfl ?_
        refine g_iload_n h d_D_isRef_30 rfl rfl ?_
        refine g_bipush (v := 64) h d_D_isRef_31 (by decide) ?_
        refine g_irem h d_D_isRef_33 (by decide) ?_
        refine g_calli h (g_runV (rest := []) h (ct_D_isClass hL (v1 - v1 / 64 * 64) M (p_D_isClass (v1 - v1 / 64 * 64) M)) (cwV 1 h.2.2.2.2.1 (g_V m_ml_D_95 m_im_D_isClass m_se_D_isClass m_in_D m_co_D_isClass) rfl rfl rfl (by decide +kernel) ⟨Nat.le_of_ble_eq_true rfl, Nat.le_of_ble_eq_true rfl⟩) (hL.recv h rfl (by decide) ob_30) rfl rfl (Nat.le_of_ble_eq_true rfl) d_D_isRef_34) ?_
        refine g_topi (fun r9 er9 => ?_)
        have hw := o_l hw r9 er9
        refine g_if_eq (tgt := 44) h d_D_isRef_37 (by decide) (fun c10 => ?_) (fun c10 => ?_)
        · have hw := o_t c10 hw
          refine g_iconst (v := 0) h d_D_isRef_44 (by decide) ?_
          exact g_zret h hQ d_D_isRef_45 rfl hw
        · have hw := o_f c10 hw
          refine g_iconst (v := 1) h d_D_isRef_40 (by decide) ?_
          refine g_goto (tgt := 45) h d_D_isRef_41 (by decide) ?_
          exact g_zret h hQ d_D_isRef_45 rfl hw
set_option maxHeartbeats 4000000 in
set_option maxRecDepth 100000 in
theorem ct_D_isWide {Z : ZT} (hL : Lay Z sD) (v0 : Int32) (M : Mm)  {res : Int32 × Mm} (hw : F_D_isWide v0 M = some res) : CtI Z y_D_isWide ws_D_isWide (({ frames := 0, cells := 0, slots := 0, locals := 0 })) [.int v0] M res := by
  refine CtI.of hL (cc := c_D_isWide) (maxL := 1) (by decide) rfl (Nat.le_of_ble_eq_true rfl) (fun X h hQ => ?_)
  show G Z X M 0 [(0, .int v0)] []
  rw [F_D_isWide] at hw
  refine g_iload_n h d_D_isWide_0 rfl rfl ?_
  refine g_iconst (v := 3) h d_D_isWide_1 (by decide) ?_
  refine g_icmp_eq (tgt := 10) h d_D_isWide_2 (by decide) (fun c1 => ?_) (fun c1 => ?_)
  · have hw := o_t c1 hw
    refine g_iconst (v := 1) h d_D_isWide_10 (by decide) ?_
    refine g_goto (tgt := 15) h d_D_isWide_11 (by decide) ?_
    exact g_zret h hQ d_D_isWide_15 rfl hw
  · have hw := o_f c1 hw
    refine g_iload_n h d_D_isWide_5 rfl rfl ?_
    refine g_iconst (v := 4) h d_D_isWide_6 (by decide) ?_
    refine g_icmp_ne (tgt := 14) h d_D_isWide_7 (by decide) (fun c2 => ?_) (fun c2 => ?_)
    · have hw := o_f c2 hw
      refine g_iconst (v := 0) h d_D_isWide_14 (by decide) ?_
      exact g_zret h hQ d_D_isWide_15 rfl hw
    · have hw := o_t c2 hw
      refine g_iconst (v := 1) h d_D_isWide_10 (by decide) ?_
      refine g_goto (tgt := 15) h d_D_isWide_11 (by decide) ?_
      exact g_zret h hQ d_D_isWide_15 rfl hw
set_option maxHeartbeats 4000000 in
set_option maxRecDepth 100000 in
theorem w_D_isBelow_b21 {Z : ZT} {X : XT} (hL : Lay Z sD) (h : Ok Z X "FlowGateModel" c_D_isBelow ws_D_isBelow 4 ({ frames := 0, cells := 0, slots := 0, locals := 0 })) {res : Int32 × Mm} (hQ : FinI Z X .boolean res)  (v2 : Int32) (v3 : Int32) (M : Mm)  (hw : F_D_isBelow_b21 v2 v3 M = some res) : G Z X M 21 [(2, .int v2), (3, .int v3)] [] := by
  rw [F_D_isBelow_b21] at hw
  refine g_iload_n h d_D_isBelow_21 rfl rfl ?_
  refine g_iload_n h d_D_isBelow_22 rfl rfl ?_
  refine g_icmp_ne (tgt := 30) h d_D_isBelow_23 (by decide) (fun c1 => ?_) (fun c1 => ?_)
  · have hw := o_f c1 hw
    refine g_iconst (v := 0) h d_D_isBelow_30 (by decide) ?_
    exact g_zret h hQ d_D_isBelow_31 rfl hw
  · have hw := o_t c1 hw
    refine g_iconst (v := 1) h d_D_isBelow_26 (by decide) ?_
    refine g_goto (tgt := 31) h d_D_isBelow_27 (by decide) ?_
    exact g_zret h hQ d_D_isBelow_31 rfl hw
set_option maxHeartbeats 4000000 in
set_option maxRecDepth 100000 in
theorem w_D_isBelow_b2 {Z : ZT} {X : XT} (hL : Lay Z sD) (h : Ok Z X "FlowGateModel" c_D_isBelow ws_D_isBelow 4 ({ frames := 0, cells := 0, slots := 0, locals := 0 })) {res : Int32 × Mm} (hQ : FinI Z X .boolean res)  : ∀ (n : Nat) (v2 : Int32) (v3 : Int32) (M : Mm), F_D_isBelow_b2  n v2 v3 M = some res → G Z X M 2 [(0, .ref (za Z 30 0)), (2, .int v2), (3, .int v3)] [] := by
  intro n
  induction n with
  | zero =>
    intro v2 v3 M hw
    cases hw
  | succ n hK2 =>
    intro v2 v3 M hw
    rw [F_D_isBelow_b2] at hw
    refine g_iload_n h d_D_isBelow_2 rfl rfl ?_
    refine g_if_lt (tgt := 21) h d_D_isBelow_3 (by decide) (fun c2 => ?_) (fun c2 => ?_)
    · have hw := o_t c2 hw
      refine g_sub [1, 2] rfl ?_
      exact w_D_isBelow_b21 hL h hQ  v2 v3 M hw
    · have hw := o_f c2 hw
      refine g_iload_n h d_D_isBelow_6 rfl rfl ?_
      refine g_iload_n h d_D_isBelow_7 rfl rfl ?_
      refine g_icmp_eq (tgt := 21) h d_D_isBelow_8 (by decide) (fun c3 => ?_) (fun c3 => ?_)
      · have hw := o_t c3 hw
        refine g_sub [1, 2] rfl ?_
        exact w_D_isBelow_b21 hL h hQ  v2 v3 M hw
      · have hw := o_f c3 hw
        refine g_aload_n h d_D_isBelow_11 rfl rfl ?_
        refine g_getR (t := 30) (i := 0) (k := 0) (C := "FlowGateModel") (T := T_D) (N := 42) h hL rfl (by decide) ob_30 (by decide) rfl (t' := 31) (i' := 0) rfl rfl (fun w hw => mc (in_D w hw)) (mc m_fl_D_7) rfl d_D_isBelow_12 ?_
        refine g_iload_n h d_D_isBelow_15 rfl rfl ?_
        obtain ⟨hv4, hw⟩ := o_in hw
        refine g_iald (t := 31) (i := 0) h hL rfl (by decide) rfl rfl hv4 d_D_isBelow_16 ?_
        refine g_topi (fun n5 en5 => ?_)
        have hw := o_l hw n5 en5
        refine g_istore_n (lv' := [(3, .int n5), (0, .ref (za Z 30 0)), (2, .int v2)]) h d_D_isBelow_17 rfl (by decide) rfl ?_
        refine g_goto (tgt := 2) h d_D_isBelow_18 (by decide) ?_
        refine g_sub [1, 2, 0] rfl ?_
        exact hK2 v2 n5 M hw
set_option maxHeartbeats 4000000 in
set_option maxRecDepth 100000 in
theorem ct_D_isBelow {Z : ZT} (hL : Lay Z sD) (v1 : Int32) (v2 : Int32) (M : Mm)  {res : Int32 × Mm} (hw : F_D_isBelow v1 v2 M = some res) : CtI Z y_D_isBelow ws_D_isBelow (({ frames := 0, cells := 0, slots := 0, locals := 0 })) [.ref (za Z 30 0), .int v1, .int v2] M res := by
  refine CtI.of hL (cc := c_D_isBelow) (maxL := 4) (by decide) rfl (Nat.le_of_ble_eq_true rfl) (fun X h hQ => ?_)
  show G Z X M 0 [(0, .ref (za Z 30 0)), (1, .int v1), (2, .int v2)] []
  rw [F_D_isBelow] at hw
  refine g_iload_n h d_D_isBelow_0 rfl rfl ?_
  refine g_istore_n (lv' := [(3, .int v1), (0, .ref (za Z 30 0)), (1, .int v1), (2, .int v2)]) h d_D_isBelow_1 rfl (by decide) rfl ?_
  refine g_sub [1, 3, 0] rfl ?_
  exact w_D_isBelow_b2 hL h hQ  fuel v2 v1 M hw
set_option maxHeartbeats 4000000 in
set_option maxRecDepth 100000 in
theorem w_D_goesFor_b70 {Z : ZT} {X : XT} (hL : Lay Z sD) (h : Ok Z X "FlowGateModel" c_D_goesFor ws_D_goesFor 5 ({ frames := 3, cells := 0, slots := 0, locals := 64 })) {res : Int32 × Mm} (hQ : FinI Z X .boolean res)  (v3 : Int32) (v4 : Int32) (M : Mm)  (hw : F_D_goesFor_b70 v3 v4 M = some res) : G Z X M 70 [(0, .ref (za Z 30 0)), (3, .int v3), (4, .int v4)] [] := by
  rw [F_D_goesFor_b70] at hw
  refine g_aload_n h d_D_goesFor_70 rfl rfl ?_
  refine g_iload_n h d_D_goesFor_71 rfl rfl ?_
  refine g_calli h (g_runV (rest := []) h (ct_D_isRef hL v3 M (p_D_isRef v3 M)) (cwV 1 h.2.2.2.2.1 (g_V m_ml_D_99 m_im_D_isRef m_se_D_isRef m_in_D m_co_D_isRef) rfl rfl rfl (by decide +kernel) ⟨Nat.le_of_ble_eq_true rfl, Nat.le_of_ble_eq_true rfl⟩) (hL.recv h rfl (by decide) ob_30) rfl rfl (Nat.le_of_ble_eq_true rfl) d_D_goesFor_72) ?_
  refine g_topi (fun r2 er2 => ?_)
  have hw := o_l hw r2 er2
  refine g_if_eq (tgt := 87) h d_D_goesFor_75 (by decide) (fun c3 => ?_) (fun c3 => ?_)
  · have hw := o_t c3 hw
    refine g_iconst (v := 0) h d_D_goesFor_87 (by decide) ?_
    exact g_zret h hQ d_D_goesFor_88 rfl hw
  · have hw := o_f c3 hw
    refine g_aload_n h d_D_goesFor_78 rfl rfl ?_
    refine g_iload h d_D_goesFor_79 rfl ?_
    refine g_calli h (g_runV (rest := []) h (ct_D_isRef hL v4 M (p_D_isRef v4 M)) (cwV 1 h.2.2.2.2.1 (g_V m_ml_D_99 m_im_D_isRef m_se_D_isRef m_in_D m_co_D_isRef) rfl rfl rfl (by decide +kernel) ⟨Nat.le_of_ble_eq_true rfl, Nat.le_of_ble_eq_true rfl⟩) (hL.recv h rfl (by decide) ob_30) rfl rfl (Nat.le_of_ble_eq_true rfl) d_D_goesFor_81) ?_
    refine g_topi (fun r5 er5 => ?_)
    have hw := o_l hw r5 er5
    refine g_if_ne (tgt := 89) h d_D_goesFor_84 (by decide) (fun c6 => ?_) (fun c6 => ?_)
    · have hw := o_f c6 hw
      refine g_iload_n h d_D_goesFor_89 rfl rfl ?_
      refine g_iload h d_D_goesFor_90 rfl ?_
      refine g_icmp_eq (tgt := 148) h d_D_goesFor_92 (by decide) (fun c7 => ?_) (fun c7 => ?_)
      · have hw := o_t c7 hw
        refine g_iconst (v := 1) h d_D_goesFor_148 (by decide) ?_
        refine g_goto (tgt := 153) h d_D_goesFor_149 (by decide) ?_
        exact g_zret h hQ d_D_goesFor_153 rfl hw
      · have hw := o_f c7 hw
        refine g_iload h d_D_goesFor_95 rfl ?_
        refine g_bipush (v := 16) h d_D_goesFor_97 (by decide) ?_
        refine g_icmp_eq (tgt := 148) h d_D_goesFor_99 (by decide) (fun c8 => ?_) (fun c8 => ?_)
        · have hw := o_t c8 hw
          refine g_iconst (v := 1) h d_D_goesFor_148 (by decide) ?_
          refine g_goto (tgt := 153) h d_D_goesFor_149 (by decide) ?_
          exact g_zret h hQ d_D_goesFor_153 rfl hw
        · have hw := o_f c8 hw
          refine g_aload_n h d_D_goesFor_102 rfl rfl ?_
          refine g_iload_n h d_D_goesFor_103 rfl rfl ?_
          refine g_calli h (g_runV (rest := []) h (ct_D_isClass hL v3 M (p_D_isClass v3 M)) (cwV 1 h.2.2.2.2.1 (g_V m_ml_D_95 m_im_D_isClass m_se_D_isClass m_in_D m_co_D_isClass) rfl rfl rfl (by decide +kernel) ⟨Nat.le_of_ble_eq_true rfl, Nat.le_of_ble_eq_true rfl⟩) (hL.recv h rfl (by decide) ob_30) rfl rfl (Nat.le_of_ble_eq_true rfl) d_D_goesFor_104) ?_
          refine g_topi (fun r10 er10 => ?_)
          have hw := o_l hw r10 er10
          refine g_if_eq (tgt := 152) h d_D_goesFor_107 (by decide) (fun c11 => ?_) (fun c11 => ?_)
          · have hw := o_t c11 hw
            refine g_iconst (v := 0) h d_D_goesFor_152 (by decide) ?_
            exact g_zret h hQ d_D_goesFor_153 rfl hw
          · have hw := o_f c11 hw
            refine g_aload_n h d_D_goesFor_110 rfl rfl ?_
            refine g_iload h d_D_goesFor_111 rfl ?_
            refine g_calli h (g_runV (rest := []) h (ct_D_isClass hL v4 M (p_D_isClass v4 M)) (cwV 1 h.2.2.2.2.1 (g_V m_ml_D_95 m_im_D_isClass m_se_D_isClass m_in_D m_co_D_isClass) rfl rfl rfl (by decide +kernel) ⟨Nat.le_of_ble_eq_true rfl, Nat.le_of_ble_eq_true rfl⟩) (hL.recv h rfl (by decide) ob_30) rfl rfl (Nat.le_of_ble_eq_true rfl) d_D_goesFor_113) ?_
            refine g_topi (fun r13 er13 => ?_)
            have hw := o_l hw r13 er13
            refine g_if_eq (tgt := 152) h d_D_goesFor_116 (by decide) (fun c14 => ?_) (fun c14 => ?_)
            · have hw := o_t c14 hw
              refine g_iconst (v := 0) h d_D_goesFor_152 (by decide) ?_
              exact g_zret h hQ d_D_goesFor_153 rfl hw
            · have hw := o_f c14 hw
              refine g_aload_n h d_D_goesFor_119 rfl rfl ?_
              refine g_getR (t := 30) (i := 0) (k := 1) (C := "FlowGateModel") (T := T_D) (N := 42) h hL rfl (by decide) ob_30 (by decide) rfl (t' := 32) (i' := 0) rfl rfl (fun w hw => mc (in_D w hw)) (mc m_fl_D_13) rfl d_D_goesFor_120 ?_
              refine g_iload h d_D_goesFor_123 rfl ?_
              refine g_bipush (v := 16) h d_D_goesFor_125 (by decide) ?_
              refine g_isub h d_D_goesFor_127 ?_
              obtain ⟨hv15, hw⟩ := o_in hw
              refine g_zald (t := 32) (i := 0) h hL rfl (by decide) rfl rfl hv15 d_D_goesFor_128 ?_
              refine g_if_ne (tgt := 148) h d_D_goesFor_129 (by decide) (fun c16 => ?_) (fun c16 => ?_)
              · have hw := o_f c16 hw
                refine g_iconst (v := 1) h d_D_goesFor_148 (by decide) ?_
                refine g_goto (tgt := 153) h d_D_goesFor_149 (by decide) ?_
                exact g_zret h hQ d_D_goesFor_153 rfl hw
              · have hw := o_t c16 hw
                refine g_aload_n h d_D_goesFor_132 rfl rfl ?_
                refine g_iload_n h d_D_goesFor_133 rfl rfl ?_
                refine g_bipush (v := 16) h d_D_goesFor_134 (by decide) ?_
                refine g_isub h d_D_goesFor_136 ?_
                refine g_iload h d_D_goesFor_137 rfl ?_
                refine g_bipush (v := 16) h d_D_goesFor_139 (by decide) ?_
                refine g_isub h d_D_goesFor_141 ?_
                obtain ⟨r19, M18, hc17, hw⟩ := o_b hw
                refine g_calli h (g_runV (rest := []) h (ct_D_isBelow hL (v3 - 16) (v4 - 16) M hc17) (cwV 2 h.2.2.2.2.1 (g_V m_ml_D_102 m_im_D_isBelow m_se_D_isBelow m_in_D m_co_D_isBelow) rfl rfl rfl (by decide +kernel) ⟨Nat.le_of_ble_eq_true rfl, Nat.le_of_ble_eq_true rfl⟩) (hL.recv h rfl (by decide) ob_30) rfl rfl (Nat.le_of_ble_eq_true rfl) d_D_goesFor_142) ?_
                refine g_if_eq (tgt := 152) h d_D_goesFor_145 (by decide) (fun c20 => ?_) (fun c20 => ?_)
                · have hw := o_t c20 hw
                  refine g_iconst (v := 0) h d_D_goesFor_152 (by decide) ?_
                  exact g_zret h hQ d_D_goesFor_153 rfl hw
                · have hw := o_f c20 hw
                  refine g_iconst (v := 1) h d_D_goesFor_148 (by decide) ?_
                  refine g_goto (tgt := 153) h d_D_goesFor_149 (by decide) ?_
                  exact g_zret h hQ d_D_goesFor_153 rfl hw
    · have hw := o_t c6 hw
      refine g_iconst (v := 0) h d_D_goesFor_87 (by decide) ?_
      exact g_zret h hQ d_D_goesFor_88 rfl hw
set_option maxHeartbeats 4000000 in
set_option maxRecDepth 100000 in
theorem w_D_goesFor_b23 {Z : ZT} {X : XT} (hL : Lay Z sD) (h : Ok Z X "FlowGateModel" c_D_goesFor ws_D_goesFor 5 ({ frames := 3, cells := 0, slots := 0, locals := 64 })) {res : Int32 × Mm} (hQ : FinI Z X .boolean res)  : ∀ (n : Nat) (v3 : Int32) (v4 : Int32) (M : Mm), F_D_goesFor_b23  n v3 v4 M = some res → G Z X M 23 [(0, .ref (za Z 30 0)), (3, .int v3), (4, .int v4)] [] := by
  intro n
  induction n with
  | zero =>
    intro v3 v4 M hw
    cases hw
  | succ n hK23 =>
    intro v3 v4 M hw
    rw [F_D_goesFor_b23] at hw
    refine g_iload_n h d_D_goesFor_23 rfl rfl ?_
    refine g_iload h d_D_goesFor_24 rfl ?_
    refine g_icmp_eq (tgt := 70) h d_D_goesFor_26 (by decide) (fun c21 => ?_) (fun c21 => ?_)
    · have hw := o_t c21 hw
      refine g_sub [0, 1, 2] rfl ?_
      exact w_D_goesFor_b70 hL h hQ  v3 v4 M hw
    · have hw := o_f c21 hw
      refine g_iload h d_D_goesFor_29 rfl ?_
      refine g_bipush (v := 16) h d_D_goesFor_31 (by decide) ?_
      refine g_icmp_eq (tgt := 70) h d_D_goesFor_33 (by decide) (fun c22 => ?_) (fun c22 => ?_)
      · have hw := o_t c22 hw
        refine g_sub [0, 1, 2] rfl ?_
        exact w_D_goesFor_b70 hL h hQ  v3 v4 M hw
      · have hw := o_f c22 hw
        refine g_iload_n h d_D_goesFor_36 rfl rfl ?_
        refine g_bipush (v := 64) h d_D_goesFor_37 (by decide) ?_
        refine g_sipush (v := 255) h d_D_goesFor_39 (by decide) ?_
        refine g_calli h (g_runS (rest := []) h (ct_D_in hL v3 64 255 M (p_D_in v3 64 255 M)) (cwS 3 h.2.2.2.2.1 (g_S m_ml_D_91 m_st_D_in m_in_D m_co_D_in) rfl rfl rfl (by decide +kernel) ⟨Nat.le_of_ble_eq_true rfl, Nat.le_of_ble_eq_true rfl⟩) rfl rfl (Nat.le_of_ble_eq_true rfl) d_D_goesFor_42) ?_
        refine g_topi (fun r24 er24 => ?_)
        have hw := o_l hw r24 er24
        refine g_if_eq (tgt := 70) h d_D_goesFor_45 (by decide) (fun c25 => ?_) (fun c25 => ?_)
        · have hw := o_t c25 hw
          refine g_sub [0, 1, 2] rfl ?_
          exact w_D_goesFor_b70 hL h hQ  v3 v4 M hw
        · have hw := o_f c25 hw
          refine g_iload h d_D_goesFor_48 rfl ?_
          refine g_bipush (v := 64) h d_D_goesFor_50 (by decide) ?_
          refine g_sipush (v := 255) h d_D_goesFor_52 (by decide) ?_
          refine g_calli h (g_runS (rest := []) h (ct_D_in hL v4 64 255 M (p_D_in v4 64 255 M)) (cwS 3 h.2.2.2.2.1 (g_S m_ml_D_91 m_st_D_in m_in_D m_co_D_in) rfl rfl rfl (by decide +kernel) ⟨Nat.le_of_ble_eq_true rfl, Nat.le_of_ble_eq_true rfl⟩) rfl rfl (Nat.le_of_ble_eq_true rfl) d_D_goesFor_55) ?_
          refine g_topi (fun r27 er27 => ?_)
          have hw := o_l hw r27 er27
          refine g_if_eq (tgt := 70) h d_D_goesFor_58 (by decide) (fun c28 => ?_) (fun c28 => ?_)
          · have hw := o_t c28 hw
            refine g_sub [0, 1, 2] rfl ?_
            exact w_D_goesFor_b70 hL h hQ  v3 v4 M hw
          · have hw := o_f c28 hw
            refine g_iinc (n' := (-64)) (lw := fun y => [(3, .int y), (0, .ref (za Z 30 0)), (4, .int v4)]) h d_D_goesFor_61 rfl (by decide) (by decide) (fun _ => rfl) (fun n29 en29 => ?_)
            have hw := o_l hw n29 en29
            refine g_iinc (n' := (-64)) (lw := fun y => [(4, .int y), (3, .int n29), (0, .ref (za Z 30 0))]) h d_D_goesFor_64 rfl (by decide) (by decide) (fun _ => rfl) (fun n30 en30 => ?_)
            have hw := o_l hw n30 en30
            refine g_goto (tgt := 23) h d_D_goesFor_67 (by decide) ?_
            refine g_sub [2, 1, 0] rfl ?_
            exact hK23 n29 n30 M hw
set_option maxHeartbeats 4000000 in
set_option maxRecDepth 100000 in
theorem ct_D_goesFor {Z : ZT} (hL : Lay Z sD) (v1 : Int32) (v2 : Int32) (M : Mm)  {res : Int32 × Mm} (hw : F_D_goesFor v1 v2 M = some res) : CtI Z y_D_goesFor ws_D_goesFor (({ frames := 3, cells := 0, slots := 0, locals := 64 })) [.ref (za Z 30 0), .int v1, .int v2] M res := by
  refine CtI.of hL (cc := c_D_goesFor) (maxL := 5) (by decide) rfl (Nat.le_of_ble_eq_true rfl) (fun X h hQ => ?_)
  show G Z X M 0 [(0, .ref (za Z 30 0)), (1, .int v1), (2, .int v2)] []
  rw [F_D_goesFor] at hw
  refine g_iload_n h d_D_goesFor_0 rfl rfl ?_
  refine g_iload_n h d_D_goesFor_1 rfl rfl ?_
  refine g_icmp_ne (tgt := 7) h d_D_goesFor_2 (by decide) (fun c31 => ?_) (fun c31 => ?_)
  · have hw := o_f c31 hw
    refine g_iload_n h d_D_goesFor_7 rfl rfl ?_
    refine g_iconst (v := 5) h d_D_goesFor_8 (by decide) ?_
    refine g_icmp_ne (tgt := 18) h d_D_goesFor_9 (by decide) (fun c32 => ?_) (fun c32 => ?_)
    · have hw := o_f c32 hw
      refine g_iload_n h d_D_goesFor_18 rfl rfl ?_
      refine g_istore_n (lv' := [(3, .int v1), (0, .ref (za Z 30 0)), (1, .int v1), (2, .int v2)]) h d_D_goesFor_19 rfl (by decide) rfl ?_
      refine g_iload_n h d_D_goesFor_20 rfl rfl ?_
      refine g_istore (lv' := [(4, .int v2), (3, .int v1), (0, .ref (za Z 30 0)), (1, .int v1), (2, .int v2)]) h d_D_goesFor_21 (by decide) rfl ?_
      refine g_sub [2, 1, 0] rfl ?_
      exact w_D_goesFor_b23 hL h hQ  fuel v1 v2 M hw
    · have hw := o_t c32 hw
      refine g_aload_n h d_D_goesFor_12 rfl rfl ?_
      refine g_iload_n h d_D_goesFor_13 rfl rfl ?_
      refine g_calli h (g_runV (rest := []) h (ct_D_isRef hL v2 M (p_D_isRef v2 M)) (cwV 1 h.2.2.2.2.1 (g_V m_ml_D_99 m_im_D_isRef m_se_D_isRef m_in_D m_co_D_isRef) rfl rfl rfl (by decide +kernel) ⟨Nat.le_of_ble_eq_true rfl, Nat.le_of_ble_eq_true rfl⟩) (hL.recv h rfl (by decide) ob_30) rfl rfl (Nat.le_of_ble_eq_true rfl) d_D_goesFor_14) ?_
      refine g_topi (fun r34 er34 => ?_)
      have hw := o_l hw r34 er34
      obtain ⟨hn35, hw⟩ := o_nz hw
      exact g_zret h hQ d_D_goesFor_17 hn35 hw
  · have hw := o_t c31 hw
    refine g_iconst (v := 1) h d_D_goesFor_5 (by decide) ?_
    exact g_zret h hQ d_D_goesFor_6 rfl hw
set_option maxHeartbeats 4000000 in
set_option maxRecDepth 100000 in
theorem w_D_joined_b138 {Z : ZT} {X : XT} (hL : Lay Z sD) (h : Ok Z X "FlowGateModel" c_D_joined ws_D_joined 9 ({ frames := 3, cells := 0, slots := 0, locals := 64 })) {res : Int32 × Mm} (hQ : FinI Z X .int res)  (v3 : Int32) (M : Mm)  (hw : F_D_joined_b138 v3 M = some res) : G Z X M 138 [(3, .int v3)] [] := by
  rw [F_D_joined_b138] at hw
  refine g_bipush (v := 64) h d_D_joined_138 (by decide) ?_
  refine g_iload_n h d_D_joined_140 rfl rfl ?_
  refine g_imul h d_D_joined_141 ?_
  refine g_bipush (v := 16) h d_D_joined_142 (by decide) ?_
  refine g_iadd h d_D_joined_144 ?_
  exact g_iret h hQ d_D_joined_145 hw
set_option maxHeartbeats 4000000 in
set_option maxRecDepth 100000 in
theorem w_D_joined_b153 {Z : ZT} {X : XT} (hL : Lay Z sD) (h : Ok Z X "FlowGateModel" c_D_joined ws_D_joined 9 ({ frames := 3, cells := 0, slots := 0, locals := 64 })) {res : Int32 × Mm} (hQ : FinI Z X .int res)  : ∀ (n : Nat) (v3 : Int32) (v6 : Int32) (v8 : Int32) (M : Mm), F_D_joined_b153  n v3 v6 v8 M = some res → G Z X M 153 [(0, .ref (za Z 30 0)), (3, .int v3), (6, .int v6), (8, .int v8)] [] := by
  intro n
  induction n with
  | zero =>
    intro v3 v6 v8 M hw
    cases hw
  | succ n hK153 =>
    intro v3 v6 v8 M hw
    rw [F_D_joined_b153] at hw
    refine g_aload_n h d_D_joined_153 rfl rfl ?_
    refine g_iload h d_D_joined_154 rfl ?_
    refine g_bipush (v := 16) h d_D_joined_156 (by decide) ?_
    refine g_isub h d_D_joined_158 ?_
    refine g_iload h d_D_joined_159 rfl ?_
    obtain ⟨r3, M2, hc1, hw⟩ := o_b hw
    refine g_calli h (g_runV (rest := []) h (ct_D_isBelow hL (v6 - 16) v8 M hc1) (cwV 2 h.2.2.2.2.1 (g_V m_ml_D_102 m_im_D_isBelow m_se_D_isBelow m_in_D m_co_D_isBelow) rfl rfl rfl (by decide +kernel) ⟨Nat.le_of_ble_eq_true rfl, Nat.le_of_ble_eq_true rfl⟩) (hL.recv h rfl (by decide) ob_30) rfl rfl (Nat.le_of_ble_eq_true rfl) d_D_joined_161) ?_
    refine g_if_ne (tgt := 179) h d_D_joined_164 (by decide) (fun c4 => ?_) (fun c4 => ?_)
    · have hw := o_f c4 hw
      refine g_bipush (v := 64) h d_D_joined_179 (by decide) ?_
      refine g_iload_n h d_D_joined_181 rfl rfl ?_
      refine g_imul h d_D_joined_182 ?_
      refine g_bipush (v := 16) h d_D_joined_183 (by decide) ?_
      refine g_iadd h d_D_joined_185 ?_
      refine g_iload h d_D_joined_186 rfl ?_
      refine g_iadd h d_D_joined_188 ?_
      exact g_iret h hQ d_D_joined_189 hw
    · have hw := o_t c4 hw
      refine g_aload_n h d_D_joined_167 rfl rfl ?_
      refine g_getR (t := 30) (i := 0) (k := 0) (C := "FlowGateModel") (T := T_D) (N := 42) h hL rfl (by decide) ob_30 (by decide) rfl (t' := 31) (i' := 0) rfl rfl (fun w hw => mc (in_D w hw)) (mc m_fl_D_7) rfl d_D_joined_168 ?_
      refine g_iload h d_D_joined_171 rfl ?_
      obtain ⟨hv5, hw⟩ := o_in hw
      refine g_iald (t := 31) (i := 0) h hL rfl (by decide) rfl rfl hv5 d_D_joined_173 ?_
      refine g_topi (fun n6 en6 => ?_)
      have hw := o_l hw n6 en6
      refine g_istore (lv' := [(8, .int n6), (0, .ref (za Z 30 0)), (3, .int v3), (6, .int v6)]) h d_D_joined_174 (by decide) rfl ?_
      refine g_goto (tgt := 153) h d_D_joined_176 (by decide) ?_
      refine g_sub [1, 2, 3, 0] rfl ?_
      exact hK153 v3 v6 n6 M2 hw
set_option maxHeartbeats 4000000 in
set_option maxRecDepth 100000 in
theorem w_D_joined_b220 {Z : ZT} {X : XT} (hL : Lay Z sD) (h : Ok Z X "FlowGateModel" c_D_joined ws_D_joined 9 ({ frames := 3, cells := 0, slots := 0, locals := 64 })) {res : Int32 × Mm} (hQ : FinI Z X .int res)  (v7 : Int32) (M : Mm)  (hw : F_D_joined_b220 v7 M = some res) : G Z X M 220 [(7, .int v7)] [] := by
  rw [F_D_joined_b220] at hw
  refine g_bipush (v := 64) h d_D_joined_220 (by decide) ?_
  refine g_iload h d_D_joined_222 rfl ?_
  refine g_imul h d_D_joined_224 ?_
  refine g_bipush (v := 16) h d_D_joined_225 (by decide) ?_
  refine g_iadd h d_D_joined_227 ?_
  exact g_iret h hQ d_D_joined_228 hw
set_option maxHeartbeats 4000000 in
set_option maxRecDepth 100000 in
theorem w_D_joined_b217 {Z : ZT} {X : XT} (hL : Lay Z sD) (h : Ok Z X "FlowGateModel" c_D_joined ws_D_joined 9 ({ frames := 3, cells := 0, slots := 0, locals := 64 })) {res : Int32 × Mm} (hQ : FinI Z X .int res)  (v7 : Int32) (M : Mm)  (hw : F_D_joined_b217 v7 M = some res) : G Z X M 217 [(7, .int v7)] [] := by
  rw [F_D_joined_b217] at hw
  refine g_iinc (n' := (-1)) (lw := fun y => [(7, .int y)]) h d_D_joined_217 rfl (by decide) (by decide) (fun _ => rfl) (fun n7 en7 => ?_)
  have hw := o_l hw n7 en7
  refine g_sub [0] rfl ?_
  exact w_D_joined_b220 hL h hQ  n7 M hw
set_option maxHeartbeats 4000000 in
set_option maxRecDepth 100000 in
theorem w_D_joined_b203 {Z : ZT} {X : XT} (hL : Lay Z sD) (h : Ok Z X "FlowGateModel" c_D_joined ws_D_joined 9 ({ frames := 3, cells := 0, slots := 0, locals := 64 })) {res : Int32 × Mm} (hQ : FinI Z X .int res)  (v4 : Int32) (v6 : Int32) (v7 : Int32) (M : Mm)  (hw : F_D_joined_b203 v4 v6 v7 M = some res) : G Z X M 203 [(4, .int v4), (6, .int v6), (7, .int v7)] [] := by
  rw [F_D_joined_b203] at hw
  refine g_iload h d_D_joined_203 rfl ?_
  refine g_bipush (v := 12) h d_D_joined_205 (by decide) ?_
  refine g_icmp_ne (tgt := 220) h d_D_joined_207 (by decide) (fun c8 => ?_) (fun c8 => ?_)
  · have hw := o_f c8 hw
    refine g_sub [2] rfl ?_
    exact w_D_joined_b220 hL h hQ  v7 M hw
  · have hw := o_t c8 hw
    refine g_iload h d_D_joined_210 rfl ?_
    refine g_iload h d_D_joined_212 rfl ?_
    refine g_icmp_ne (tgt := 220) h d_D_joined_214 (by decide) (fun c9 => ?_) (fun c9 => ?_)
    · have hw := o_f c9 hw
      refine g_sub [2] rfl ?_
      exact w_D_joined_b220 hL h hQ  v7 M hw
    · have hw := o_t c9 hw
      refine g_sub [2] rfl ?_
      exact w_D_joined_b217 hL h hQ  v7 M hw
set_option maxHeartbeats 4000000 in
set_option maxRecDepth 100000 in
theorem w_D_joined_b190 {Z : ZT} {X : XT} (hL : Lay Z sD) (h : Ok Z X "FlowGateModel" c_D_joined ws_D_joined 9 ({ frames := 3, cells := 0, slots := 0, locals := 64 })) {res : Int32 × Mm} (hQ : FinI Z X .int res)  (v3 : Int32) (v4 : Int32) (v5 : Int32) (v6 : Int32) (v7 : Int32) (M : Mm)  (hw : F_D_joined_b190 v3 v4 v5 v6 v7 M = some res) : G Z X M 190 [(3, .int v3), (4, .int v4), (5, .int v5), (6, .int v6), (7, .int v7)] [] := by
  rw [F_D_joined_b190] at hw
  refine g_iload h d_D_joined_190 rfl ?_
  refine g_bipush (v := 12) h d_D_joined_192 (by decide) ?_
  refine g_icmp_ne (tgt := 203) h d_D_joined_194 (by decide) (fun c10 => ?_) (fun c10 => ?_)
  · have hw := o_f c10 hw
    refine g_sub [1, 3, 4] rfl ?_
    exact w_D_joined_b203 hL h hQ  v4 v6 v7 M hw
  · have hw := o_t c10 hw
    refine g_iload_n h d_D_joined_197 rfl rfl ?_
    refine g_iload h d_D_joined_198 rfl ?_
    refine g_icmp_eq (tgt := 217) h d_D_joined_200 (by decide) (fun c11 => ?_) (fun c11 => ?_)
    · have hw := o_t c11 hw
      refine g_sub [4] rfl ?_
      exact w_D_joined_b217 hL h hQ  v7 M hw
    · have hw := o_f c11 hw
      refine g_sub [1, 3, 4] rfl ?_
      exact w_D_joined_b203 hL h hQ  v4 v6 v7 M hw
set_option maxHeartbeats 4000000 in
set_option maxRecDepth 100000 in
theorem w_D_joined_b90 {Z : ZT} {X : XT} (hL : Lay Z sD) (h : Ok Z X "FlowGateModel" c_D_joined ws_D_joined 9 ({ frames := 3, cells := 0, slots := 0, locals := 64 })) {res : Int32 × Mm} (hQ : FinI Z X .int res)  (v3 : Int32) (v4 : Int32) (v5 : Int32) (v6 : Int32) (s0 : Int32) (M : Mm)  (hw : F_D_joined_b90 v3 v4 v5 v6 s0 M = some res) : G Z X M 90 [(0, .ref (za Z 30 0)), (3, .int v3), (4, .int v4), (5, .int v5), (6, .int v6)] [.int s0] := by
  rw [F_D_joined_b90] at hw
  refine g_istore (lv' := [(7, .int s0), (0, .ref (za Z 30 0)), (3, .int v3), (4, .int v4), (5, .int v5), (6, .int v6)]) h d_D_joined_90 (by decide) rfl ?_
  refine g_iload_n h d_D_joined_92 rfl rfl ?_
  refine g_iload h d_D_joined_93 rfl ?_
  refine g_icmp_ne (tgt := 190) h d_D_joined_95 (by decide) (fun c12 => ?_) (fun c12 => ?_)
  · have hw := o_f c12 hw
    refine g_sub [2, 3, 4, 5, 0] rfl ?_
    exact w_D_joined_b190 hL h hQ  v3 v4 v5 v6 s0 M hw
  · have hw := o_t c12 hw
    refine g_iload h d_D_joined_98 rfl ?_
    refine g_bipush (v := 12) h d_D_joined_100 (by decide) ?_
    refine g_icmp_eq (tgt := 190) h d_D_joined_102 (by decide) (fun c13 => ?_) (fun c13 => ?_)
    · have hw := o_t c13 hw
      refine g_sub [2, 3, 4, 5, 0] rfl ?_
      exact w_D_joined_b190 hL h hQ  v3 v4 v5 v6 s0 M hw
    · have hw := o_f c13 hw
      refine g_iload h d_D_joined_105 rfl ?_
      refine g_bipush (v := 12) h d_D_joined_107 (by decide) ?_
      refine g_icmp_eq (tgt := 190) h d_D_joined_109 (by decide) (fun c14 => ?_) (fun c14 => ?_)
      · have hw := o_t c14 hw
        refine g_sub [2, 3, 4, 5, 0] rfl ?_
        exact w_D_joined_b190 hL h hQ  v3 v4 v5 v6 s0 M hw
      · have hw := o_f c14 hw
        refine g_aload_n h d_D_joined_112 rfl rfl ?_
        refine g_getR (t := 30) (i := 0) (k := 1) (C := "FlowGateModel") (T := T_D) (N := 42) h hL rfl (by decide) ob_30 (by decide) rfl (t' := 32) (i' := 0) rfl rfl (fun w hw => mc (in_D w hw)) (mc m_fl_D_13) rfl d_D_joined_113 ?_
        refine g_iload h d_D_joined_116 rfl ?_
        refine g_bipush (v := 16) h d_D_joined_118 (by decide) ?_
        refine g_isub h d_D_joined_120 ?_
        obtain ⟨hv15, hw⟩ := o_in hw
        refine g_zald (t := 32) (i := 0) h hL rfl (by decide) rfl rfl hv15 d_D_joined_121 ?_
        refine g_if_ne (tgt := 138) h d_D_joined_122 (by decide) (fun c16 => ?_) (fun c16 => ?_)
        · have hw := o_f c16 hw
          refine g_sub [2] rfl ?_
          exact w_D_joined_b138 hL h hQ  v3 M hw
        · have hw := o_t c16 hw
          refine g_aload_n h d_D_joined_125 rfl rfl ?_
          refine g_getR (t := 30) (i := 0) (k := 1) (C := "FlowGateModel") (T := T_D) (N := 42) h hL rfl (by decide) ob_30 (by decide) rfl (t' := 32) (i' := 0) rfl rfl (fun w hw => mc (in_D w hw)) (mc m_fl_D_13) rfl d_D_joined_126 ?_
          refine g_iload h d_D_joined_129 rfl ?_
          refine g_bipush (v := 16) h d_D_joined_131 (by decide) ?_
          refine g_isub h d_D_joined_133 ?_
          obtain ⟨hv17, hw⟩ := o_in hw
          refine g_zald (t := 32) (i := 0) h hL rfl (by decide) rfl rfl hv17 d_D_joined_134 ?_
          refine g_if_eq (tgt := 146) h d_D_joined_135 (by decide) (fun c18 => ?_) (fun c18 => ?_)
          · have hw := o_t c18 hw
            refine g_iload h d_D_joined_146 rfl ?_
            refine g_bipush (v := 16) h d_D_joined_148 (by decide) ?_
            refine g_isub h d_D_joined_150 ?_
            refine g_topi (fun n19 en19 => ?_)
            have hw := o_l hw n19 en19
            refine g_istore (lv' := [(8, .int n19), (7, .int s0), (0, .ref (za Z 30 0)), (3, .int v3), (4, .int v4), (5, .int v5), (6, .int v6)]) h d_D_joined_151 (by decide) rfl ?_
            refine g_sub [2, 3, 6, 0] rfl ?_
            exact w_D_joined_b153 hL h hQ  fuel v3 v6 n19 M hw
          · have hw := o_f c18 hw
            refine g_sub [2] rfl ?_
            exact w_D_joined_b138 hL h hQ  v3 M hw
set_option maxHeartbeats 4000000 in
set_option maxRecDepth 100000 in
theorem w_D_joined_b37 {Z : ZT} {X : XT} (hL : Lay Z sD) (h : Ok Z X "FlowGateModel" c_D_joined ws_D_joined 9 ({ frames := 3, cells := 0, slots := 0, locals := 64 })) {res : Int32 × Mm} (hQ : FinI Z X .int res)  (v1 : Int32) (v2 : Int32) (M : Mm)  (hw : F_D_joined_b37 v1 v2 M = some res) : G Z X M 37 [(0, .ref (za Z 30 0)), (1, .int v1), (2, .int v2)] [] := by
  rw [F_D_joined_b37] at hw
  refine g_aload_n h d_D_joined_37 rfl rfl ?_
  refine g_iload_n h d_D_joined_38 rfl rfl ?_
  refine g_calli h (g_runV (rest := []) h (ct_D_isRef hL v1 M (p_D_isRef v1 M)) (cwV 1 h.2.2.2.2.1 (g_V m_ml_D_99 m_im_D_isRef m_se_D_isRef m_in_D m_co_D_isRef) rfl rfl rfl (by decide +kernel) ⟨Nat.le_of_ble_eq_true rfl, Nat.le_of_ble_eq_true rfl⟩) (hL.recv h rfl (by decide) ob_30) rfl rfl (Nat.le_of_ble_eq_true rfl) d_D_joined_39) ?_
  refine g_topi (fun r21 er21 => ?_)
  have hw := o_l hw r21 er21
  refine g_if_eq (tgt := 53) h d_D_joined_42 (by decide) (fun c22 => ?_) (fun c22 => ?_)
  · have hw := o_t c22 hw
    refine g_iconst (v := 0) h d_D_joined_53 (by decide) ?_
    exact g_iret h hQ d_D_joined_54 hw
  · have hw := o_f c22 hw
    refine g_aload_n h d_D_joined_45 rfl rfl ?_
    refine g_iload_n h d_D_joined_46 rfl rfl ?_
    refine g_calli h (g_runV (rest := []) h (ct_D_isRef hL v2 M (p_D_isRef v2 M)) (cwV 1 h.2.2.2.2.1 (g_V m_ml_D_99 m_im_D_isRef m_se_D_isRef m_in_D m_co_D_isRef) rfl rfl rfl (by decide +kernel) ⟨Nat.le_of_ble_eq_true rfl, Nat.le_of_ble_eq_true rfl⟩) (hL.recv h rfl (by decide) ob_30) rfl rfl (Nat.le_of_ble_eq_true rfl) d_D_joined_47) ?_
    refine g_topi (fun r24 er24 => ?_)
    have hw := o_l hw r24 er24
    refine g_if_ne (tgt := 55) h d_D_joined_50 (by decide) (fun c25 => ?_) (fun c25 => ?_)
    · have hw := o_f c25 hw
      refine g_iload_n h d_D_joined_55 rfl rfl ?_
      refine g_bipush (v := 64) h d_D_joined_56 (by decide) ?_
      refine g_idiv h d_D_joined_58 (by decide) ?_
      refine g_topi (fun n26 en26 => ?_)
      have hw := o_l hw n26 en26
      refine g_istore_n (lv' := [(3, .int n26), (0, .ref (za Z 30 0)), (1, .int v1), (2, .int v2)]) h d_D_joined_59 rfl (by decide) rfl ?_
      refine g_iload_n h d_D_joined_60 rfl rfl ?_
      refine g_bipush (v := 64) h d_D_joined_61 (by decide) ?_
      refine g_idiv h d_D_joined_63 (by decide) ?_
      refine g_topi (fun n27 en27 => ?_)
      have hw := o_l hw n27 en27
      refine g_istore (lv' := [(4, .int n27), (3, .int n26), (0, .ref (za Z 30 0)), (1, .int v1), (2, .int v2)]) h d_D_joined_64 (by decide) rfl ?_
      refine g_iload_n h d_D_joined_66 rfl rfl ?_
      refine g_bipush (v := 64) h d_D_joined_67 (by decide) ?_
      refine g_irem h d_D_joined_69 (by decide) ?_
      refine g_topi (fun n28 en28 => ?_)
      have hw := o_l hw n28 en28
      refine g_istore (lv' := [(5, .int n28), (4, .int n27), (3, .int n26), (0, .ref (za Z 30 0)), (1, .int v1), (2, .int v2)]) h d_D_joined_70 (by decide) rfl ?_
      refine g_iload_n h d_D_joined_72 rfl rfl ?_
      refine g_bipush (v := 64) h d_D_joined_73 (by decide) ?_
      refine g_irem h d_D_joined_75 (by decide) ?_
      refine g_topi (fun n29 en29 => ?_)
      have hw := o_l hw n29 en29
      refine g_istore (lv' := [(6, .int n29), (5, .int n28), (4, .int n27), (3, .int n26), (0, .ref (za Z 30 0)), (1, .int v1), (2, .int v2)]) h d_D_joined_76 (by decide) rfl ?_
      refine g_iload_n h d_D_joined_78 rfl rfl ?_
      refine g_iload h d_D_joined_79 rfl ?_
      refine g_icmp_ge (tgt := 88) h d_D_joined_81 (by decide) (fun c30 => ?_) (fun c30 => ?_)
      · have hw := o_t c30 hw
        refine g_iload h d_D_joined_88 rfl ?_
        refine g_sub [4, 3, 2, 1, 0] rfl ?_
        exact w_D_joined_b90 hL h hQ  n26 n27 n28 n29 n27 M hw
      · have hw := o_f c30 hw
        refine g_iload_n h d_D_joined_84 rfl rfl ?_
        refine g_goto (tgt := 90) h d_D_joined_85 (by decide) ?_
        refine g_sub [4, 3, 2, 1, 0] rfl ?_
        exact w_D_joined_b90 hL h hQ  n26 n27 n28 n29 n26 M hw
    · have hw := o_t c25 hw
      refine g_iconst (v := 0) h d_D_joined_53 (by decide) ?_
      exact g_iret h hQ d_D_joined_54 hw
set_option maxHeartbeats 4000000 in
set_option maxRecDepth 100000 in
theorem w_D_joined_b22 {Z : ZT} {X : XT} (hL : Lay Z sD) (h : Ok Z X "FlowGateModel" c_D_joined ws_D_joined 9 ({ frames := 3, cells := 0, slots := 0, locals := 64 })) {res : Int32 × Mm} (hQ : FinI Z X .int res)  (v1 : Int32) (v2 : Int32) (M : Mm)  (hw : F_D_joined_b22 v1 v2 M = some res) : G Z X M 22 [(0, .ref (za Z 30 0)), (1, .int v1), (2, .int v2)] [] := by
  rw [F_D_joined_b22] at hw
  refine g_iload_n h d_D_joined_22 rfl rfl ?_
  refine g_iconst (v := 5) h d_D_joined_23 (by decide) ?_
  refine g_icmp_ne (tgt := 37) h d_D_joined_24 (by decide) (fun c31 => ?_) (fun c31 => ?_)
  · have hw := o_f c31 hw
    refine g_sub [0, 1, 2] rfl ?_
    exact w_D_joined_b37 hL h hQ  v1 v2 M hw
  · have hw := o_t c31 hw
    refine g_aload_n h d_D_joined_27 rfl rfl ?_
    refine g_iload_n h d_D_joined_28 rfl rfl ?_
    refine g_calli h (g_runV (rest := []) h (ct_D_isRef hL v1 M (p_D_isRef v1 M)) (cwV 1 h.2.2.2.2.1 (g_V m_ml_D_99 m_im_D_isRef m_se_D_isRef m_in_D m_co_D_isRef) rfl rfl rfl (by decide +kernel) ⟨Nat.le_of_ble_eq_true rfl, Nat.le_of_ble_eq_true rfl⟩) (hL.recv h rfl (by decide) ob_30) rfl rfl (Nat.le_of_ble_eq_true rfl) d_D_joined_29) ?_
    refine g_topi (fun r33 er33 => ?_)
    have hw := o_l hw r33 er33
    refine g_if_eq (tgt := 37) h d_D_joined_32 (by decide) (fun c34 => ?_) (fun c34 => ?_)
    · have hw := o_t c34 hw
      refine g_sub [0, 1, 2] rfl ?_
      exact w_D_joined_b37 hL h hQ  v1 v2 M hw
    · have hw := o_f c34 hw
      refine g_iload_n h d_D_joined_35 rfl rfl ?_
      exact g_iret h hQ d_D_joined_36 hw
set_option maxHeartbeats 4000000 in
set_option maxRecDepth 100000 in
theorem ct_D_joined {Z : ZT} (hL : Lay Z sD) (v1 : Int32) (v2 : Int32) (M : Mm)  {res : Int32 × Mm} (hw : F_D_joined v1 v2 M = some res) : CtI Z y_D_joined ws_D_joined (({ frames := 3, cells := 0, slots := 0, locals := 64 })) [.ref (za Z 30 0), .int v1, .int v2] M res := by
  refine CtI.of hL (cc := c_D_joined) (maxL := 9) (by decide) rfl (Nat.le_of_ble_eq_true rfl) (fun X h hQ => ?_)
  show G Z X M 0 [(0, .ref (za Z 30 0)), (1, .int v1), (2, .int v2)] []
  rw [F_D_joined] at hw
  refine g_iload_n h d_D_joined_0 rfl rfl ?_
  refine g_iload_n h d_D_joined_1 rfl rfl ?_
  refine g_icmp_ne (tgt := 7) h d_D_joined_2 (by decide) (fun c35 => ?_) (fun c35 => ?_)
  · have hw := o_f c35 hw
    refine g_iload_n h d_D_joined_7 rfl rfl ?_
    refine g_iconst (v := 5) h d_D_joined_8 (by decide) ?_
    refine g_icmp_ne (tgt := 22) h d_D_joined_9 (by decide) (fun c36 => ?_) (fun c36 => ?_)
    · have hw := o_f c36 hw
      refine g_sub [0, 1, 2] rfl ?_
      exact w_D_joined_b22 hL h hQ  v1 v2 M hw
    · have hw := o_t c36 hw
      refine g_aload_n h d_D_joined_12 rfl rfl ?_
      refine g_iload_n h d_D_joined_13 rfl rfl ?_
      refine g_calli h (g_runV (rest := []) h (ct_D_isRef hL v2 M (p_D_isRef v2 M)) (cwV 1 h.2.2.2.2.1 (g_V m_ml_D_99 m_im_D_isRef m_se_D_isRef m_in_D m_co_D_isRef) rfl rfl rfl (by decide +kernel) ⟨Nat.le_of_ble_eq_true rfl, Nat.le_of_ble_eq_true rfl⟩) (hL.recv h rfl (by decide) ob_30) rfl rfl (Nat.le_of_ble_eq_true rfl) d_D_joined_14) ?_
      refine g_topi (fun r38 er38 => ?_)
      have hw := o_l hw r38 er38
      refine g_if_eq (tgt := 22) h d_D_joined_17 (by decide) (fun c39 => ?_) (fun c39 => ?_)
      · have hw := o_t c39 hw
        refine g_sub [0, 1, 2] rfl ?_
        exact w_D_joined_b22 hL h hQ  v1 v2 M hw
      · have hw := o_f c39 hw
        refine g_iload_n h d_D_joined_20 rfl rfl ?_
        exact g_iret h hQ d_D_joined_21 hw
  · have hw := o_t c35 hw
    refine g_iload_n h d_D_joined_5 rfl rfl ?_
    exact g_iret h hQ d_D_joined_6 hw
set_option maxHeartbeats 4000000 in
set_option maxRecDepth 100000 in
theorem ct_D_cls {Z : ZT} (hL : Lay Z sD) (v1 : Int32) (v2 : Int32) (M : Mm)  {res : Int32 × Mm} (hw : F_D_cls v1 v2 M = some res) : CtI Z y_D_cls ws_D_cls (({ frames := 1, cells := 0, slots := 0, locals := 22 })) [.ref (za Z 30 0), .int v1, .int v2] M res := by
  refine CtI.of hL (cc := c_D_cls) (maxL := 3) (by decide) rfl (Nat.le_of_ble_eq_true rfl) (fun X h hQ => ?_)
  show G Z X M 0 [(0, .ref (za Z 30 0)), (1, .int v1), (2, .int v2)] []
  rw [F_D_cls] at hw
  refine g_iload_n h d_D_cls_0 rfl rfl ?_
  refine g_iconst (v := 0) h d_D_cls_1 (by decide) ?_
  refine g_aload_n h d_D_cls_2 rfl rfl ?_
  refine g_getI (t := 30) (i := 0) (k := 2) (C := "FlowGateModel") (T := T_D) (N := 42) h hL rfl (by decide) ob_30 (by decide) rfl (fun w hw => mc (in_D w hw)) (mc m_fl_D_17) rfl d_D_cls_3 ?_
  refine g_iconst (v := 1) h d_D_cls_6 (by decide) ?_
  refine g_isub h d_D_cls_7 ?_
  refine g_calli h (g_runS (rest := []) h (ct_D_in hL v1 0 ((M.1 30 0 2) - 1) M (p_D_in v1 0 ((M.1 30 0 2) - 1) M)) (cwS 3 h.2.2.2.2.1 (g_S m_ml_D_91 m_st_D_in m_in_D m_co_D_in) rfl rfl rfl (by decide +kernel) ⟨Nat.le_of_ble_eq_true rfl, Nat.le_of_ble_eq_true rfl⟩) rfl rfl (Nat.le_of_ble_eq_true rfl) d_D_cls_8) ?_
  refine g_topi (fun r2 er2 => ?_)
  have hw := o_l hw r2 er2
  refine g_if_ne (tgt := 16) h d_D_cls_11 (by decide) (fun c3 => ?_) (fun c3 => ?_)
  · have hw := o_f c3 hw
    refine g_aload_n h d_D_cls_16 rfl rfl ?_
    refine g_getI (t := 30) (i := 0) (k := 2) (C := "FlowGateModel") (T := T_D) (N := 42) h hL rfl (by decide) ob_30 (by decide) rfl (fun w hw => mc (in_D w hw)) (mc m_fl_D_17) rfl d_D_cls_17 ?_
    refine g_bipush (v := 10) h d_D_cls_20 (by decide) ?_
    refine g_icmp_ne (tgt := 28) h d_D_cls_22 (by decide) (fun c4 => ?_) (fun c4 => ?_)
    · have hw := o_f c4 hw
      refine g_aload_n h d_D_cls_28 rfl rfl ?_
      refine g_getR (t := 30) (i := 0) (k := 0) (C := "FlowGateModel") (T := T_D) (N := 42) h hL rfl (by decide) ob_30 (by decide) rfl (t' := 31) (i' := 0) rfl rfl (fun w hw => mc (in_D w hw)) (mc m_fl_D_7) rfl d_D_cls_29 ?_
      refine g_aload_n h d_D_cls_32 rfl rfl ?_
      refine g_getI (t := 30) (i := 0) (k := 2) (C := "FlowGateModel") (T := T_D) (N := 42) h hL rfl (by decide) ob_30 (by decide) rfl (fun w hw => mc (in_D w hw)) (mc m_fl_D_17) rfl d_D_cls_33 ?_
      refine g_iload_n h d_D_cls_36 rfl rfl ?_
      obtain ⟨hv5, hw⟩ := o_in hw
      refine g_iast (t := 31) (i := 0) h hL rfl (by decide) rfl rfl hv5 d_D_cls_37 ?_
      refine g_mem (fun M6 eM6 => ?_)
      have hw := o_l hw M6 eM6
      refine g_aload_n h d_D_cls_38 rfl rfl ?_
      refine g_getR (t := 30) (i := 0) (k := 1) (C := "FlowGateModel") (T := T_D) (N := 42) h hL rfl (by decide) ob_30 (by decide) rfl (t' := 32) (i' := 0) rfl rfl (fun w hw => mc (in_D w hw)) (mc m_fl_D_13) rfl d_D_cls_39 ?_
      refine g_aload_n h d_D_cls_42 rfl rfl ?_
      refine g_getI (t := 30) (i := 0) (k := 2) (C := "FlowGateModel") (T := T_D) (N := 42) h hL rfl (by decide) ob_30 (by decide) rfl (fun w hw => mc (in_D w hw)) (mc m_fl_D_17) rfl d_D_cls_43 ?_
      refine g_iload_n h d_D_cls_46 rfl rfl ?_
      obtain ⟨hv7, hw⟩ := o_in hw
      refine g_zast (t := 32) (i := 0) h hL rfl (by decide) rfl rfl hv7 d_D_cls_47 ?_
      refine g_mem (fun M8 eM8 => ?_)
      have hw := o_l hw M8 eM8
      refine g_aload_n h d_D_cls_48 rfl rfl ?_
      refine g_dup h d_D_cls_49 rfl ?_
      refine g_getI (t := 30) (i := 0) (k := 2) (C := "FlowGateModel") (T := T_D) (N := 42) h hL rfl (by decide) ob_30 (by decide) rfl (fun w hw => mc (in_D w hw)) (mc m_fl_D_17) rfl d_D_cls_50 ?_
      refine g_iconst (v := 1) h d_D_cls_53 (by decide) ?_
      refine g_iadd h d_D_cls_54 ?_
      refine g_putI (t := 30) (i := 0) (k := 2) (C := "FlowGateModel") (T := T_D) (N := 42) h hL rfl (by decide) ob_30 (by decide) rfl (fun w hw => mc (in_D w hw)) ty_D ty_D_ok nm_D (mc m_fl_D_17) rfl rfl rfl d_D_cls_55 ?_
      refine g_mem (fun M9 eM9 => ?_)
      have hw := o_l hw M9 eM9
      refine g_aload_n h d_D_cls_58 rfl rfl ?_
      refine g_getI (t := 30) (i := 0) (k := 2) (C := "FlowGateModel") (T := T_D) (N := 42) h hL rfl (by decide) ob_30 (by decide) rfl (fun w hw => mc (in_D w hw)) (mc m_fl_D_17) rfl d_D_cls_59 ?_
      refine g_iconst (v := 1) h d_D_cls_62 (by decide) ?_
      refine g_isub h d_D_cls_63 ?_
      exact g_iret h hQ d_D_cls_64 hw
    · have hw := o_t c4 hw
      refine g_bipush (v := -2) h d_D_cls_25 (by decide) ?_
      exact g_iret h hQ d_D_cls_27 hw
  · have hw := o_t c3 hw
    refine g_iconst (v := -1) h d_D_cls_14 (by decide) ?_
    exact g_iret h hQ d_D_cls_15 hw
