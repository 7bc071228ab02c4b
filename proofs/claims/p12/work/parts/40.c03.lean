set_option maxHeartbeats 4000000 in
set_option maxRecDepth 100000 in
theorem w_T_joinedClasses_b53 {Z : ZT} {X : XT} (hL : Lay Z sC) (h : Ok Z X "FlowGate$Types" c_T_joinedClasses ws_T_joinedClasses 5 ({ frames := 0, cells := 0, slots := 0, locals := 0 })) {res : Int32 × Mm} (hQ : FinI Z X .int res)  : ∀ (n : Nat) (v3 : Int32) (v4 : Int32) (M : Mm), F_T_joinedClasses_b53  n v3 v4 M = some res → G Z X M 53 [(3, .int v3), (4, .int v4)] [] := by
  intro n
  induction n with
  | zero =>
    intro v3 v4 M hw
    cases hw
  | succ n hK53 =>
    intro v3 v4 M hw
    rw [F_T_joinedClasses_b53] at hw
    refine g_iload h d_T_joinedClasses_53 rfl ?_
    refine g_if_le (tgt := 79) h d_T_joinedClasses_55 (by decide) (fun c1 => ?_) (fun c1 => ?_)
    · have hw := o_t c1 hw
      refine g_bipush (v := 16) h d_T_joinedClasses_79 (by decide) ?_
      exact g_iret h hQ d_T_joinedClasses_81 hw
    · have hw := o_f c1 hw
      refine g_iload_n h d_T_joinedClasses_58 rfl rfl ?_
      refine g_iload h d_T_joinedClasses_59 rfl ?_
      refine g_ishr h d_T_joinedClasses_61 ?_
      refine g_iconst (v := 1) h d_T_joinedClasses_62 (by decide) ?_
      refine g_iand h d_T_joinedClasses_63 ?_
      refine g_if_eq (tgt := 73) h d_T_joinedClasses_64 (by decide) (fun c2 => ?_) (fun c2 => ?_)
      · have hw := o_t c2 hw
        refine g_iinc (n' := (-1)) (lw := fun y => [(4, .int y), (3, .int v3)]) h d_T_joinedClasses_73 rfl (by decide) (by decide) (fun _ => rfl) (fun n3 en3 => ?_)
        have hw := o_l hw n3 en3
        refine g_goto (tgt := 53) h d_T_joinedClasses_76 (by decide) ?_
        refine g_sub [1, 0] rfl ?_
        exact hK53 v3 n3 M hw
      · have hw := o_f c2 hw
        refine g_bipush (v := 16) h d_T_joinedClasses_67 (by decide) ?_
        refine g_iload h d_T_joinedClasses_69 rfl ?_
        refine g_iadd h d_T_joinedClasses_71 ?_
        exact g_iret h hQ d_T_joinedClasses_72 hw
set_option maxHeartbeats 4000000 in
set_option maxRecDepth 100000 in
theorem ct_T_joinedClasses {Z : ZT} (hL : Lay Z sC) (v1 : Int32) (v2 : Int32) (M : Mm)  {res : Int32 × Mm} (hw : F_T_joinedClasses v1 v2 M = some res) : CtI Z y_T_joinedClasses ws_T_joinedClasses (({ frames := 0, cells := 0, slots := 0, locals := 0 })) [.ref (za Z 1 0), .int v1, .int v2] M res := by
  refine CtI.of hL (cc := c_T_joinedClasses) (maxL := 5) (by decide) rfl (Nat.le_of_ble_eq_true rfl) (fun X h hQ => ?_)
  show G Z X M 0 [(0, .ref (za Z 1 0)), (1, .int v1), (2, .int v2)] []
  rw [F_T_joinedClasses] at hw
  refine g_aload_n h d_T_joinedClasses_0 rfl rfl ?_
  refine g_getR (t := 1) (i := 0) (k := 1) (C := "FlowGate$Types") (T := T_T) (N := 3) h hL rfl (by decide) ob_1 (by decide) rfl (t' := 3) (i' := 0) rfl rfl (fun w hw => mc (in_T w hw)) (mc m_fl_T_15) rfl d_T_joinedClasses_1 ?_
  refine g_iload_n h d_T_joinedClasses_4 rfl rfl ?_
  refine g_bipush (v := 16) h d_T_joinedClasses_5 (by decide) ?_
  refine g_isub h d_T_joinedClasses_7 ?_
  obtain ⟨hv4, hw⟩ := o_in hw
  refine g_zald (t := 3) (i := 0) h hL rfl (by decide) rfl rfl hv4 d_T_joinedClasses_8 ?_
  refine g_if_ne (tgt := 24) h d_T_joinedClasses_9 (by decide) (fun c5 => ?_) (fun c5 => ?_)
  · have hw := o_f c5 hw
    refine g_bipush (v := 16) h d_T_joinedClasses_24 (by decide) ?_
    exact g_iret h hQ d_T_joinedClasses_26 hw
  · have hw := o_t c5 hw
    refine g_aload_n h d_T_joinedClasses_12 rfl rfl ?_
    refine g_getR (t := 1) (i := 0) (k := 1) (C := "FlowGate$Types") (T := T_T) (N := 3) h hL rfl (by decide) ob_1 (by decide) rfl (t' := 3) (i' := 0) rfl rfl (fun w hw => mc (in_T w hw)) (mc m_fl_T_15) rfl d_T_joinedClasses_13 ?_
    refine g_iload_n h d_T_joinedClasses_16 rfl rfl ?_
    refine g_bipush (v := 16) h d_T_joinedClasses_17 (by decide) ?_
    refine g_isub h d_T_joinedClasses_19 ?_
    obtain ⟨hv6, hw⟩ := o_in hw
    refine g_zald (t := 3) (i := 0) h hL rfl (by decide) rfl rfl hv6 d_T_joinedClasses_20 ?_
    refine g_if_eq (tgt := 27) h d_T_joinedClasses_21 (by decide) (fun c7 => ?_) (fun c7 => ?_)
    · have hw := o_t c7 hw
      refine g_aload_n h d_T_joinedClasses_27 rfl rfl ?_
      refine g_getR (t := 1) (i := 0) (k := 0) (C := "FlowGate$Types") (T := T_T) (N := 3) h hL rfl (by decide) ob_1 (by decide) rfl (t' := 2) (i' := 0) rfl rfl (fun w hw => mc (in_T w hw)) (mc m_fl_T_9) rfl d_T_joinedClasses_28 ?_
      refine g_iload_n h d_T_joinedClasses_31 rfl rfl ?_
      refine g_bipush (v := 16) h d_T_joinedClasses_32 (by decide) ?_
      refine g_isub h d_T_joinedClasses_34 ?_
      obtain ⟨hv8, hw⟩ := o_in hw
      refine g_iald (t := 2) (i := 0) h hL rfl (by decide) rfl rfl hv8 d_T_joinedClasses_35 ?_
      refine g_aload_n h d_T_joinedClasses_36 rfl rfl ?_
      refine g_getR (t := 1) (i := 0) (k := 0) (C := "FlowGate$Types") (T := T_T) (N := 3) h hL rfl (by decide) ob_1 (by decide) rfl (t' := 2) (i' := 0) rfl rfl (fun w hw => mc (in_T w hw)) (mc m_fl_T_9) rfl d_T_joinedClasses_37 ?_
      refine g_iload_n h d_T_joinedClasses_40 rfl rfl ?_
      refine g_bipush (v := 16) h d_T_joinedClasses_41 (by decide) ?_
      refine g_isub h d_T_joinedClasses_43 ?_
      obtain ⟨hv9, hw⟩ := o_in hw
      refine g_iald (t := 2) (i := 0) h hL rfl (by decide) rfl rfl hv9 d_T_joinedClasses_44 ?_
      refine g_iand h d_T_joinedClasses_45 ?_
      refine g_topi (fun n10 en10 => ?_)
      have hw := o_l hw n10 en10
      refine g_istore_n (lv' := [(3, .int n10), (0, .ref (za Z 1 0)), (1, .int v1), (2, .int v2)]) h d_T_joinedClasses_46 rfl (by decide) rfl ?_
      refine g_iload_n h d_T_joinedClasses_47 rfl rfl ?_
      refine g_bipush (v := 16) h d_T_joinedClasses_48 (by decide) ?_
      refine g_isub h d_T_joinedClasses_50 ?_
      refine g_topi (fun n11 en11 => ?_)
      have hw := o_l hw n11 en11
      refine g_istore (lv' := [(4, .int n11), (3, .int n10), (0, .ref (za Z 1 0)), (1, .int v1), (2, .int v2)]) h d_T_joinedClasses_51 (by decide) rfl ?_
      refine g_sub [1, 0] rfl ?_
      exact w_T_joinedClasses_b53 hL h hQ  fuel n10 n11 M hw
    · have hw := o_f c7 hw
      refine g_bipush (v := 16) h d_T_joinedClasses_24 (by decide) ?_
      exact g_iret h hQ d_T_joinedClasses_26 hw
set_option maxHeartbeats 4000000 in
set_option maxRecDepth 100000 in
theorem w_T_joined_b106 {Z : ZT} {X : XT} (hL : Lay Z sC) (h : Ok Z X "FlowGate$Types" c_T_joined ws_T_joined 8 ({ frames := 1, cells := 0, slots := 0, locals := 24 })) {res : Int32 × Mm} (hQ : FinI Z X .int res)  (v7 : Int32) (M : Mm)  (hw : F_T_joined_b106 v7 M = some res) : G Z X M 106 [(7, .int v7)] [] := by
  rw [F_T_joined_b106] at hw
  refine g_bipush (v := 64) h d_T_joined_106 (by decide) ?_
  refine g_iload h d_T_joined_108 rfl ?_
  refine g_iconst (v := 1) h d_T_joined_110 (by decide) ?_
  refine g_isub h d_T_joined_111 ?_
  refine g_imul h d_T_joined_112 ?_
  refine g_bipush (v := 16) h d_T_joined_113 (by decide) ?_
  refine g_iadd h d_T_joined_115 ?_
  exact g_iret h hQ d_T_joined_116 hw
set_option maxHeartbeats 4000000 in
set_option maxRecDepth 100000 in
theorem w_T_joined_b80 {Z : ZT} {X : XT} (hL : Lay Z sC) (h : Ok Z X "FlowGate$Types" c_T_joined ws_T_joined 8 ({ frames := 1, cells := 0, slots := 0, locals := 24 })) {res : Int32 × Mm} (hQ : FinI Z X .int res)  (v1 : Int32) (v2 : Int32) (v5 : Int32) (v6 : Int32) (s0 : Int32) (M : Mm)  (hw : F_T_joined_b80 v1 v2 v5 v6 s0 M = some res) : G Z X M 80 [(0, .ref (za Z 1 0)), (1, .int v1), (2, .int v2), (5, .int v5), (6, .int v6)] [.int s0] := by
  rw [F_T_joined_b80] at hw
  refine g_istore (lv' := [(7, .int s0), (0, .ref (za Z 1 0)), (1, .int v1), (2, .int v2), (5, .int v5), (6, .int v6)]) h d_T_joined_80 (by decide) rfl ?_
  refine g_iload_n h d_T_joined_82 rfl rfl ?_
  refine g_bipush (v := 64) h d_T_joined_83 (by decide) ?_
  refine g_iload h d_T_joined_85 rfl ?_
  refine g_imul h d_T_joined_87 ?_
  refine g_isub h d_T_joined_88 ?_
  refine g_bipush (v := 12) h d_T_joined_89 (by decide) ?_
  refine g_icmp_eq (tgt := 106) h d_T_joined_91 (by decide) (fun c1 => ?_) (fun c1 => ?_)
  · have hw := o_t c1 hw
    refine g_sub [0] rfl ?_
    exact w_T_joined_b106 hL h hQ  s0 M hw
  · have hw := o_f c1 hw
    refine g_iload_n h d_T_joined_94 rfl rfl ?_
    refine g_bipush (v := 64) h d_T_joined_95 (by decide) ?_
    refine g_iload h d_T_joined_97 rfl ?_
    refine g_imul h d_T_joined_99 ?_
    refine g_isub h d_T_joined_100 ?_
    refine g_bipush (v := 12) h d_T_joined_101 (by decide) ?_
    refine g_icmp_ne (tgt := 117) h d_T_joined_103 (by decide) (fun c2 => ?_) (fun c2 => ?_)
    · have hw := o_f c2 hw
      refine g_iload h d_T_joined_117 rfl ?_
      refine g_iload h d_T_joined_119 rfl ?_
      refine g_icmp_eq (tgt := 133) h d_T_joined_121 (by decide) (fun c3 => ?_) (fun c3 => ?_)
      · have hw := o_t c3 hw
        refine g_bipush (v := 64) h d_T_joined_133 (by decide) ?_
        refine g_iload h d_T_joined_135 rfl ?_
        refine g_imul h d_T_joined_137 ?_
        refine g_aload_n h d_T_joined_138 rfl rfl ?_
        refine g_iload_n h d_T_joined_139 rfl rfl ?_
        refine g_bipush (v := 64) h d_T_joined_140 (by decide) ?_
        refine g_iload h d_T_joined_142 rfl ?_
        refine g_imul h d_T_joined_144 ?_
        refine g_isub h d_T_joined_145 ?_
        refine g_iload_n h d_T_joined_146 rfl rfl ?_
        refine g_bipush (v := 64) h d_T_joined_147 (by decide) ?_
        refine g_iload h d_T_joined_149 rfl ?_
        refine g_imul h d_T_joined_151 ?_
        refine g_isub h d_T_joined_152 ?_
        obtain ⟨r6, M5, hc4, hw⟩ := o_b hw
        refine g_calli h (g_runV (rest := [.int ((64 : Int32) * s0)]) h (ct_T_joinedClasses hL (v1 - ((64 : Int32) * s0)) (v2 - ((64 : Int32) * s0)) M hc4) (cwV 2 h.2.2.2.2.1 (g_V m_ml_T_34 m_im_T_joinedClasses m_se_T_joinedClasses m_in_T m_co_T_joinedClasses) rfl rfl rfl (by decide +kernel) ⟨Nat.le_of_ble_eq_true rfl, Nat.le_of_ble_eq_true rfl⟩) (hL.recv h rfl (by decide) ob_1) rfl rfl (Nat.le_of_ble_eq_true rfl) d_T_joined_153) ?_
        refine g_iadd h d_T_joined_156 ?_
        exact g_iret h hQ d_T_joined_157 hw
      · have hw := o_f c3 hw
        refine g_bipush (v := 64) h d_T_joined_124 (by decide) ?_
        refine g_iload h d_T_joined_126 rfl ?_
        refine g_imul h d_T_joined_128 ?_
        refine g_bipush (v := 16) h d_T_joined_129 (by decide) ?_
        refine g_iadd h d_T_joined_131 ?_
        exact g_iret h hQ d_T_joined_132 hw
    · have hw := o_t c2 hw
      refine g_sub [0] rfl ?_
      exact w_T_joined_b106 hL h hQ  s0 M hw
set_option maxHeartbeats 4000000 in
set_option maxRecDepth 100000 in
theorem w_T_joined_b43 {Z : ZT} {X : XT} (hL : Lay Z sC) (h : Ok Z X "FlowGate$Types" c_T_joined ws_T_joined 8 ({ frames := 1, cells := 0, slots := 0, locals := 24 })) {res : Int32 × Mm} (hQ : FinI Z X .int res)  (v1 : Int32) (v2 : Int32) (v3 : Int32) (v4 : Int32) (M : Mm)  (hw : F_T_joined_b43 v1 v2 v3 v4 M = some res) : G Z X M 43 [(0, .ref (za Z 1 0)), (1, .int v1), (2, .int v2), (3, .int v3), (4, .int v4)] [] := by
  rw [F_T_joined_b43] at hw
  refine g_iload_n h d_T_joined_43 rfl rfl ?_
  refine g_if_eq (tgt := 52) h d_T_joined_44 (by decide) (fun c7 => ?_) (fun c7 => ?_)
  · have hw := o_t c7 hw
    refine g_iconst (v := 0) h d_T_joined_52 (by decide) ?_
    exact g_iret h hQ d_T_joined_53 hw
  · have hw := o_f c7 hw
    refine g_iload h d_T_joined_47 rfl ?_
    refine g_if_ne (tgt := 54) h d_T_joined_49 (by decide) (fun c8 => ?_) (fun c8 => ?_)
    · have hw := o_f c8 hw
      refine g_iload_n h d_T_joined_54 rfl rfl ?_
      refine g_bipush (v := 6) h d_T_joined_55 (by decide) ?_
      refine g_ishr h d_T_joined_57 ?_
      refine g_topi (fun n9 en9 => ?_)
      have hw := o_l hw n9 en9
      refine g_istore (lv' := [(5, .int n9), (0, .ref (za Z 1 0)), (1, .int v1), (2, .int v2), (3, .int v3), (4, .int v4)]) h d_T_joined_58 (by decide) rfl ?_
      refine g_iload_n h d_T_joined_60 rfl rfl ?_
      refine g_bipush (v := 6) h d_T_joined_61 (by decide) ?_
      refine g_ishr h d_T_joined_63 ?_
      refine g_topi (fun n10 en10 => ?_)
      have hw := o_l hw n10 en10
      refine g_istore (lv' := [(6, .int n10), (5, .int n9), (0, .ref (za Z 1 0)), (1, .int v1), (2, .int v2), (3, .int v3), (4, .int v4)]) h d_T_joined_64 (by decide) rfl ?_
      refine g_iload h d_T_joined_66 rfl ?_
      refine g_iload h d_T_joined_68 rfl ?_
      refine g_icmp_ge (tgt := 78) h d_T_joined_70 (by decide) (fun c11 => ?_) (fun c11 => ?_)
      · have hw := o_t c11 hw
        refine g_iload h d_T_joined_78 rfl ?_
        refine g_sub [2, 3, 4, 1, 0] rfl ?_
        exact w_T_joined_b80 hL h hQ  v1 v2 n9 n10 n10 M hw
      · have hw := o_f c11 hw
        refine g_iload h d_T_joined_73 rfl ?_
        refine g_goto (tgt := 80) h d_T_joined_75 (by decide) ?_
        refine g_sub [2, 3, 4, 1, 0] rfl ?_
        exact w_T_joined_b80 hL h hQ  v1 v2 n9 n10 n9 M hw
    · have hw := o_t c8 hw
      refine g_iconst (v := 0) h d_T_joined_52 (by decide) ?_
      exact g_iret h hQ d_T_joined_53 hw
set_option maxHeartbeats 4000000 in
set_option maxRecDepth 100000 in
theorem w_T_joined_b31 {Z : ZT} {X : XT} (hL : Lay Z sC) (h : Ok Z X "FlowGate$Types" c_T_joined ws_T_joined 8 ({ frames := 1, cells := 0, slots := 0, locals := 24 })) {res : Int32 × Mm} (hQ : FinI Z X .int res)  (v1 : Int32) (v2 : Int32) (v3 : Int32) (v4 : Int32) (M : Mm)  (hw : F_T_joined_b31 v1 v2 v3 v4 M = some res) : G Z X M 31 [(0, .ref (za Z 1 0)), (1, .int v1), (2, .int v2), (3, .int v3), (4, .int v4)] [] := by
  rw [F_T_joined_b31] at hw
  refine g_iload h d_T_joined_31 rfl ?_
  refine g_if_eq (tgt := 43) h d_T_joined_33 (by decide) (fun c12 => ?_) (fun c12 => ?_)
  · have hw := o_t c12 hw
    refine g_sub [0, 1, 2, 3, 4] rfl ?_
    exact w_T_joined_b43 hL h hQ  v1 v2 v3 v4 M hw
  · have hw := o_f c12 hw
    refine g_iload_n h d_T_joined_36 rfl rfl ?_
    refine g_iconst (v := 5) h d_T_joined_37 (by decide) ?_
    refine g_icmp_ne (tgt := 43) h d_T_joined_38 (by decide) (fun c13 => ?_) (fun c13 => ?_)
    · have hw := o_f c13 hw
      refine g_sub [0, 1, 2, 3, 4] rfl ?_
      exact w_T_joined_b43 hL h hQ  v1 v2 v3 v4 M hw
    · have hw := o_t c13 hw
      refine g_iload_n h d_T_joined_41 rfl rfl ?_
      exact g_iret h hQ d_T_joined_42 hw
set_option maxHeartbeats 4000000 in
set_option maxRecDepth 100000 in
theorem ct_T_joined {Z : ZT} (hL : Lay Z sC) (v1 : Int32) (v2 : Int32) (M : Mm)  {res : Int32 × Mm} (hw : F_T_joined v1 v2 M = some res) : CtI Z y_T_joined ws_T_joined (({ frames := 1, cells := 0, slots := 0, locals := 24 })) [.ref (za Z 1 0), .int v1, .int v2] M res := by
  refine CtI.of hL (cc := c_T_joined) (maxL := 8) (by decide) rfl (Nat.le_of_ble_eq_true rfl) (fun X h hQ => ?_)
  show G Z X M 0 [(0, .ref (za Z 1 0)), (1, .int v1), (2, .int v2)] []
  rw [F_T_joined] at hw
  refine g_iload_n h d_T_joined_0 rfl rfl ?_
  refine g_iload_n h d_T_joined_1 rfl rfl ?_
  refine g_icmp_ne (tgt := 7) h d_T_joined_2 (by decide) (fun c14 => ?_) (fun c14 => ?_)
  · have hw := o_f c14 hw
    refine g_aload_n h d_T_joined_7 rfl rfl ?_
    refine g_iload_n h d_T_joined_8 rfl rfl ?_
    refine g_calli h (g_runV (rest := []) h (ct_T_isRef hL v1 M (p_T_isRef v1 M)) (cwV 1 h.2.2.2.2.1 (g_V m_ml_T_23 m_im_T_isRef m_se_T_isRef m_in_T m_co_T_isRef) rfl rfl rfl (by decide +kernel) ⟨Nat.le_of_ble_eq_true rfl, Nat.le_of_ble_eq_true rfl⟩) (hL.recv h rfl (by decide) ob_1) rfl rfl (Nat.le_of_ble_eq_true rfl) d_T_joined_9) ?_
    refine g_topi (fun r16 er16 => ?_)
    have hw := o_l hw r16 er16
    refine g_istore_n (lv' := [(3, .int r16), (0, .ref (za Z 1 0)), (1, .int v1), (2, .int v2)]) h d_T_joined_12 rfl (by decide) rfl ?_
    refine g_aload_n h d_T_joined_13 rfl rfl ?_
    refine g_iload_n h d_T_joined_14 rfl rfl ?_
    refine g_calli h (g_runV (rest := []) h (ct_T_isRef hL v2 M (p_T_isRef v2 M)) (cwV 1 h.2.2.2.2.1 (g_V m_ml_T_23 m_im_T_isRef m_se_T_isRef m_in_T m_co_T_isRef) rfl rfl rfl (by decide +kernel) ⟨Nat.le_of_ble_eq_true rfl, Nat.le_of_ble_eq_true rfl⟩) (hL.recv h rfl (by decide) ob_1) rfl rfl (Nat.le_of_ble_eq_true rfl) d_T_joined_15) ?_
    refine g_topi (fun r18 er18 => ?_)
    have hw := o_l hw r18 er18
    refine g_istore (lv' := [(4, .int r18), (3, .int r16), (0, .ref (za Z 1 0)), (1, .int v1), (2, .int v2)]) h d_T_joined_18 (by decide) rfl ?_
    refine g_iload_n h d_T_joined_20 rfl rfl ?_
    refine g_if_eq (tgt := 31) h d_T_joined_21 (by decide) (fun c19 => ?_) (fun c19 => ?_)
    · have hw := o_t c19 hw
      refine g_sub [2, 3, 4, 1, 0] rfl ?_
      exact w_T_joined_b31 hL h hQ  v1 v2 r16 r18 M hw
    · have hw := o_f c19 hw
      refine g_iload_n h d_T_joined_24 rfl rfl ?_
      refine g_iconst (v := 5) h d_T_joined_25 (by decide) ?_
      refine g_icmp_ne (tgt := 31) h d_T_joined_26 (by decide) (fun c20 => ?_) (fun c20 => ?_)
      · have hw := o_f c20 hw
        refine g_sub [2, 3, 4, 1, 0] rfl ?_
        exact w_T_joined_b31 hL h hQ  v1 v2 r16 r18 M hw
      · have hw := o_t c20 hw
        refine g_iload_n h d_T_joined_29 rfl rfl ?_
        exact g_iret h hQ d_T_joined_30 hw
  · have hw := o_t c14 hw
    refine g_iload_n h d_T_joined_5 rfl rfl ?_
    exact g_iret h hQ d_T_joined_6 hw
set_option maxHeartbeats 4000000 in
set_option maxRecDepth 100000 in
theorem w_R_absorb_b59 {Z : ZT} {X : XT} (hL : Lay Z sC) (h : Ok Z X "FlowGate$Frame" c_R_absorb ws_R_absorb 6 ({ frames := 2, cells := 0, slots := 0, locals := 51 })) {res : Int32 × Mm} (hQ : FinI Z X .boolean res) {K9 : Nat → Nat → Int32 → Int32 → Mm → Option (Int32 × Mm)} (hK9 : ∀ (i0 : Nat) (i1 : Nat) (v3 : Int32) (v4 : Int32) (M : Mm), i0 < cnt 19 → i1 < cnt 19 → K9 i0 i1 v3 v4 M = some res → G Z X M 9 [(0, .ref (za Z 19 i0)), (1, .ref (za Z 19 i1)), (2, .ref (za Z 1 0)), (3, .int v3), (4, .int v4)] []) (i0 : Nat) (i1 : Nat) (v3 : Int32) (v4 : Int32) (M : Mm) (hbi0 : i0 < cnt 19) (hbi1 : i1 < cnt 19) (hw : F_R_absorb_b59 K9 i0 i1 v3 v4 M = some res) : G Z X M 59 [(0, .ref (za Z 19 i0)), (1, .ref (za Z 19 i1)), (2, .ref (za Z 1 0)), (3, .int v3), (4, .int v4)] [] := by
  rw [F_R_absorb_b59] at hw
  refine g_iinc (n' := 1) (lw := fun y => [(4, .int y), (0, .ref (za Z 19 i0)), (1, .ref (za Z 19 i1)), (2, .ref (za Z 1 0)), (3, .int v3)]) h d_R_absorb_59 rfl (by decide) (by decide) (fun _ => rfl) (fun n1 en1 => ?_)
  have hw := o_l hw n1 en1
  refine g_goto (tgt := 9) h d_R_absorb_62 (by decide) ?_
  refine g_sub [1, 2, 3, 4, 0] rfl ?_
  exact hK9 i0 i1 v3 n1 M hbi0 hbi1 hw
set_option maxHeartbeats 4000000 in
set_option maxRecDepth 100000 in
theorem w_R_absorb_b120 {Z : ZT} {X : XT} (hL : Lay Z sC) (h : Ok Z X "FlowGate$Frame" c_R_absorb ws_R_absorb 6 ({ frames := 2, cells := 0, slots := 0, locals := 51 })) {res : Int32 × Mm} (hQ : FinI Z X .boolean res) {K68 : Nat → Nat → Int32 → Int32 → Mm → Option (Int32 × Mm)} (hK68 : ∀ (i0 : Nat) (i1 : Nat) (v3 : Int32) (v4 : Int32) (M : Mm), i0 < cnt 19 → i1 < cnt 19 → K68 i0 i1 v3 v4 M = some res → G Z X M 68 [(0, .ref (za Z 19 i0)), (1, .ref (za Z 19 i1)), (2, .ref (za Z 1 0)), (3, .int v3), (4, .int v4)] []) (i0 : Nat) (i1 : Nat) (v3 : Int32) (v4 : Int32) (M : Mm) (hbi0 : i0 < cnt 19) (hbi1 : i1 < cnt 19) (hw : F_R_absorb_b120 K68 i0 i1 v3 v4 M = some res) : G Z X M 120 [(0, .ref (za Z 19 i0)), (1, .ref (za Z 19 i1)), (2, .ref (za Z 1 0)), (3, .int v3), (4, .int v4)] [] := by
  rw [F_R_absorb_b120] at hw
  refine g_iinc (n' := 1) (lw := fun y => [(4, .int y), (0, .ref (za Z 19 i0)), (1, .ref (za Z 19 i1)), (2, .ref (za Z 1 0)), (3, .int v3)]) h d_R_absorb_120 rfl (by decide) (by decide) (fun _ => rfl) (fun n2 en2 => ?_)
  have hw := o_l hw n2 en2
  refine g_goto (tgt := 68) h d_R_absorb_123 (by decide) ?_
  refine g_sub [1, 2, 3, 4, 0] rfl ?_
  exact hK68 i0 i1 v3 n2 M hbi0 hbi1 hw
set_option maxHeartbeats 4000000 in
set_option maxRecDepth 100000 in
theorem w_R_absorb_b68 {Z : ZT} {X : XT} (hL : Lay Z sC) (h : Ok Z X "FlowGate$Frame" c_R_absorb ws_R_absorb 6 ({ frames := 2, cells := 0, slots := 0, locals := 51 })) {res : Int32 × Mm} (hQ : FinI Z X .boolean res)  : ∀ (n : Nat) (i0 : Nat) (i1 : Nat) (v3 : Int32) (v4 : Int32) (M : Mm), i0 < cnt 19 → i1 < cnt 19 → F_R_absorb_b68  n i0 i1 v3 v4 M = some res → G Z X M 68 [(0, .ref (za Z 19 i0)), (1, .ref (za Z 19 i1)), (2, .ref (za Z 1 0)), (3, .int v3), (4, .int v4)] [] := by
  intro n
  induction n with
  | zero =>
    intro i0 i1 v3 v4 M hbi0 hbi1 hw
    cases hw
  | succ n hK68 =>
    intro i0 i1 v3 v4 M hbi0 hbi1 hw
    rw [F_R_absorb_b68] at hw
    refine g_iload h d_R_absorb_68 rfl ?_
    refine g_aload_n h d_R_absorb_70 rfl rfl ?_
    refine g_getI (t := 19) (i := i0) (k := 2) (C := "FlowGate$Frame") (T := T_R) (N := 5) h hL rfl hbi0 ob_19 (by decide) rfl (fun w hw => mc (in_R w hw)) (mc m_fl_R_27) rfl d_R_absorb_71 ?_
    refine g_icmp_ge (tgt := 126) h d_R_absorb_74 (by decide) (fun c3 => ?_) (fun c3 => ?_)
    · have hw := o_t c3 hw
      refine g_iload_n h d_R_absorb_126 rfl rfl ?_
      obtain ⟨hn4, hw⟩ := o_nz hw
      exact g_zret h hQ d_R_absorb_127 hn4 hw
    · have hw := o_f c3 hw
      refine g_aload_n h d_R_absorb_77 rfl rfl ?_
      refine g_getR (t := 19) (i := i0) (k := 1) (C := "FlowGate$Frame") (T := T_R) (N := 5) h hL rfl hbi0 ob_19 (by decide) rfl (t' := 21) (i' := i0) rfl rfl (fun w hw => mc (in_R w hw)) (mc m_fl_R_15) rfl d_R_absorb_78 ?_
      refine g_iload h d_R_absorb_81 rfl ?_
      obtain ⟨hv5, hw⟩ := o_in hw
      refine g_iald (t := 21) (i := i0) h hL rfl hbi0 rfl rfl hv5 d_R_absorb_83 ?_
      refine g_topi (fun n6 en6 => ?_)
      have hw := o_l hw n6 en6
      refine g_istore (lv' := [(5, .int n6), (0, .ref (za Z 19 i0)), (1, .ref (za Z 19 i1)), (2, .ref (za Z 1 0)), (3, .int v3), (4, .int v4)]) h d_R_absorb_84 (by decide) rfl ?_
      refine g_aload_n h d_R_absorb_86 rfl rfl ?_
      refine g_getR (t := 19) (i := i0) (k := 1) (C := "FlowGate$Frame") (T := T_R) (N := 5) h hL rfl hbi0 ob_19 (by decide) rfl (t' := 21) (i' := i0) rfl rfl (fun w hw => mc (in_R w hw)) (mc m_fl_R_15) rfl d_R_absorb_87 ?_
      refine g_iload h d_R_absorb_90 rfl ?_
      refine g_aload_n h d_R_absorb_92 rfl rfl ?_
      refine g_iload h d_R_absorb_93 rfl ?_
      refine g_aload_n h d_R_absorb_95 rfl rfl ?_
      refine g_getR (t := 19) (i := i1) (k := 1) (C := "FlowGate$Frame") (T := T_R) (N := 5) h hL rfl hbi1 ob_19 (by decide) rfl (t' := 21) (i' := i1) rfl rfl (fun w hw => mc (in_R w hw)) (mc m_fl_R_15) rfl d_R_absorb_96 ?_
      refine g_iload h d_R_absorb_99 rfl ?_
      obtain ⟨hv7, hw⟩ := o_in hw
      refine g_iald (t := 21) (i := i1) h hL rfl hbi1 rfl rfl hv7 d_R_absorb_101 ?_
      obtain ⟨r10, M9, hc8, hw⟩ := o_b hw
      refine g_calli h (g_runV (rest := [.int v4, .ref (za Z 21 i0)]) h (ct_T_joined hL n6 (M.1 21 i1 (v4 : Int32).toNatClampNeg) M hc8) (cwV 2 h.2.2.2.2.1 (g_V m_ml_R_83 m_im_T_joined m_se_T_joined m_in_T m_co_T_joined) rfl rfl rfl (by decide +kernel) ⟨Nat.le_of_ble_eq_true rfl, Nat.le_of_ble_eq_true rfl⟩) (hL.recv h rfl (by decide) ob_1) rfl rfl (Nat.le_of_ble_eq_true rfl) d_R_absorb_102) ?_
      obtain ⟨hv11, hw⟩ := o_in hw
      refine g_iast (t := 21) (i := i0) h hL rfl hbi0 rfl rfl hv11 d_R_absorb_105 ?_
      refine g_mem (fun M12 eM12 => ?_)
      have hw := o_l hw M12 eM12
      refine g_aload_n h d_R_absorb_106 rfl rfl ?_
      refine g_getR (t := 19) (i := i0) (k := 1) (C := "FlowGate$Frame") (T := T_R) (N := 5) h hL rfl hbi0 ob_19 (by decide) rfl (t' := 21) (i' := i0) rfl rfl (fun w hw => mc (in_R w hw)) (mc m_fl_R_15) rfl d_R_absorb_107 ?_
      refine g_iload h d_R_absorb_110 rfl ?_
      obtain ⟨hv13, hw⟩ := o_in hw
      refine g_iald (t := 21) (i := i0) h hL rfl hbi0 rfl rfl hv13 d_R_absorb_112 ?_
      refine g_iload h d_R_absorb_113 rfl ?_
      refine g_icmp_eq (tgt := 120) h d_R_absorb_115 (by decide) (fun c14 => ?_) (fun c14 => ?_)
      · have hw := o_t c14 hw
        refine g_sub [1, 2, 3, 4, 5] rfl ?_
        exact w_R_absorb_b120 hL h hQ hK68 i0 i1 v3 v4 M12 hbi0 hbi1 hw
      · have hw := o_f c14 hw
        refine g_iconst (v := 1) h d_R_absorb_118 (by decide) ?_
        refine g_istore_n (lv' := [(3, .int 1), (5, .int n6), (0, .ref (za Z 19 i0)), (1, .ref (za Z 19 i1)), (2, .ref (za Z 1 0)), (4, .int v4)]) h d_R_absorb_119 rfl (by decide) rfl ?_
        refine g_sub [2, 3, 4, 0, 5] rfl ?_
        exact w_R_absorb_b120 hL h hQ hK68 i0 i1 1 v4 M12 hbi0 hbi1 hw
set_option maxHeartbeats 4000000 in
set_option maxRecDepth 100000 in
theorem w_R_absorb_b9 {Z : ZT} {X : XT} (hL : Lay Z sC) (h : Ok Z X "FlowGate$Frame" c_R_absorb ws_R_absorb 6 ({ frames := 2, cells := 0, slots := 0, locals := 51 })) {res : Int32 × Mm} (hQ : FinI Z X .boolean res)  : ∀ (n : Nat) (i0 : Nat) (i1 : Nat) (v3 : Int32) (v4 : Int32) (M : Mm), i0 < cnt 19 → i1 < cnt 19 → F_R_absorb_b9  n i0 i1 v3 v4 M = some res → G Z X M 9 [(0, .ref (za Z 19 i0)), (1, .ref (za Z 19 i1)), (2, .ref (za Z 1 0)), (3, .int v3), (4, .int v4)] [] := by
  intro n
  induction n with
  | zero =>
    intro i0 i1 v3 v4 M hbi0 hbi1 hw
    cases hw
  | succ n hK9 =>
    intro i0 i1 v3 v4 M hbi0 hbi1 hw
    rw [F_R_absorb_b9] at hw
    refine g_iload h d_R_absorb_9 rfl ?_
    refine g_bipush (v := 12) h d_R_absorb_11 (by decide) ?_
    refine g_icmp_ge (tgt := 65) h d_R_absorb_13 (by decide) (fun c15 => ?_) (fun c15 => ?_)
    · have hw := o_t c15 hw
      refine g_iconst (v := 0) h d_R_absorb_65 (by decide) ?_
      refine g_istore (lv' := [(4, .int 0), (0, .ref (za Z 19 i0)), (1, .ref (za Z 19 i1)), (2, .ref (za Z 1 0)), (3, .int v3)]) h d_R_absorb_66 (by decide) rfl ?_
      refine g_sub [1, 2, 3, 4, 0] rfl ?_
      exact w_R_absorb_b68 hL h hQ  fuel i0 i1 v3 0 M hbi0 hbi1 hw
    · have hw := o_f c15 hw
      refine g_aload_n h d_R_absorb_16 rfl rfl ?_
      refine g_getR (t := 19) (i := i0) (k := 0) (C := "FlowGate$Frame") (T := T_R) (N := 5) h hL rfl hbi0 ob_19 (by decide) rfl (t' := 20) (i' := i0) rfl rfl (fun w hw => mc (in_R w hw)) (mc m_fl_R_9) rfl d_R_absorb_17 ?_
      refine g_iload h d_R_absorb_20 rfl ?_
      obtain ⟨hv16, hw⟩ := o_in hw
      refine g_iald (t := 20) (i := i0) h hL rfl hbi0 rfl rfl hv16 d_R_absorb_22 ?_
      refine g_topi (fun n17 en17 => ?_)
      have hw := o_l hw n17 en17
      refine g_istore (lv' := [(5, .int n17), (0, .ref (za Z 19 i0)), (1, .ref (za Z 19 i1)), (2, .ref (za Z 1 0)), (3, .int v3), (4, .int v4)]) h d_R_absorb_23 (by decide) rfl ?_
      refine g_aload_n h d_R_absorb_25 rfl rfl ?_
      refine g_getR (t := 19) (i := i0) (k := 0) (C := "FlowGate$Frame") (T := T_R) (N := 5) h hL rfl hbi0 ob_19 (by decide) rfl (t' := 20) (i' := i0) rfl rfl (fun w hw => mc (in_R w hw)) (mc m_fl_R_9) rfl d_R_absorb_26 ?_
      refine g_iload h d_R_absorb_29 rfl ?_
      refine g_aload_n h d_R_absorb_31 rfl rfl ?_
      refine g_iload h d_R_absorb_32 rfl ?_
      refine g_aload_n h d_R_absorb_34 rfl rfl ?_
      refine g_getR (t := 19) (i := i1) (k := 0) (C := "FlowGate$Frame") (T := T_R) (N := 5) h hL rfl hbi1 ob_19 (by decide) rfl (t' := 20) (i' := i1) rfl rfl (fun w hw => mc (in_R w hw)) (mc m_fl_R_9) rfl d_R_absorb_35 ?_
      refine g_iload h d_R_absorb_38 rfl ?_
      obtain ⟨hv18, hw⟩ := o_in hw
      refine g_iald (t := 20) (i := i1) h hL rfl hbi1 rfl rfl hv18 d_R_absorb_40 ?_
      obtain ⟨r21, M20, hc19, hw⟩ := o_b hw
      refine g_calli h (g_runV (rest := [.int v4, .ref (za Z 20 i0)]) h (ct_T_joined hL n17 (M.1 20 i1 (v4 : Int32).toNatClampNeg) M hc19) (cwV 2 h.2.2.2.2.1 (g_V m_ml_R_83 m_im_T_joined m_se_T_joined m_in_T m_co_T_joined) rfl rfl rfl (by decide +kernel) ⟨Nat.le_of_ble_eq_true rfl, Nat.le_of_ble_eq_true rfl⟩) (hL.recv h rfl (by decide) ob_1) rfl rfl (Nat.le_of_ble_eq_true rfl) d_R_absorb_41) ?_
      obtain ⟨hv22, hw⟩ := o_in hw
      refine g_iast (t := 20) (i := i0) h hL rfl hbi0 rfl rfl hv22 d_R_absorb_44 ?_
      refine g_mem (fun M23 eM23 => ?_)
      have hw := o_l hw M23 eM23
      refine g_aload_n h d_R_absorb_45 rfl rfl ?_
      refine g_getR (t := 19) (i := i0) (k := 0) (C := "FlowGate$Frame") (T := T_R) (N := 5) h hL rfl hbi0 ob_19 (by decide) rfl (t' := 20) (i' := i0) rfl rfl (fun w hw => mc (in_R w hw)) (mc m_fl_R_9) rfl d_R_absorb_46 ?_
      refine g_iload h d_R_absorb_49 rfl ?_
      obtain ⟨hv24, hw⟩ := o_in hw
      refine g_iald (t := 20) (i := i0) h hL rfl hbi0 rfl rfl hv24 d_R_absorb_51 ?_
      refine g_iload h d_R_absorb_52 rfl ?_
      refine g_icmp_eq (tgt := 59) h d_R_absorb_54 (by decide) (fun c25 => ?_) (fun c25 => ?_)
      · have hw := o_t c25 hw
        refine g_sub [1, 2, 3, 4, 5] rfl ?_
        exact w_R_absorb_b59 hL h hQ hK9 i0 i1 v3 v4 M23 hbi0 hbi1 hw
      · have hw := o_f c25 hw
        refine g_iconst (v := 1) h d_R_absorb_57 (by decide) ?_
        refine g_istore_n (lv' := [(3, .int 1), (5, .int n17), (0, .ref (za Z 19 i0)), (1, .ref (za Z 19 i1)), (2, .ref (za Z 1 0)), (4, .int v4)]) h d_R_absorb_58 rfl (by decide) rfl ?_
        refine g_sub [2, 3, 4, 0, 5] rfl ?_
        exact w_R_absorb_b59 hL h hQ hK9 i0 i1 1 v4 M23 hbi0 hbi1 hw
set_option maxHeartbeats 4000000 in
set_option maxRecDepth 100000 in
theorem ct_R_absorb {Z : ZT} (hL : Lay Z sC) (i0 : Nat) (i1 : Nat) (M : Mm) (hbi0 : i0 < cnt 19) (hbi1 : i1 < cnt 19) {res : Int32 × Mm} (hw : F_R_absorb i0 i1 M = some res) : CtI Z y_R_absorb ws_R_absorb (({ frames := 2, cells := 0, slots := 0, locals := 51 })) [.ref (za Z 19 i0), .ref (za Z 19 i1), .ref (za Z 1 0)] M res := by
  refine CtI.of hL (cc := c_R_absorb) (maxL := 6) (by decide) rfl (Nat.le_of_ble_eq_true rfl) (fun X h hQ => ?_)
  show G Z X M 0 [(0, .ref (za Z 19 i0)), (1, .ref (za Z 19 i1)), (2, .ref (za Z 1 0))] []
  rw [F_R_absorb] at hw
  refine g_aload_n h d_R_absorb_0 rfl rfl ?_
  refine g_aload_n h d_R_absorb_1 rfl rfl ?_
  obtain ⟨r28, M27, hc26, hw⟩ := o_b hw
  refine g_calli h (g_runV (rest := []) h (ct_R_absorbSubs hL i0 i1 M hbi0 hbi1 hc26) (cwV 1 h.2.2.2.2.1 (g_V m_ml_R_79 m_im_R_absorbSubs m_se_R_absorbSubs m_in_R m_co_R_absorbSubs) rfl rfl rfl (by decide +kernel) ⟨Nat.le_of_ble_eq_true rfl, Nat.le_of_ble_eq_true rfl⟩) (hL.recv h rfl hbi0 ob_19) rfl rfl (Nat.le_of_ble_eq_true rfl) d_R_absorb_2) ?_
  refine g_istore_n (lv' := [(3, .int r28), (0, .ref (za Z 19 i0)), (1, .ref (za Z 19 i1)), (2, .ref (za Z 1 0))]) h d_R_absorb_5 rfl (by decide) rfl ?_
  refine g_iconst (v := 0) h d_R_absorb_6 (by decide) ?_
  refine g_istore (lv' := [(4, .int 0), (3, .int r28), (0, .ref (za Z 19 i0)), (1, .ref (za Z 19 i1)), (2, .ref (za Z 1 0))]) h d_R_absorb_7 (by decide) rfl ?_
  refine g_sub [2, 3, 4, 1, 0] rfl ?_
  exact w_R_absorb_b9 hL h hQ  fuel i0 i1 r28 0 M27 hbi0 hbi1 hw
set_option maxHeartbeats 4000000 in
set_option maxRecDepth 100000 in
theorem w_W_meet_b28 {Z : ZT} {X : XT} (hL : Lay Z sC) (h : Ok Z X "FlowGate$Flow" c_W_meet ws_W_meet 4 ({ frames := 3, cells := 0, slots := 0, locals := 103 })) {res : Int32 × Mm} (hQ : FinI Z X .int res)  (v2 : Int32) (i3 : Nat) (M : Mm) (hbi3 : i3 < cnt 19) (hw : F_W_meet_b28 v2 i3 M = some res) : G Z X M 28 [(0, .ref (za Z 14 0)), (2, .int v2), (3, .ref (za Z 19 i3))] [] := by
  rw [F_W_meet_b28] at hw
  refine g_aload_n h d_W_meet_28 rfl rfl ?_
  refine g_getR (t := 14) (i := 0) (k := 3) (C := "FlowGate$Flow") (T := T_W) (N := 12) h hL rfl (by decide) ob_14 (by decide) rfl (t' := 16) (i' := 0) rfl rfl (fun w hw => mc (in_W w hw)) (mc m_fl_W_17) rfl d_W_meet_29 ?_
  refine g_iload_n h d_W_meet_32 rfl rfl ?_
  obtain ⟨hv1, hw⟩ := o_in hw
  refine g_zald (t := 16) (i := 0) h hL rfl (by decide) rfl rfl hv1 d_W_meet_33 ?_
  refine g_if_ne (tgt := 45) h d_W_meet_34 (by decide) (fun c2 => ?_) (fun c2 => ?_)
  · have hw := o_f c2 hw
    refine g_aload_n h d_W_meet_45 rfl rfl ?_
    refine g_getR (t := 14) (i := 0) (k := 2) (C := "FlowGate$Flow") (T := T_W) (N := 12) h hL rfl (by decide) ob_14 (by decide) rfl (t' := 15) (i' := 0) rfl rfl (fun w hw => mc (in_W w hw)) (mc m_fl_W_11) rfl d_W_meet_46 ?_
    refine g_iload_n h d_W_meet_49 rfl rfl ?_
    obtain ⟨hv3, hw⟩ := o_in hw
    refine g_aald (t' := 19) (i' := (v2 : Int32).toNatClampNeg + 2) (t := 15) (i := 0) h hL rfl (by decide) rfl rfl hv3 (C := "FlowGate$Frame") rfl rfl rfl d_W_meet_50 ?_
    refine g_getI (t := 19) (i := (v2 : Int32).toNatClampNeg + 2) (k := 2) (C := "FlowGate$Frame") (T := T_R) (N := 5) h hL rfl (ix_lt hv3 (by decide)) ob_19 (by decide) rfl (fun w hw => mc (in_R w hw)) (mc m_fl_W_136) rfl d_W_meet_51 ?_
    refine g_aload_n h d_W_meet_54 rfl rfl ?_
    refine g_getI (t := 19) (i := i3) (k := 2) (C := "FlowGate$Frame") (T := T_R) (N := 5) h hL rfl hbi3 ob_19 (by decide) rfl (fun w hw => mc (in_R w hw)) (mc m_fl_W_136) rfl d_W_meet_55 ?_
    refine g_icmp_eq (tgt := 68) h d_W_meet_58 (by decide) (fun c4 => ?_) (fun c4 => ?_)
    · have hw := o_t c4 hw
      refine g_aload_n h d_W_meet_68 rfl rfl ?_
      refine g_getR (t := 14) (i := 0) (k := 2) (C := "FlowGate$Flow") (T := T_W) (N := 12) h hL rfl (by decide) ob_14 (by decide) rfl (t' := 15) (i' := 0) rfl rfl (fun w hw => mc (in_W w hw)) (mc m_fl_W_11) rfl d_W_meet_69 ?_
      refine g_iload_n h d_W_meet_72 rfl rfl ?_
      obtain ⟨hv5, hw⟩ := o_in hw
      refine g_aald (t' := 19) (i' := (v2 : Int32).toNatClampNeg + 2) (t := 15) (i := 0) h hL rfl (by decide) rfl rfl hv5 (C := "FlowGate$Frame") rfl rfl rfl d_W_meet_73 ?_
      refine g_aload_n h d_W_meet_74 rfl rfl ?_
      refine g_aload_n h d_W_meet_75 rfl rfl ?_
      refine g_getR (t := 14) (i := 0) (k := 0) (C := "FlowGate$Flow") (T := T_W) (N := 12) h hL rfl (by decide) ob_14 (by decide) rfl (t' := 1) (i' := 0) rfl rfl (fun w hw => mc (in_W w hw)) (mc m_fl_W_36) rfl d_W_meet_76 ?_
      obtain ⟨r8, M7, hc6, hw⟩ := o_b hw
      refine g_calli h (g_runV (rest := []) h (ct_R_absorb hL ((v2 : Int32).toNatClampNeg + 2) i3 M (ix_lt hv5 (by decide)) hbi3 hc6) (cwV 2 h.2.2.2.2.1 (g_V m_ml_W_139 m_im_R_absorb m_se_R_absorb m_in_R m_co_R_absorb) rfl rfl rfl (by decide +kernel) ⟨Nat.le_of_ble_eq_true rfl, Nat.le_of_ble_eq_true rfl⟩) (hL.recv h rfl (ix_lt hv5 (by decide)) ob_19) rfl rfl (Nat.le_of_ble_eq_true rfl) d_W_meet_79) ?_
      refine g_if_eq (tgt := 92) h d_W_meet_82 (by decide) (fun c9 => ?_) (fun c9 => ?_)
      · have hw := o_t c9 hw
        refine g_iconst (v := 0) h d_W_meet_92 (by decide) ?_
        exact g_iret h hQ d_W_meet_93 hw
      · have hw := o_f c9 hw
        refine g_aload_n h d_W_meet_85 rfl rfl ?_
        refine g_getR (t := 14) (i := 0) (k := 4) (C := "FlowGate$Flow") (T := T_W) (N := 12) h hL rfl (by decide) ob_14 (by decide) rfl (t' := 17) (i' := 0) rfl rfl (fun w hw => mc (in_W w hw)) (mc m_fl_W_21) rfl d_W_meet_86 ?_
        refine g_iload_n h d_W_meet_89 rfl rfl ?_
        refine g_iconst (v := 1) h d_W_meet_90 (by decide) ?_
        obtain ⟨hv10, hw⟩ := o_in hw
        refine g_zast (t := 17) (i := 0) h hL rfl (by decide) rfl rfl hv10 d_W_meet_91 ?_
        refine g_mem (fun M11 eM11 => ?_)
        have hw := o_l hw M11 eM11
        refine g_iconst (v := 0) h d_W_meet_92 (by decide) ?_
        exact g_iret h hQ d_W_meet_93 hw
    · have hw := o_f c4 hw
      refine g_aload_n h d_W_meet_61 rfl rfl ?_
      refine g_iload_n h d_W_meet_62 rfl rfl ?_
      refine g_putI (t := 14) (i := 0) (k := 9) (C := "FlowGate$Flow") (T := T_W) (N := 12) h hL rfl (by decide) ob_14 (by decide) rfl (fun w hw => mc (in_W w hw)) ty_W ty_W_ok nm_W (mc m_fl_W_82) rfl rfl rfl d_W_meet_63 ?_
      refine g_mem (fun M12 eM12 => ?_)
      have hw := o_l hw M12 eM12
      refine g_iconst (v := 4) h d_W_meet_66 (by decide) ?_
      exact g_iret h hQ d_W_meet_67 hw
  · have hw := o_t c2 hw
    refine g_aload_n h d_W_meet_37 rfl rfl ?_
    refine g_iload_n h d_W_meet_38 rfl rfl ?_
    refine g_aload_n h d_W_meet_39 rfl rfl ?_
    obtain ⟨M14, hc13, hw⟩ := o_v hw
    refine g_callv h (g_runV (rest := []) h (ct_W_reach hL v2 i3 M hbi3 hc13) (cwV 2 h.2.2.2.2.1 (g_V m_ml_W_132 m_im_W_reach m_se_W_reach m_in_W m_co_W_reach) rfl rfl rfl (by decide +kernel) ⟨Nat.le_of_ble_eq_true rfl, Nat.le_of_ble_eq_true rfl⟩) (hL.recv h rfl (by decide) ob_14) rfl rfl (Nat.le_of_ble_eq_true rfl) d_W_meet_40) ?_
    refine g_iconst (v := 0) h d_W_meet_43 (by decide) ?_
    exact g_iret h hQ d_W_meet_44 hw
set_option maxHeartbeats 4000000 in
set_option maxRecDepth 100000 in
theorem ct_W_meet {Z : ZT} (hL : Lay Z sC) (v1 : Int32) (v2 : Int32) (i3 : Nat) (M : Mm) (hbi3 : i3 < cnt 19) {res : Int32 × Mm} (hw : F_W_meet v1 v2 i3 M = some res) : CtI Z y_W_meet ws_W_meet (({ frames := 3, cells := 0, slots := 0, locals := 103 })) [.ref (za Z 14 0), .int v1, .int v2, .ref (za Z 19 i3)] M res := by
  refine CtI.of hL (cc := c_W_meet) (maxL := 4) (by decide) rfl (Nat.le_of_ble_eq_true rfl) (fun X h hQ => ?_)
  show G Z X M 0 [(0, .ref (za Z 14 0)), (1, .int v1), (2, .int v2), (3, .ref (za Z 19 i3))] []
  rw [F_W_meet] at hw
  refine g_iload_n h d_W_meet_0 rfl rfl ?_
  refine g_aload_n h d_W_meet_1 rfl rfl ?_
  refine g_getR (t := 14) (i := 0) (k := 1) (C := "FlowGate$Flow") (T := T_W) (N := 12) h hL rfl (by decide) ob_14 (by decide) rfl (t' := 4) (i' := 0) rfl rfl (fun w hw => mc (in_W w hw)) (mc m_fl_W_40) rfl d_W_meet_2 ?_
  refine g_getI (t := 4) (i := 0) (k := 3) (C := "FlowGate$Method") (T := T_M) (N := 14) h hL rfl (by decide) ob_4 (by decide) rfl (fun w hw => mc (in_M w hw)) (mc m_fl_W_69) rfl d_W_meet_5 ?_
  refine g_icmp_lt (tgt := 13) h d_W_meet_8 (by decide) (fun c15 => ?_) (fun c15 => ?_)
  · have hw := o_t c15 hw
    refine g_iload_n h d_W_meet_13 rfl rfl ?_
    refine g_iload_n h d_W_meet_14 rfl rfl ?_
    refine g_icmp_gt (tgt := 28) h d_W_meet_15 (by decide) (fun c16 => ?_) (fun c16 => ?_)
    · have hw := o_t c16 hw
      refine g_sub [0, 2, 3] rfl ?_
      exact w_W_meet_b28 hL h hQ  v2 i3 M hbi3 hw
    · have hw := o_f c16 hw
      refine g_aload_n h d_W_meet_18 rfl rfl ?_
      obtain ⟨r19, M18, hc17, hw⟩ := o_b hw
      refine g_calli h (g_runV (rest := []) h (ct_R_hasRaw hL i3 M hbi3 hc17) (cwV 0 h.2.2.2.2.1 (g_V m_ml_W_129 m_im_R_hasRaw m_se_R_hasRaw m_in_R m_co_R_hasRaw) rfl rfl rfl (by decide +kernel) ⟨Nat.le_of_ble_eq_true rfl, Nat.le_of_ble_eq_true rfl⟩) (hL.recv h rfl hbi3 ob_19) rfl rfl (Nat.le_of_ble_eq_true rfl) d_W_meet_19) ?_
      refine g_if_eq (tgt := 28) h d_W_meet_22 (by decide) (fun c20 => ?_) (fun c20 => ?_)
      · have hw := o_t c20 hw
        refine g_sub [0, 2, 3] rfl ?_
        exact w_W_meet_b28 hL h hQ  v2 i3 M18 hbi3 hw
      · have hw := o_f c20 hw
        refine g_bipush (v := 8) h d_W_meet_25 (by decide) ?_
        exact g_iret h hQ d_W_meet_27 hw
  · have hw := o_f c15 hw
    refine g_iconst (v := 5) h d_W_meet_11 (by decide) ?_
    exact g_iret h hQ d_W_meet_12 hw
set_option maxHeartbeats 4000000 in
set_option maxRecDepth 100000 in
theorem ct_M_covers {Z : ZT} (hL : Lay Z sC) (v1 : Int32) (v2 : Int32) (M : Mm)  {res : Int32 × Mm} (hw : F_M_covers v1 v2 M = some res) : CtI Z y_M_covers ws_M_covers (({ frames := 0, cells := 0, slots := 0, locals := 0 })) [.ref (za Z 4 0), .int v1, .int v2] M res := by
  refine CtI.of hL (cc := c_M_covers) (maxL := 3) (by decide) rfl (Nat.le_of_ble_eq_true rfl) (fun X h hQ => ?_)
  show G Z X M 0 [(0, .ref (za Z 4 0)), (1, .int v1), (2, .int v2)] []
  rw [F_M_covers] at hw
  refine g_aload_n h d_M_covers_0 rfl rfl ?_
  refine g_getR (t := 4) (i := 0) (k := 4) (C := "FlowGate$Method") (T := T_M) (N := 14) h hL rfl (by decide) ob_4 (by decide) rfl (t' := 8) (i' := 0) rfl rfl (fun w hw => mc (in_M w hw)) (mc m_fl_M_21) rfl d_M_covers_1 ?_
  refine g_iload_n h d_M_covers_4 rfl rfl ?_
  obtain ⟨hv1, hw⟩ := o_in hw
  refine g_iald (t := 8) (i := 0) h hL rfl (by decide) rfl rfl hv1 d_M_covers_5 ?_
  refine g_iload_n h d_M_covers_6 rfl rfl ?_
  refine g_icmp_gt (tgt := 24) h d_M_covers_7 (by decide) (fun c2 => ?_) (fun c2 => ?_)
  · have hw := o_t c2 hw
    refine g_iconst (v := 0) h d_M_covers_24 (by decide) ?_
    exact g_zret h hQ d_M_covers_25 rfl hw
  · have hw := o_f c2 hw
    refine g_iload_n h d_M_covers_10 rfl rfl ?_
    refine g_aload_n h d_M_covers_11 rfl rfl ?_
    refine g_getR (t := 4) (i := 0) (k := 5) (C := "FlowGate$Method") (T := T_M) (N := 14) h hL rfl (by decide) ob_4 (by decide) rfl (t' := 9) (i' := 0) rfl rfl (fun w hw => mc (in_M w hw)) (mc m_fl_M_24) rfl d_M_covers_12 ?_
    refine g_iload_n h d_M_covers_15 rfl rfl ?_
    obtain ⟨hv3, hw⟩ := o_in hw
    refine g_iald (t := 9) (i := 0) h hL rfl (by decide) rfl rfl hv3 d_M_covers_16 ?_
    refine g_icmp_ge (tgt := 24) h d_M_covers_17 (by decide) (fun c4 => ?_) (fun c4 => ?_)
    · have hw := o_t c4 hw
      refine g_iconst (v := 0) h d_M_covers_24 (by decide) ?_
      exact g_zret h hQ d_M_covers_25 rfl hw
    · have hw := o_f c4 hw
      refine g_iconst (v := 1) h d_M_covers_20 (by decide) ?_
      refine g_goto (tgt := 25) h d_M_covers_21 (by decide) ?_
      exact g_zret h hQ d_M_covers_25 rfl hw
set_option maxHeartbeats 4000000 in
set_option maxRecDepth 100000 in
theorem ct_R_catchIn {Z : ZT} (hL : Lay Z sC) (i0 : Nat) (i1 : Nat) (v2 : Int32) (M : Mm) (hbi0 : i0 < cnt 19) (hbi1 : i1 < cnt 19) {res : Mm} (hw : F_R_catchIn i0 i1 v2 M = some res) : CtV Z y_R_catchIn ws_R_catchIn (({ frames := 2, cells := 0, slots := 0, locals := 81 })) [.ref (za Z 19 i0), .ref (za Z 19 i1), .int v2] M res := by
  refine CtV.of hL (cc := c_R_catchIn) (maxL := 3) (by decide) rfl (Nat.le_of_ble_eq_true rfl) (fun X h hQ => ?_)
  show G Z X M 0 [(0, .ref (za Z 19 i0)), (1, .ref (za Z 19 i1)), (2, .int v2)] []
  rw [F_R_catchIn] at hw
  refine g_aload_n h d_R_catchIn_0 rfl rfl ?_
  refine g_aload_n h d_R_catchIn_1 rfl rfl ?_
  obtain ⟨M2, hc1, hw⟩ := o_v hw
  refine g_callv h (g_runV (rest := []) h (ct_R_copy hL i0 i1 M hbi0 hbi1 hc1) (cwV 1 h.2.2.2.2.1 (g_V m_ml_R_53 m_im_R_copy m_se_R_copy m_in_R m_co_R_copy) rfl rfl rfl (by decide +kernel) ⟨Nat.le_of_ble_eq_true rfl, Nat.le_of_ble_eq_true rfl⟩) (hL.recv h rfl hbi0 ob_19) rfl rfl (Nat.le_of_ble_eq_true rfl) d_R_catchIn_2) ?_
  refine g_aload_n h d_R_catchIn_5 rfl rfl ?_
  refine g_getR (t := 19) (i := i0) (k := 1) (C := "FlowGate$Frame") (T := T_R) (N := 5) h hL rfl hbi0 ob_19 (by decide) rfl (t' := 21) (i' := i0) rfl rfl (fun w hw => mc (in_R w hw)) (mc m_fl_R_15) rfl d_R_catchIn_6 ?_
  refine g_iconst (v := 0) h d_R_catchIn_9 (by decide) ?_
  refine g_iload_n h d_R_catchIn_10 rfl rfl ?_
  obtain ⟨hv3, hw⟩ := o_in hw
  refine g_iast (t := 21) (i := i0) h hL rfl hbi0 rfl rfl hv3 d_R_catchIn_11 ?_
  refine g_mem (fun M4 eM4 => ?_)
  have hw := o_l hw M4 eM4
  refine g_aload_n h d_R_catchIn_12 rfl rfl ?_
  refine g_iconst (v := 1) h d_R_catchIn_13 (by decide) ?_
  refine g_putI (t := 19) (i := i0) (k := 2) (C := "FlowGate$Frame") (T := T_R) (N := 5) h hL rfl hbi0 ob_19 (by decide) rfl (fun w hw => mc (in_R w hw)) ty_R ty_R_ok nm_R (mc m_fl_R_27) rfl rfl rfl d_R_catchIn_14 ?_
  refine g_mem (fun M5 eM5 => ?_)
  have hw := o_l hw M5 eM5
  exact g_vret h hQ d_R_catchIn_17 hw
set_option maxHeartbeats 4000000 in
set_option maxRecDepth 100000 in
theorem w_W_meetHandlers_b105 {Z : ZT} {X : XT} (hL : Lay Z sC) (h : Ok Z X "FlowGate$Flow" c_W_meetHandlers ws_W_meetHandlers 4 ({ frames := 4, cells := 0, slots := 0, locals := 126 })) {res : Int32 × Mm} (hQ : FinI Z X .int res) {K2 : Int32 → Int32 → Mm → Option (Int32 × Mm)} (hK2 : ∀ (v1 : Int32) (v2 : Int32) (M : Mm), K2 v1 v2 M = some res → G Z X M 2 [(0, .ref (za Z 14 0)), (1, .int v1), (2, .int v2)] []) (v1 : Int32) (v2 : Int32) (M : Mm)  (hw : F_W_meetHandlers_b105 K2 v1 v2 M = some res) : G Z X M 105 [(0, .ref (za Z 14 0)), (1, .int v1), (2, .int v2)] [] := by
  rw [F_W_meetHandlers_b105] at hw
  refine g_iinc (n' := 1) (lw := fun y => [(2, .int y), (0, .ref (za Z 14 0)), (1, .int v1)]) h d_W_meetHandlers_105 rfl (by decide) (by decide) (fun _ => rfl) (fun n1 en1 => ?_)
  have hw := o_l hw n1 en1
  refine g_goto (tgt := 2) h d_W_meetHandlers_108 (by decide) ?_
  refine g_sub [1, 2, 0] rfl ?_
  exact hK2 v1 n1 M hw
set_option maxHeartbeats 4000000 in
set_option maxRecDepth 100000 in
theorem w_W_meetHandlers_b2 {Z : ZT} {X : XT} (hL : Lay Z sC) (h : Ok Z X "FlowGate$Flow" c_W_meetHandlers ws_W_meetHandlers 4 ({ frames := 4, cells := 0, slots := 0, locals := 126 })) {res : Int32 × Mm} (hQ : FinI Z X .int res)  : ∀ (n : Nat) (v1 : Int32) (v2 : Int32) (M : Mm), F_W_meetHandlers_b2  n v1 v2 M = some res → G Z X M 2 [(0, .ref (za Z 14 0)), (1, .int v1), (2, .int v2)] [] := by
  intro n
  induction n with
  | zero =>
    intro v1 v2 M hw
    cases hw
  | succ n hK2 =>
    intro v1 v2 M hw
    rw [F_W_meetHandlers_b2] at hw
    refine g_iload_n h d_W_meetHandlers_2 rfl rfl ?_
    refine g_aload_n h d_W_meetHandlers_3 rfl rfl ?_
    refine g_getR (t := 14) (i := 0) (k := 1) (C := "FlowGate$Flow") (T := T_W) (N := 12) h hL rfl (by decide) ob_14 (by decide) rfl (t' := 4) (i' := 0) rfl rfl (fun w hw => mc (in_W w hw)) (mc m_fl_W_40) rfl d_W_meetHandlers_4 ?_
    refine g_getI (t := 4) (i := 0) (k := 8) (C := "FlowGate$Method") (T := T_M) (N := 14) h hL rfl (by decide) ob_4 (by decide) rfl (fun w hw => mc (in_M w hw)) (mc m_fl_W_105) rfl d_W_meetHandlers_7 ?_
    refine g_icmp_ge (tgt := 111) h d_W_meetHandlers_10 (by decide) (fun c2 => ?_) (fun c2 => ?_)
    · have hw := o_t c2 hw
      refine g_iconst (v := 0) h d_W_meetHandlers_111 (by decide) ?_
      exact g_iret h hQ d_W_meetHandlers_112 hw
    · have hw := o_f c2 hw
      refine g_aload_n h d_W_meetHandlers_13 rfl rfl ?_
      refine g_getR (t := 14) (i := 0) (k := 1) (C := "FlowGate$Flow") (T := T_W) (N := 12) h hL rfl (by decide) ob_14 (by decide) rfl (t' := 4) (i' := 0) rfl rfl (fun w hw => mc (in_W w hw)) (mc m_fl_W_40) rfl d_W_meetHandlers_14 ?_
      refine g_iload_n h d_W_meetHandlers_17 rfl rfl ?_
      refine g_iload_n h d_W_meetHandlers_18 rfl rfl ?_
      obtain ⟨r5, M4, hc3, hw⟩ := o_b hw
      refine g_calli h (g_runV (rest := []) h (ct_M_covers hL v2 v1 M hc3) (cwV 2 h.2.2.2.2.1 (g_V m_ml_W_108 m_im_M_covers m_se_M_covers m_in_M m_co_M_covers) rfl rfl rfl (by decide +kernel) ⟨Nat.le_of_ble_eq_true rfl, Nat.le_of_ble_eq_true rfl⟩) (hL.recv h rfl (by decide) ob_4) rfl rfl (Nat.le_of_ble_eq_true rfl) d_W_meetHandlers_19) ?_
      refine g_if_ne (tgt := 28) h d_W_meetHandlers_22 (by decide) (fun c6 => ?_) (fun c6 => ?_)
      · have hw := o_f c6 hw
        refine g_aload_n h d_W_meetHandlers_28 rfl rfl ?_
        refine g_getR (t := 14) (i := 0) (k := 2) (C := "FlowGate$Flow") (T := T_W) (N := 12) h hL rfl (by decide) ob_14 (by decide) rfl (t' := 15) (i' := 0) rfl rfl (fun w hw => mc (in_W w hw)) (mc m_fl_W_11) rfl d_W_meetHandlers_29 ?_
        refine g_iload_n h d_W_meetHandlers_32 rfl rfl ?_
        obtain ⟨hv7, hw⟩ := o_in hw
        refine g_aald (t' := 19) (i' := (v1 : Int32).toNatClampNeg + 2) (t := 15) (i := 0) h hL rfl (by decide) rfl rfl hv7 (C := "FlowGate$Frame") rfl rfl rfl d_W_meetHandlers_33 ?_
        obtain ⟨r10, M9, hc8, hw⟩ := o_b hw
        refine g_calli h (g_runV (rest := []) h (ct_R_hasRawLocal hL ((v1 : Int32).toNatClampNeg + 2) M4 (ix_lt hv7 (by decide)) hc8) (cwV 0 h.2.2.2.2.1 (g_V m_ml_W_112 m_im_R_hasRawLocal m_se_R_hasRawLocal m_in_R m_co_R_hasRawLocal) rfl rfl rfl (by decide +kernel) ⟨Nat.le_of_ble_eq_true rfl, Nat.le_of_ble_eq_true rfl⟩) (hL.recv h rfl (ix_lt hv7 (by decide)) ob_19) rfl rfl (Nat.le_of_ble_eq_true rfl) d_W_meetHandlers_34) ?_
        refine g_if_eq (tgt := 43) h d_W_meetHandlers_37 (by decide) (fun c11 => ?_) (fun c11 => ?_)
        · have hw := o_t c11 hw
          refine g_aload_n h d_W_meetHandlers_43 rfl rfl ?_
          refine g_getR (t := 14) (i := 0) (k := 1) (C := "FlowGate$Flow") (T := T_W) (N := 12) h hL rfl (by decide) ob_14 (by decide) rfl (t' := 4) (i' := 0) rfl rfl (fun w hw => mc (in_W w hw)) (mc m_fl_W_40) rfl d_W_meetHandlers_44 ?_
          refine g_getI (t := 4) (i := 0) (k := 13) (C := "FlowGate$Method") (T := T_M) (N := 14) h hL rfl (by decide) ob_4 (by decide) rfl (fun w hw => mc (in_M w hw)) (mc m_fl_W_116) rfl d_W_meetHandlers_47 ?_
          refine g_if_ne (tgt := 55) h d_W_meetHandlers_50 (by decide) (fun c12 => ?_) (fun c12 => ?_)
          · have hw := o_f c12 hw
            refine g_aload_n h d_W_meetHandlers_55 rfl rfl ?_
            refine g_getR (t := 14) (i := 0) (k := 7) (C := "FlowGate$Flow") (T := T_W) (N := 12) h hL rfl (by decide) ob_14 (by decide) rfl (t' := 19) (i' := 1) rfl rfl (fun w hw => mc (in_W w hw)) (mc m_fl_W_33) rfl d_W_meetHandlers_56 ?_
            refine g_aload_n h d_W_meetHandlers_59 rfl rfl ?_
            refine g_getR (t := 14) (i := 0) (k := 2) (C := "FlowGate$Flow") (T := T_W) (N := 12) h hL rfl (by decide) ob_14 (by decide) rfl (t' := 15) (i' := 0) rfl rfl (fun w hw => mc (in_W w hw)) (mc m_fl_W_11) rfl d_W_meetHandlers_60 ?_
            refine g_iload_n h d_W_meetHandlers_63 rfl rfl ?_
            obtain ⟨hv13, hw⟩ := o_in hw
            refine g_aald (t' := 19) (i' := (v1 : Int32).toNatClampNeg + 2) (t := 15) (i := 0) h hL rfl (by decide) rfl rfl hv13 (C := "FlowGate$Frame") rfl rfl rfl d_W_meetHandlers_64 ?_
            refine g_bipush (v := 16) h d_W_meetHandlers_65 (by decide) ?_
            refine g_aload_n h d_W_meetHandlers_67 rfl rfl ?_
            refine g_getR (t := 14) (i := 0) (k := 1) (C := "FlowGate$Flow") (T := T_W) (N := 12) h hL rfl (by decide) ob_14 (by decide) rfl (t' := 4) (i' := 0) rfl rfl (fun w hw => mc (in_W w hw)) (mc m_fl_W_40) rfl d_W_meetHandlers_68 ?_
            refine g_getR (t := 4) (i := 0) (k := 7) (C := "FlowGate$Method") (T := T_M) (N := 14) h hL rfl (by decide) ob_4 (by decide) rfl (t' := 11) (i' := 0) rfl rfl (fun w hw => mc (in_M w hw)) (mc m_fl_W_119) rfl d_W_meetHandlers_71 ?_
            refine g_iload_n h d_W_meetHandlers_74 rfl rfl ?_
            obtain ⟨hv14, hw⟩ := o_in hw
            refine g_iald (t := 11) (i := 0) h hL rfl (by decide) rfl rfl hv14 d_W_meetHandlers_75 ?_
            refine g_iadd h d_W_meetHandlers_76 ?_
            obtain ⟨M16, hc15, hw⟩ := o_v hw
            refine g_callv h (g_runV (rest := []) h (ct_R_catchIn hL 1 ((v1 : Int32).toNatClampNeg + 2) ((16 : Int32) + (M9.1 11 0 (v2 : Int32).toNatClampNeg)) M9 (by decide) (ix_lt hv13 (by decide)) hc15) (cwV 2 h.2.2.2.2.1 (g_V m_ml_W_122 m_im_R_catchIn m_se_R_catchIn m_in_R m_co_R_catchIn) rfl rfl rfl (by decide +kernel) ⟨Nat.le_of_ble_eq_true rfl, Nat.le_of_ble_eq_true rfl⟩) (hL.recv h rfl (by decide) ob_19) rfl rfl (Nat.le_of_ble_eq_true rfl) d_W_meetHandlers_77) ?_
            refine g_aload_n h d_W_meetHandlers_80 rfl rfl ?_
            refine g_iconst (v := -1) h d_W_meetHandlers_81 (by decide) ?_
            refine g_aload_n h d_W_meetHandlers_82 rfl rfl ?_
            refine g_getR (t := 14) (i := 0) (k := 1) (C := "FlowGate$Flow") (T := T_W) (N := 12) h hL rfl (by decide) ob_14 (by decide) rfl (t' := 4) (i' := 0) rfl rfl (fun w hw => mc (in_W w hw)) (mc m_fl_W_40) rfl d_W_meetHandlers_83 ?_
            refine g_getR (t := 4) (i := 0) (k := 6) (C := "FlowGate$Method") (T := T_M) (N := 14) h hL rfl (by decide) ob_4 (by decide) rfl (t' := 10) (i' := 0) rfl rfl (fun w hw => mc (in_M w hw)) (mc m_fl_W_126) rfl d_W_meetHandlers_86 ?_
            refine g_iload_n h d_W_meetHandlers_89 rfl rfl ?_
            obtain ⟨hv17, hw⟩ := o_in hw
            refine g_iald (t := 10) (i := 0) h hL rfl (by decide) rfl rfl hv17 d_W_meetHandlers_90 ?_
            refine g_aload_n h d_W_meetHandlers_91 rfl rfl ?_
            refine g_getR (t := 14) (i := 0) (k := 7) (C := "FlowGate$Flow") (T := T_W) (N := 12) h hL rfl (by decide) ob_14 (by decide) rfl (t' := 19) (i' := 1) rfl rfl (fun w hw => mc (in_W w hw)) (mc m_fl_W_33) rfl d_W_meetHandlers_92 ?_
            obtain ⟨r20, M19, hc18, hw⟩ := o_b hw
            refine g_calli h (g_runV (rest := []) h (ct_W_meet hL ((-1)) (M16.1 10 0 (v2 : Int32).toNatClampNeg) 1 M16 (by decide) hc18) (cwV 3 h.2.2.2.2.1 (g_V m_ml_W_65 m_im_W_meet m_se_W_meet m_in_W m_co_W_meet) rfl rfl rfl (by decide +kernel) ⟨Nat.le_of_ble_eq_true rfl, Nat.le_of_ble_eq_true rfl⟩) (hL.recv h rfl (by decide) ob_14) rfl rfl (Nat.le_of_ble_eq_true rfl) d_W_meetHandlers_95) ?_
            refine g_istore_n (lv' := [(3, .int r20), (0, .ref (za Z 14 0)), (1, .int v1), (2, .int v2)]) h d_W_meetHandlers_98 rfl (by decide) rfl ?_
            refine g_iload_n h d_W_meetHandlers_99 rfl rfl ?_
            refine g_if_eq (tgt := 105) h d_W_meetHandlers_100 (by decide) (fun c21 => ?_) (fun c21 => ?_)
            · have hw := o_t c21 hw
              refine g_sub [1, 2, 3] rfl ?_
              exact w_W_meetHandlers_b105 hL h hQ hK2 v1 v2 M19 hw
            · have hw := o_f c21 hw
              refine g_iload_n h d_W_meetHandlers_103 rfl rfl ?_
              exact g_iret h hQ d_W_meetHandlers_104 hw
          · have hw := o_t c12 hw
            refine g_iconst (v := 3) h d_W_meetHandlers_53 (by decide) ?_
            exact g_iret h hQ d_W_meetHandlers_54 hw
        · have hw := o_f c11 hw
          refine g_bipush (v := 8) h d_W_meetHandlers_40 (by decide) ?_
          exact g_iret h hQ d_W_meetHandlers_42 hw
      · have hw := o_t c6 hw
        refine g_goto (tgt := 105) h d_W_meetHandlers_25 (by decide) ?_
        refine g_sub [0, 1, 2] rfl ?_
        exact w_W_meetHandlers_b105 hL h hQ hK2 v1 v2 M4 hw
set_option maxHeartbeats 4000000 in
set_option maxRecDepth 100000 in
theorem ct_W_meetHandlers {Z : ZT} (hL : Lay Z sC) (v1 : Int32) (M : Mm)  {res : Int32 × Mm} (hw : F_W_meetHandlers v1 M = some res) : CtI Z y_W_meetHandlers ws_W_meetHandlers (({ frames := 4, cells := 0, slots := 0, locals := 126 })) [.ref (za Z 14 0), .int v1] M res := by
  refine CtI.of hL (cc := c_W_meetHandlers) (maxL := 4) (by decide) rfl (Nat.le_of_ble_eq_true rfl) (fun X h hQ => ?_)
  show G Z X M 0 [(0, .ref (za Z 14 0)), (1, .int v1)] []
  rw [F_W_meetHandlers] at hw
  refine g_iconst (v := 0) h d_W_meetHandlers_0 (by decide) ?_
  refine g_istore_n (lv' := [(2, .int 0), (0, .ref (za Z 14 0)), (1, .int v1)]) h d_W_meetHandlers_1 rfl (by decide) rfl ?_
  refine g_sub [1, 2, 0] rfl ?_
  exact w_W_meetHandlers_b2 hL h hQ  fuel v1 0 M hw
set_option maxHeartbeats 4000000 in
set_option maxRecDepth 100000 in
theorem ct_G_isReturn {Z : ZT} (hL : Lay Z sC) (v0 : Int32) (M : Mm)  {res : Int32 × Mm} (hw : F_G_isReturn v0 M = some res) : CtI Z y_G_isReturn ws_G_isReturn (({ frames := 0, cells := 0, slots := 0, locals := 0 })) [.int v0] M res := by
  refine CtI.of hL (cc := c_G_isReturn) (maxL := 1) (by decide) rfl (Nat.le_of_ble_eq_true rfl) (fun X h hQ => ?_)
  show G Z X M 0 [(0, .int v0)] []
  rw [F_G_isReturn] at hw
  refine g_iload_n h d_G_isReturn_0 rfl rfl ?_
  refine g_sipush (v := 2000) h d_G_isReturn_1 (by decide) ?_
  refine g_icmp_lt (tgt := 18) h d_G_isReturn_4 (by decide) (fun c1 => ?_) (fun c1 => ?_)
  · have hw := o_t c1 hw
    refine g_iconst (v := 0) h d_G_isReturn_18 (by decide) ?_
    exact g_zret h hQ d_G_isReturn_19 rfl hw
  · have hw := o_f c1 hw
    refine g_iload_n h d_G_isReturn_7 rfl rfl ?_
    refine g_sipush (v := 2048) h d_G_isReturn_8 (by decide) ?_
    refine g_icmp_ge (tgt := 18) h d_G_isReturn_11 (by decide) (fun c2 => ?_) (fun c2 => ?_)
    · have hw := o_t c2 hw
      refine g_iconst (v := 0) h d_G_isReturn_18 (by decide) ?_
      exact g_zret h hQ d_G_isReturn_19 rfl hw
    · have hw := o_f c2 hw
      refine g_iconst (v := 1) h d_G_isReturn_14 (by decide) ?_
      refine g_goto (tgt := 19) h d_G_isReturn_15 (by decide) ?_
      exact g_zret h hQ d_G_isReturn_19 rfl hw
