set_option maxHeartbeats 4000000 in
set_option maxRecDepth 100000 in
theorem w_D_enters_b137 {Z : ZT} {X : XT} (hL : Lay Z sD) (h : Ok Z X "FlowGateModel" c_D_enters ws_D_enters 4 ({ frames := 6, cells := 0, slots := 0, locals := 138 })) {res : Mm} (hQ : FinV Z X res) {K80 : Int32 → Int32 → Mm → Option (Mm)} (hK80 : ∀ (v2 : Int32) (v3 : Int32) (M : Mm), K80 v2 v3 M = some res → G Z X M 80 [(0, .ref (za Z 30 0)), (2, .int v2), (3, .int v3)] []) (v2 : Int32) (v3 : Int32) (M : Mm)  (hw : F_D_enters_b137 K80 v2 v3 M = some res) : G Z X M 137 [(0, .ref (za Z 30 0)), (2, .int v2), (3, .int v3)] [] := by
  rw [F_D_enters_b137] at hw
  refine g_iinc (n' := 1) (lw := fun y => [(3, .int y), (0, .ref (za Z 30 0)), (2, .int v2)]) h d_D_enters_137 rfl (by decide) (by decide) (fun _ => rfl) (fun n1 en1 => ?_)
  have hw := o_l hw n1 en1
  refine g_goto (tgt := 80) h d_D_enters_140 (by decide) ?_
  refine g_sub [1, 2, 0] rfl ?_
  exact hK80 v2 n1 M hw
set_option maxHeartbeats 4000000 in
set_option maxRecDepth 100000 in
theorem w_D_enters_b80 {Z : ZT} {X : XT} (hL : Lay Z sD) (h : Ok Z X "FlowGateModel" c_D_enters ws_D_enters 4 ({ frames := 6, cells := 0, slots := 0, locals := 138 })) {res : Mm} (hQ : FinV Z X res)  : ∀ (n : Nat) (v2 : Int32) (v3 : Int32) (M : Mm), F_D_enters_b80  n v2 v3 M = some res → G Z X M 80 [(0, .ref (za Z 30 0)), (2, .int v2), (3, .int v3)] [] := by
  intro n
  induction n with
  | zero =>
    intro v2 v3 M hw
    cases hw
  | succ n hK80 =>
    intro v2 v3 M hw
    rw [F_D_enters_b80] at hw
    refine g_iload_n h d_D_enters_80 rfl rfl ?_
    refine g_aload_n h d_D_enters_81 rfl rfl ?_
    refine g_getI (t := 30) (i := 0) (k := 11) (C := "FlowGateModel") (T := T_D) (N := 42) h hL rfl (by decide) ob_30 (by decide) rfl (fun w hw => mc (in_D w hw)) (mc m_fl_D_118) rfl d_D_enters_82 ?_
    refine g_icmp_ge (tgt := 143) h d_D_enters_85 (by decide) (fun c2 => ?_) (fun c2 => ?_)
    · have hw := o_t c2 hw
      exact g_vret h hQ d_D_enters_143 hw
    · have hw := o_f c2 hw
      refine g_aload_n h d_D_enters_88 rfl rfl ?_
      refine g_getI (t := 30) (i := 0) (k := 34) (C := "FlowGateModel") (T := T_D) (N := 42) h hL rfl (by decide) ob_30 (by decide) rfl (fun w hw => mc (in_D w hw)) (mc m_fl_D_130) rfl d_D_enters_89 ?_
      refine g_if_ne (tgt := 143) h d_D_enters_92 (by decide) (fun c3 => ?_) (fun c3 => ?_)
      · have hw := o_f c3 hw
        exact g_vret h hQ d_D_enters_143 hw
      · have hw := o_t c3 hw
        refine g_aload_n h d_D_enters_95 rfl rfl ?_
        refine g_getR (t := 30) (i := 0) (k := 3) (C := "FlowGateModel") (T := T_D) (N := 42) h hL rfl (by decide) ob_30 (by decide) rfl (t' := 33) (i' := 0) rfl rfl (fun w hw => mc (in_D w hw)) (mc m_fl_D_21) rfl d_D_enters_96 ?_
        refine g_iload_n h d_D_enters_99 rfl rfl ?_
        obtain ⟨hv4, hw⟩ := o_in hw
        refine g_iald (t := 33) (i := 0) h hL rfl (by decide) rfl rfl hv4 d_D_enters_100 ?_
        refine g_bipush (v := 16) h d_D_enters_101 (by decide) ?_
        refine g_icmp_ne (tgt := 137) h d_D_enters_103 (by decide) (fun c5 => ?_) (fun c5 => ?_)
        · have hw := o_f c5 hw
          refine g_sub [0, 1, 2] rfl ?_
          exact w_D_enters_b137 hL h hQ hK80 v2 v3 M hw
        · have hw := o_t c5 hw
          refine g_aload_n h d_D_enters_106 rfl rfl ?_
          refine g_getR (t := 30) (i := 0) (k := 17) (C := "FlowGateModel") (T := T_D) (N := 42) h hL rfl (by decide) ob_30 (by decide) rfl (t' := 41) (i' := 0) rfl rfl (fun w hw => mc (in_D w hw)) (mc m_fl_D_45) rfl d_D_enters_107 ?_
          refine g_iload_n h d_D_enters_110 rfl rfl ?_
          obtain ⟨hv6, hw⟩ := o_in hw
          refine g_zald (t := 41) (i := 0) h hL rfl (by decide) rfl rfl hv6 d_D_enters_111 ?_
          refine g_if_eq (tgt := 137) h d_D_enters_112 (by decide) (fun c7 => ?_) (fun c7 => ?_)
          · have hw := o_t c7 hw
            refine g_sub [0, 1, 2] rfl ?_
            exact w_D_enters_b137 hL h hQ hK80 v2 v3 M hw
          · have hw := o_f c7 hw
            refine g_aload_n h d_D_enters_115 rfl rfl ?_
            refine g_getR (t := 30) (i := 0) (k := 24) (C := "FlowGateModel") (T := T_D) (N := 42) h hL rfl (by decide) ob_30 (by decide) rfl (t' := 48) (i' := 0) rfl rfl (fun w hw => mc (in_D w hw)) (mc m_fl_D_67) rfl d_D_enters_116 ?_
            refine g_iload_n h d_D_enters_119 rfl rfl ?_
            obtain ⟨hv8, hw⟩ := o_in hw
            refine g_lald (t := 48) (i := 0) h hL rfl (by decide) rfl rfl hv8 d_D_enters_120 ?_
            refine g_iload_n h d_D_enters_121 rfl rfl ?_
            refine g_lshr h d_D_enters_122 ?_
            refine g_lconst (v := 1) h d_D_enters_123 rfl ?_
            refine g_land h d_D_enters_124 ?_
            refine g_lconst (v := 1) h d_D_enters_125 rfl ?_
            refine g_lcmp h d_D_enters_126 ?_
            refine g_if_ne (tgt := 137) h d_D_enters_127 (by decide) (fun c9 => ?_) (fun c9 => ?_)
            · have hw := o_f c9 hw
              refine g_sub [0, 1, 2] rfl ?_
              exact w_D_enters_b137 hL h hQ hK80 v2 v3 M hw
            · have hw := o_t c9 hw
              refine g_aload_n h d_D_enters_130 rfl rfl ?_
              refine g_getR (t := 30) (i := 0) (k := 18) (C := "FlowGateModel") (T := T_D) (N := 42) h hL rfl (by decide) ob_30 (by decide) rfl (t' := 42) (i' := 0) rfl rfl (fun w hw => mc (in_D w hw)) (mc m_fl_D_48) rfl d_D_enters_131 ?_
              refine g_iload_n h d_D_enters_134 rfl rfl ?_
              refine g_iconst (v := 1) h d_D_enters_135 (by decide) ?_
              obtain ⟨hv10, hw⟩ := o_in hw
              refine g_zast (t := 42) (i := 0) h hL rfl (by decide) rfl rfl hv10 d_D_enters_136 ?_
              refine g_mem (fun M11 eM11 => ?_)
              have hw := o_l hw M11 eM11
              refine g_sub [0, 1, 2] rfl ?_
              exact w_D_enters_b137 hL h hQ hK80 v2 v3 M11 hw
set_option maxHeartbeats 4000000 in
set_option maxRecDepth 100000 in
theorem ct_D_enters {Z : ZT} (hL : Lay Z sD) (v1 : Int32) (v2 : Int32) (M : Mm)  {res : Mm} (hw : F_D_enters v1 v2 M = some res) : CtV Z y_D_enters ws_D_enters (({ frames := 6, cells := 0, slots := 0, locals := 138 })) [.ref (za Z 30 0), .int v1, .int v2] M res := by
  refine CtV.of hL (cc := c_D_enters) (maxL := 4) (by decide) rfl (Nat.le_of_ble_eq_true rfl) (fun X h hQ => ?_)
  show G Z X M 0 [(0, .ref (za Z 30 0)), (1, .int v1), (2, .int v2)] []
  rw [F_D_enters] at hw
  refine g_aload_n h d_D_enters_0 rfl rfl ?_
  refine g_getL (t := 30) (i := 0) (k := 39) (C := "FlowGateModel") (T := T_D) (N := 42) h hL rfl (by decide) ob_30 (by decide) rfl (fun w hw => mc (in_D w hw)) (mc m_fl_D_186) rfl d_D_enters_1 ?_
  refine g_iload_n h d_D_enters_4 rfl rfl ?_
  refine g_lshr h d_D_enters_5 ?_
  refine g_lconst (v := 1) h d_D_enters_6 rfl ?_
  refine g_land h d_D_enters_7 ?_
  refine g_lconst (v := 1) h d_D_enters_8 rfl ?_
  refine g_lcmp h d_D_enters_9 ?_
  refine g_if_ne (tgt := 21) h d_D_enters_10 (by decide) (fun c12 => ?_) (fun c12 => ?_)
  · have hw := o_f c12 hw
    refine g_aload_n h d_D_enters_21 rfl rfl ?_
    refine g_sipush (v := 2000) h d_D_enters_22 (by decide) ?_
    refine g_iload_n h d_D_enters_25 rfl rfl ?_
    refine g_iadd h d_D_enters_26 ?_
    obtain ⟨r15, M14, hc13, hw⟩ := o_b hw
    refine g_calli h (g_runV (rest := []) h (ct_D_put hL ((2000 : Int32) + v2) M hc13) (cwV 1 h.2.2.2.2.1 (g_V m_ml_D_227 m_im_D_put m_se_D_put m_in_D m_co_D_put) rfl rfl rfl (by decide +kernel) ⟨Nat.le_of_ble_eq_true rfl, Nat.le_of_ble_eq_true rfl⟩) (hL.recv h rfl (by decide) ob_30) rfl rfl (Nat.le_of_ble_eq_true rfl) d_D_enters_27) ?_
    refine g_pop h d_D_enters_30 rfl ?_
    refine g_aload_n h d_D_enters_31 rfl rfl ?_
    refine g_getI (t := 30) (i := 0) (k := 32) (C := "FlowGateModel") (T := T_D) (N := 42) h hL rfl (by decide) ob_30 (by decide) rfl (fun w hw => mc (in_D w hw)) (mc m_fl_D_189) rfl d_D_enters_32 ?_
    refine g_aload_n h d_D_enters_35 rfl rfl ?_
    refine g_getI (t := 30) (i := 0) (k := 16) (C := "FlowGateModel") (T := T_D) (N := 42) h hL rfl (by decide) ob_30 (by decide) rfl (fun w hw => mc (in_D w hw)) (mc m_fl_D_115) rfl d_D_enters_36 ?_
    refine g_icmp_le (tgt := 49) h d_D_enters_39 (by decide) (fun c16 => ?_) (fun c16 => ?_)
    · have hw := o_t c16 hw
      refine g_aload_n h d_D_enters_49 rfl rfl ?_
      obtain ⟨M18, hc17, hw⟩ := o_v hw
      refine g_callv h (g_runV (rest := []) h (ct_D_copyOut hL M14 hc17) (cwV 0 h.2.2.2.2.1 (g_V m_ml_D_192 m_im_D_copyOut m_se_D_copyOut m_in_D m_co_D_copyOut) rfl rfl rfl (by decide +kernel) ⟨Nat.le_of_ble_eq_true rfl, Nat.le_of_ble_eq_true rfl⟩) (hL.recv h rfl (by decide) ob_30) rfl rfl (Nat.le_of_ble_eq_true rfl) d_D_enters_50) ?_
      refine g_aload_n h d_D_enters_53 rfl rfl ?_
      refine g_dup h d_D_enters_54 rfl ?_
      refine g_getL (t := 30) (i := 0) (k := 40) (C := "FlowGateModel") (T := T_D) (N := 42) h hL rfl (by decide) ob_30 (by decide) rfl (fun w hw => mc (in_D w hw)) (mc m_fl_D_169) rfl d_D_enters_55 ?_
      refine g_lconst (v := 1) h d_D_enters_58 rfl ?_
      refine g_iload_n h d_D_enters_59 rfl rfl ?_
      refine g_lshl h d_D_enters_60 ?_
      refine g_lor h d_D_enters_61 ?_
      refine g_putL (t := 30) (i := 0) (k := 40) (C := "FlowGateModel") (T := T_D) (N := 42) h hL rfl (by decide) ob_30 (by decide) rfl (fun w hw => mc (in_D w hw)) ty_D ty_D_ok nm_D (mc m_fl_D_169) rfl rfl rfl d_D_enters_62 ?_
      refine g_mem (fun M19 eM19 => ?_)
      have hw := o_l hw M19 eM19
      refine g_aload_n h d_D_enters_65 rfl rfl ?_
      refine g_getR (t := 30) (i := 0) (k := 30) (C := "FlowGateModel") (T := T_D) (N := 42) h hL rfl (by decide) ob_30 (by decide) rfl (t' := 54) (i' := 0) rfl rfl (fun w hw => mc (in_D w hw)) (mc m_fl_D_85) rfl d_D_enters_66 ?_
      refine g_iload_n h d_D_enters_69 rfl rfl ?_
      refine g_iconst (v := 0) h d_D_enters_70 (by decide) ?_
      obtain ⟨hv20, hw⟩ := o_in hw
      refine g_iast (t := 54) (i := 0) h hL rfl (by decide) rfl rfl hv20 d_D_enters_71 ?_
      refine g_mem (fun M21 eM21 => ?_)
      have hw := o_l hw M21 eM21
      refine g_aload_n h d_D_enters_72 rfl rfl ?_
      refine g_iload_n h d_D_enters_73 rfl rfl ?_
      refine g_iload_n h d_D_enters_74 rfl rfl ?_
      obtain ⟨M23, hc22, hw⟩ := o_v hw
      refine g_callv h (g_runV (rest := []) h (ct_D_go hL v1 v2 M21 hc22) (cwV 2 h.2.2.2.2.1 (g_V m_ml_D_211 m_im_D_go m_se_D_go m_in_D m_co_D_go) rfl rfl rfl (by decide +kernel) ⟨Nat.le_of_ble_eq_true rfl, Nat.le_of_ble_eq_true rfl⟩) (hL.recv h rfl (by decide) ob_30) rfl rfl (Nat.le_of_ble_eq_true rfl) d_D_enters_75) ?_
      refine g_iconst (v := 0) h d_D_enters_78 (by decide) ?_
      refine g_istore_n (lv' := [(3, .int 0), (0, .ref (za Z 30 0)), (1, .int v1), (2, .int v2)]) h d_D_enters_79 rfl (by decide) rfl ?_
      refine g_sub [1, 3, 0] rfl ?_
      exact w_D_enters_b80 hL h hQ  fuel v2 0 M23 hw
    · have hw := o_f c16 hw
      refine g_aload_n h d_D_enters_42 rfl rfl ?_
      refine g_iconst (v := 3) h d_D_enters_43 (by decide) ?_
      refine g_iload_n h d_D_enters_44 rfl rfl ?_
      obtain ⟨M25, hc24, hw⟩ := o_v hw
      refine g_callv h (g_runV (rest := []) h (ct_D_fail hL 3 v1 M14 hc24) (cwV 2 h.2.2.2.2.1 (g_V m_ml_D_133 m_im_D_fail m_se_D_fail m_in_D m_co_D_fail) rfl rfl rfl (by decide +kernel) ⟨Nat.le_of_ble_eq_true rfl, Nat.le_of_ble_eq_true rfl⟩) (hL.recv h rfl (by decide) ob_30) rfl rfl (Nat.le_of_ble_eq_true rfl) d_D_enters_45) ?_
      exact g_vret h hQ d_D_enters_48 hw
  · have hw := o_t c12 hw
    refine g_aload_n h d_D_enters_13 rfl rfl ?_
    refine g_bipush (v := 6) h d_D_enters_14 (by decide) ?_
    refine g_iload_n h d_D_enters_16 rfl rfl ?_
    obtain ⟨M27, hc26, hw⟩ := o_v hw
    refine g_callv h (g_runV (rest := []) h (ct_D_fail hL 6 v1 M hc26) (cwV 2 h.2.2.2.2.1 (g_V m_ml_D_133 m_im_D_fail m_se_D_fail m_in_D m_co_D_fail) rfl rfl rfl (by decide +kernel) ⟨Nat.le_of_ble_eq_true rfl, Nat.le_of_ble_eq_true rfl⟩) (hL.recv h rfl (by decide) ob_30) rfl rfl (Nat.le_of_ble_eq_true rfl) d_D_enters_17) ?_
    exact g_vret h hQ d_D_enters_20 hw
set_option maxHeartbeats 4000000 in
set_option maxRecDepth 100000 in
theorem w_D_lookAt_b122 {Z : ZT} {X : XT} (hL : Lay Z sD) (h : Ok Z X "FlowGateModel" c_D_lookAt ws_D_lookAt 6 ({ frames := 7, cells := 0, slots := 0, locals := 163 })) {res : Mm} (hQ : FinV Z X res) {K75 : Int32 → Int32 → Mm → Option (Mm)} (hK75 : ∀ (v1 : Int32) (v2 : Int32) (M : Mm), K75 v1 v2 M = some res → G Z X M 75 [(0, .ref (za Z 30 0)), (1, .int v1), (2, .int v2)] []) (v1 : Int32) (v2 : Int32) (s1 : Int32) (s2 : Int32) (M : Mm)  (hw : F_D_lookAt_b122 K75 v1 v2 s1 s2 M = some res) : G Z X M 122 [(0, .ref (za Z 30 0)), (1, .int v1), (2, .int v2)] [.int s2, .int s1, .ref (za Z 30 0)] := by
  rw [F_D_lookAt_b122] at hw
  refine g_iadd h d_D_lookAt_122 ?_
  refine g_putI (t := 30) (i := 0) (k := 32) (C := "FlowGateModel") (T := T_D) (N := 42) h hL rfl (by decide) ob_30 (by decide) rfl (fun w hw => mc (in_D w hw)) ty_D ty_D_ok nm_D (mc m_fl_D_189) rfl rfl rfl d_D_lookAt_123 ?_
  refine g_mem (fun M1 eM1 => ?_)
  have hw := o_l hw M1 eM1
  refine g_iinc (n' := 1) (lw := fun y => [(2, .int y), (0, .ref (za Z 30 0)), (1, .int v1)]) h d_D_lookAt_126 rfl (by decide) (by decide) (fun _ => rfl) (fun n2 en2 => ?_)
  have hw := o_l hw n2 en2
  refine g_goto (tgt := 75) h d_D_lookAt_129 (by decide) ?_
  refine g_sub [1, 2, 0] rfl ?_
  exact hK75 v1 n2 M1 hw
set_option maxHeartbeats 4000000 in
set_option maxRecDepth 100000 in
theorem w_D_lookAt_b269 {Z : ZT} {X : XT} (hL : Lay Z sD) (h : Ok Z X "FlowGateModel" c_D_lookAt ws_D_lookAt 6 ({ frames := 7, cells := 0, slots := 0, locals := 163 })) {res : Mm} (hQ : FinV Z X res) {K165 : Int32 → Int32 → Mm → Option (Mm)} (hK165 : ∀ (v1 : Int32) (v2 : Int32) (M : Mm), K165 v1 v2 M = some res → G Z X M 165 [(0, .ref (za Z 30 0)), (1, .int v1), (2, .int v2)] []) (v1 : Int32) (v2 : Int32) (M : Mm)  (hw : F_D_lookAt_b269 K165 v1 v2 M = some res) : G Z X M 269 [(0, .ref (za Z 30 0)), (1, .int v1), (2, .int v2)] [] := by
  rw [F_D_lookAt_b269] at hw
  refine g_iinc (n' := 1) (lw := fun y => [(2, .int y), (0, .ref (za Z 30 0)), (1, .int v1)]) h d_D_lookAt_269 rfl (by decide) (by decide) (fun _ => rfl) (fun n3 en3 => ?_)
  have hw := o_l hw n3 en3
  refine g_goto (tgt := 165) h d_D_lookAt_272 (by decide) ?_
  refine g_sub [1, 2, 0] rfl ?_
  exact hK165 v1 n3 M hw
set_option maxHeartbeats 4000000 in
set_option maxRecDepth 100000 in
theorem w_D_lookAt_b252 {Z : ZT} {X : XT} (hL : Lay Z sD) (h : Ok Z X "FlowGateModel" c_D_lookAt ws_D_lookAt 6 ({ frames := 7, cells := 0, slots := 0, locals := 163 })) {res : Mm} (hQ : FinV Z X res) {K165 : Int32 → Int32 → Mm → Option (Mm)} (hK165 : ∀ (v1 : Int32) (v2 : Int32) (M : Mm), K165 v1 v2 M = some res → G Z X M 165 [(0, .ref (za Z 30 0)), (1, .int v1), (2, .int v2)] []) (v1 : Int32) (v2 : Int32) (M : Mm)  (hw : F_D_lookAt_b252 K165 v1 v2 M = some res) : G Z X M 252 [(0, .ref (za Z 30 0)), (1, .int v1), (2, .int v2)] [] := by
  rw [F_D_lookAt_b252] at hw
  refine g_aload_n h d_D_lookAt_252 rfl rfl ?_
  refine g_getI (t := 30) (i := 0) (k := 34) (C := "FlowGateModel") (T := T_D) (N := 42) h hL rfl (by decide) ob_30 (by decide) rfl (fun w hw => mc (in_D w hw)) (mc m_fl_D_130) rfl d_D_lookAt_253 ?_
  refine g_if_ne (tgt := 269) h d_D_lookAt_256 (by decide) (fun c4 => ?_) (fun c4 => ?_)
  · have hw := o_f c4 hw
    refine g_sub [0, 1, 2] rfl ?_
    exact w_D_lookAt_b269 hL h hQ hK165 v1 v2 M hw
  · have hw := o_t c4 hw
    refine g_aload_n h d_D_lookAt_259 rfl rfl ?_
    refine g_aload_n h d_D_lookAt_260 rfl rfl ?_
    refine g_getR (t := 30) (i := 0) (k := 8) (C := "FlowGateModel") (T := T_D) (N := 42) h hL rfl (by decide) ob_30 (by decide) rfl (t' := 38) (i' := 0) rfl rfl (fun w hw => mc (in_D w hw)) (mc m_fl_D_36) rfl d_D_lookAt_261 ?_
    refine g_iload_n h d_D_lookAt_264 rfl rfl ?_
    obtain ⟨hv5, hw⟩ := o_in hw
    refine g_iald (t := 38) (i := 0) h hL rfl (by decide) rfl rfl hv5 d_D_lookAt_265 ?_
    obtain ⟨M7, hc6, hw⟩ := o_v hw
    refine g_callv h (g_runV (rest := []) h (ct_D_meet hL (M.1 38 0 (v2 : Int32).toNatClampNeg) M hc6) (cwV 1 h.2.2.2.2.1 (g_V m_ml_D_172 m_im_D_meet m_se_D_meet m_in_D m_co_D_meet) rfl rfl rfl (by decide +kernel) ⟨Nat.le_of_ble_eq_true rfl, Nat.le_of_ble_eq_true rfl⟩) (hL.recv h rfl (by decide) ob_30) rfl rfl (Nat.le_of_ble_eq_true rfl) d_D_lookAt_266) ?_
    refine g_sub [0, 1, 2] rfl ?_
    exact w_D_lookAt_b269 hL h hQ hK165 v1 v2 M7 hw
set_option maxHeartbeats 4000000 in
set_option maxRecDepth 100000 in
theorem w_D_lookAt_b239 {Z : ZT} {X : XT} (hL : Lay Z sD) (h : Ok Z X "FlowGateModel" c_D_lookAt ws_D_lookAt 6 ({ frames := 7, cells := 0, slots := 0, locals := 163 })) {res : Mm} (hQ : FinV Z X res) {K165 : Int32 → Int32 → Mm → Option (Mm)} (hK165 : ∀ (v1 : Int32) (v2 : Int32) (M : Mm), K165 v1 v2 M = some res → G Z X M 165 [(0, .ref (za Z 30 0)), (1, .int v1), (2, .int v2)] []) (v1 : Int32) (v2 : Int32) (M : Mm)  (hw : F_D_lookAt_b239 K165 v1 v2 M = some res) : G Z X M 239 [(0, .ref (za Z 30 0)), (1, .int v1), (2, .int v2)] [] := by
  rw [F_D_lookAt_b239] at hw
  refine g_aload_n h d_D_lookAt_239 rfl rfl ?_
  refine g_getI (t := 30) (i := 0) (k := 16) (C := "FlowGateModel") (T := T_D) (N := 42) h hL rfl (by decide) ob_30 (by decide) rfl (fun w hw => mc (in_D w hw)) (mc m_fl_D_115) rfl d_D_lookAt_240 ?_
  refine g_if_ne (tgt := 252) h d_D_lookAt_243 (by decide) (fun c8 => ?_) (fun c8 => ?_)
  · have hw := o_f c8 hw
    refine g_sub [0, 1, 2] rfl ?_
    exact w_D_lookAt_b252 hL h hQ hK165 v1 v2 M hw
  · have hw := o_t c8 hw
    refine g_aload_n h d_D_lookAt_246 rfl rfl ?_
    refine g_iconst (v := 3) h d_D_lookAt_247 (by decide) ?_
    refine g_iload_n h d_D_lookAt_248 rfl rfl ?_
    obtain ⟨M10, hc9, hw⟩ := o_v hw
    refine g_callv h (g_runV (rest := []) h (ct_D_fail hL 3 v1 M hc9) (cwV 2 h.2.2.2.2.1 (g_V m_ml_D_133 m_im_D_fail m_se_D_fail m_in_D m_co_D_fail) rfl rfl rfl (by decide +kernel) ⟨Nat.le_of_ble_eq_true rfl, Nat.le_of_ble_eq_true rfl⟩) (hL.recv h rfl (by decide) ob_30) rfl rfl (Nat.le_of_ble_eq_true rfl) d_D_lookAt_249) ?_
    refine g_sub [0, 1, 2] rfl ?_
    exact w_D_lookAt_b252 hL h hQ hK165 v1 v2 M10 hw
set_option maxHeartbeats 4000000 in
set_option maxRecDepth 100000 in
theorem w_D_lookAt_b463 {Z : ZT} {X : XT} (hL : Lay Z sD) (h : Ok Z X "FlowGateModel" c_D_lookAt ws_D_lookAt 6 ({ frames := 7, cells := 0, slots := 0, locals := 163 })) {res : Mm} (hQ : FinV Z X res)  (v1 : Int32) (v4 : Int32) (M : Mm)  (hw : F_D_lookAt_b463 v1 v4 M = some res) : G Z X M 463 [(0, .ref (za Z 30 0)), (1, .int v1), (4, .int v4)] [] := by
  rw [F_D_lookAt_b463] at hw
  refine g_aload_n h d_D_lookAt_463 rfl rfl ?_
  refine g_iload_n h d_D_lookAt_464 rfl rfl ?_
  refine g_iload h d_D_lookAt_465 rfl ?_
  obtain ⟨M12, hc11, hw⟩ := o_v hw
  refine g_callv h (g_runV (rest := []) h (ct_D_go hL v1 v4 M hc11) (cwV 2 h.2.2.2.2.1 (g_V m_ml_D_211 m_im_D_go m_se_D_go m_in_D m_co_D_go) rfl rfl rfl (by decide +kernel) ⟨Nat.le_of_ble_eq_true rfl, Nat.le_of_ble_eq_true rfl⟩) (hL.recv h rfl (by decide) ob_30) rfl rfl (Nat.le_of_ble_eq_true rfl) d_D_lookAt_467) ?_
  exact g_vret h hQ d_D_lookAt_470 hw
set_option maxHeartbeats 4000000 in
set_option maxRecDepth 100000 in
theorem w_D_lookAt_b446 {Z : ZT} {X : XT} (hL : Lay Z sD) (h : Ok Z X "FlowGateModel" c_D_lookAt ws_D_lookAt 6 ({ frames := 7, cells := 0, slots := 0, locals := 163 })) {res : Mm} (hQ : FinV Z X res)  (v1 : Int32) (v2 : Int32) (v4 : Int32) (M : Mm)  (hw : F_D_lookAt_b446 v1 v2 v4 M = some res) : G Z X M 446 [(0, .ref (za Z 30 0)), (1, .int v1), (2, .int v2), (4, .int v4)] [] := by
  rw [F_D_lookAt_b446] at hw
  refine g_iload_n h d_D_lookAt_446 rfl rfl ?_
  refine g_bipush (v := 12) h d_D_lookAt_447 (by decide) ?_
  refine g_bipush (v := 14) h d_D_lookAt_449 (by decide) ?_
  refine g_calli h (g_runS (rest := []) h (ct_D_in hL v2 12 14 M (p_D_in v2 12 14 M)) (cwS 3 h.2.2.2.2.1 (g_S m_ml_D_91 m_st_D_in m_in_D m_co_D_in) rfl rfl rfl (by decide +kernel) ⟨Nat.le_of_ble_eq_true rfl, Nat.le_of_ble_eq_true rfl⟩) rfl rfl (Nat.le_of_ble_eq_true rfl) d_D_lookAt_451) ?_
  refine g_topi (fun r14 er14 => ?_)
  have hw := o_l hw r14 er14
  refine g_if_ne (tgt := 463) h d_D_lookAt_454 (by decide) (fun c15 => ?_) (fun c15 => ?_)
  · have hw := o_f c15 hw
    refine g_sub [0, 1, 3] rfl ?_
    exact w_D_lookAt_b463 hL h hQ  v1 v4 M hw
  · have hw := o_t c15 hw
    refine g_iload_n h d_D_lookAt_457 rfl rfl ?_
    refine g_bipush (v := 17) h d_D_lookAt_458 (by decide) ?_
    refine g_icmp_ne (tgt := 470) h d_D_lookAt_460 (by decide) (fun c16 => ?_) (fun c16 => ?_)
    · have hw := o_f c16 hw
      exact g_vret h hQ d_D_lookAt_470 hw
    · have hw := o_t c16 hw
      refine g_sub [0, 1, 3] rfl ?_
      exact w_D_lookAt_b463 hL h hQ  v1 v4 M hw
set_option maxHeartbeats 4000000 in
set_option maxRecDepth 100000 in
theorem w_D_lookAt_b434 {Z : ZT} {X : XT} (hL : Lay Z sD) (h : Ok Z X "FlowGateModel" c_D_lookAt ws_D_lookAt 6 ({ frames := 7, cells := 0, slots := 0, locals := 163 })) {res : Mm} (hQ : FinV Z X res)  (v1 : Int32) (v2 : Int32) (v3 : Int32) (v4 : Int32) (M : Mm)  (hw : F_D_lookAt_b434 v1 v2 v3 v4 M = some res) : G Z X M 434 [(0, .ref (za Z 30 0)), (1, .int v1), (2, .int v2), (3, .int v3), (4, .int v4)] [] := by
  rw [F_D_lookAt_b434] at hw
  refine g_iload_n h d_D_lookAt_434 rfl rfl ?_
  refine g_bipush (v := 17) h d_D_lookAt_435 (by decide) ?_
  refine g_icmp_ne (tgt := 446) h d_D_lookAt_437 (by decide) (fun c17 => ?_) (fun c17 => ?_)
  · have hw := o_f c17 hw
    refine g_sub [0, 1, 2, 4] rfl ?_
    exact w_D_lookAt_b446 hL h hQ  v1 v2 v4 M hw
  · have hw := o_t c17 hw
    refine g_aload_n h d_D_lookAt_440 rfl rfl ?_
    refine g_iload_n h d_D_lookAt_441 rfl rfl ?_
    refine g_iload_n h d_D_lookAt_442 rfl rfl ?_
    obtain ⟨M19, hc18, hw⟩ := o_v hw
    refine g_callv h (g_runV (rest := []) h (ct_D_go hL v1 v3 M hc18) (cwV 2 h.2.2.2.2.1 (g_V m_ml_D_211 m_im_D_go m_se_D_go m_in_D m_co_D_go) rfl rfl rfl (by decide +kernel) ⟨Nat.le_of_ble_eq_true rfl, Nat.le_of_ble_eq_true rfl⟩) (hL.recv h rfl (by decide) ob_30) rfl rfl (Nat.le_of_ble_eq_true rfl) d_D_lookAt_443) ?_
    refine g_sub [0, 1, 2, 4] rfl ?_
    exact w_D_lookAt_b446 hL h hQ  v1 v2 v4 M19 hw
set_option maxHeartbeats 4000000 in
set_option maxRecDepth 100000 in
theorem w_D_lookAt_b359 {Z : ZT} {X : XT} (hL : Lay Z sD) (h : Ok Z X "FlowGateModel" c_D_lookAt ws_D_lookAt 6 ({ frames := 7, cells := 0, slots := 0, locals := 163 })) {res : Mm} (hQ : FinV Z X res)  (v1 : Int32) (v2 : Int32) (v3 : Int32) (v4 : Int32) (s0 : Int32) (M : Mm)  (hw : F_D_lookAt_b359 v1 v2 v3 v4 s0 M = some res) : G Z X M 359 [(0, .ref (za Z 30 0)), (1, .int v1), (2, .int v2), (3, .int v3), (4, .int v4)] [.int s0] := by
  rw [F_D_lookAt_b359] at hw
  refine g_istore (lv' := [(5, .int s0), (0, .ref (za Z 30 0)), (1, .int v1), (2, .int v2), (3, .int v3), (4, .int v4)]) h d_D_lookAt_359 (by decide) rfl ?_
  refine g_iload h d_D_lookAt_361 rfl ?_
  refine g_if_ne (tgt := 373) h d_D_lookAt_363 (by decide) (fun c20 => ?_) (fun c20 => ?_)
  · have hw := o_f c20 hw
    refine g_iload_n h d_D_lookAt_373 rfl rfl ?_
    refine g_bipush (v := 15) h d_D_lookAt_374 (by decide) ?_
    refine g_icmp_ne (tgt := 387) h d_D_lookAt_376 (by decide) (fun c21 => ?_) (fun c21 => ?_)
    · have hw := o_f c21 hw
      refine g_aload_n h d_D_lookAt_387 rfl rfl ?_
      refine g_getI (t := 30) (i := 0) (k := 32) (C := "FlowGateModel") (T := T_D) (N := 42) h hL rfl (by decide) ob_30 (by decide) rfl (fun w hw => mc (in_D w hw)) (mc m_fl_D_189) rfl d_D_lookAt_388 ?_
      refine g_aload_n h d_D_lookAt_391 rfl rfl ?_
      refine g_getI (t := 30) (i := 0) (k := 16) (C := "FlowGateModel") (T := T_D) (N := 42) h hL rfl (by decide) ob_30 (by decide) rfl (fun w hw => mc (in_D w hw)) (mc m_fl_D_115) rfl d_D_lookAt_392 ?_
      refine g_icmp_le (tgt := 405) h d_D_lookAt_395 (by decide) (fun c22 => ?_) (fun c22 => ?_)
      · have hw := o_t c22 hw
        refine g_aload_n h d_D_lookAt_405 rfl rfl ?_
        obtain ⟨M24, hc23, hw⟩ := o_v hw
        refine g_callv h (g_runV (rest := []) h (ct_D_copyOut hL M hc23) (cwV 0 h.2.2.2.2.1 (g_V m_ml_D_192 m_im_D_copyOut m_se_D_copyOut m_in_D m_co_D_copyOut) rfl rfl rfl (by decide +kernel) ⟨Nat.le_of_ble_eq_true rfl, Nat.le_of_ble_eq_true rfl⟩) (hL.recv h rfl (by decide) ob_30) rfl rfl (Nat.le_of_ble_eq_true rfl) d_D_lookAt_406) ?_
        refine g_iload_n h d_D_lookAt_409 rfl rfl ?_
        refine g_bipush (v := 14) h d_D_lookAt_410 (by decide) ?_
        refine g_icmp_eq (tgt := 434) h d_D_lookAt_412 (by decide) (fun c25 => ?_) (fun c25 => ?_)
        · have hw := o_t c25 hw
          refine g_sub [1, 2, 3, 4, 5] rfl ?_
          exact w_D_lookAt_b434 hL h hQ  v1 v2 v3 v4 M24 hw
        · have hw := o_f c25 hw
          refine g_iload_n h d_D_lookAt_415 rfl rfl ?_
          refine g_bipush (v := 17) h d_D_lookAt_416 (by decide) ?_
          refine g_bipush (v := 19) h d_D_lookAt_418 (by decide) ?_
          refine g_calli h (g_runS (rest := []) h (ct_D_in hL v2 17 19 M24 (p_D_in v2 17 19 M24)) (cwS 3 h.2.2.2.2.1 (g_S m_ml_D_91 m_st_D_in m_in_D m_co_D_in) rfl rfl rfl (by decide +kernel) ⟨Nat.le_of_ble_eq_true rfl, Nat.le_of_ble_eq_true rfl⟩) rfl rfl (Nat.le_of_ble_eq_true rfl) d_D_lookAt_420) ?_
          refine g_topi (fun r27 er27 => ?_)
          have hw := o_l hw r27 er27
          refine g_if_ne (tgt := 434) h d_D_lookAt_423 (by decide) (fun c28 => ?_) (fun c28 => ?_)
          · have hw := o_f c28 hw
            refine g_sub [1, 2, 3, 4, 5] rfl ?_
            exact w_D_lookAt_b434 hL h hQ  v1 v2 v3 v4 M24 hw
          · have hw := o_t c28 hw
            refine g_aload_n h d_D_lookAt_426 rfl rfl ?_
            refine g_iload_n h d_D_lookAt_427 rfl rfl ?_
            refine g_iload_n h d_D_lookAt_428 rfl rfl ?_
            refine g_iconst (v := 1) h d_D_lookAt_429 (by decide) ?_
            refine g_iadd h d_D_lookAt_430 ?_
            obtain ⟨M30, hc29, hw⟩ := o_v hw
            refine g_callv h (g_runV (rest := []) h (ct_D_go hL v1 (v1 + 1) M24 hc29) (cwV 2 h.2.2.2.2.1 (g_V m_ml_D_211 m_im_D_go m_se_D_go m_in_D m_co_D_go) rfl rfl rfl (by decide +kernel) ⟨Nat.le_of_ble_eq_true rfl, Nat.le_of_ble_eq_true rfl⟩) (hL.recv h rfl (by decide) ob_30) rfl rfl (Nat.le_of_ble_eq_true rfl) d_D_lookAt_431) ?_
            refine g_sub [1, 2, 3, 4, 5] rfl ?_
            exact w_D_lookAt_b434 hL h hQ  v1 v2 v3 v4 M30 hw
      · have hw := o_f c22 hw
        refine g_aload_n h d_D_lookAt_398 rfl rfl ?_
        refine g_iconst (v := 3) h d_D_lookAt_399 (by decide) ?_
        refine g_iload_n h d_D_lookAt_400 rfl rfl ?_
        obtain ⟨M32, hc31, hw⟩ := o_v hw
        refine g_callv h (g_runV (rest := []) h (ct_D_fail hL 3 v1 M hc31) (cwV 2 h.2.2.2.2.1 (g_V m_ml_D_133 m_im_D_fail m_se_D_fail m_in_D m_co_D_fail) rfl rfl rfl (by decide +kernel) ⟨Nat.le_of_ble_eq_true rfl, Nat.le_of_ble_eq_true rfl⟩) (hL.recv h rfl (by decide) ob_30) rfl rfl (Nat.le_of_ble_eq_true rfl) d_D_lookAt_401) ?_
        exact g_vret h hQ d_D_lookAt_404 hw
    · have hw := o_t c21 hw
      refine g_aload_n h d_D_lookAt_379 rfl rfl ?_
      refine g_iload_n h d_D_lookAt_380 rfl rfl ?_
      refine g_iload h d_D_lookAt_381 rfl ?_
      obtain ⟨M34, hc33, hw⟩ := o_v hw
      refine g_callv h (g_runV (rest := []) h (ct_D_enters hL v1 v4 M hc33) (cwV 2 h.2.2.2.2.1 (g_V m_ml_D_208 m_im_D_enters m_se_D_enters m_in_D m_co_D_enters) rfl rfl rfl (by decide +kernel) ⟨Nat.le_of_ble_eq_true rfl, Nat.le_of_ble_eq_true rfl⟩) (hL.recv h rfl (by decide) ob_30) rfl rfl (Nat.le_of_ble_eq_true rfl) d_D_lookAt_383) ?_
      exact g_vret h hQ d_D_lookAt_386 hw
  · have hw := o_t c20 hw
    refine g_aload_n h d_D_lookAt_366 rfl rfl ?_
    refine g_iconst (v := 2) h d_D_lookAt_367 (by decide) ?_
    refine g_iload_n h d_D_lookAt_368 rfl rfl ?_
    obtain ⟨M36, hc35, hw⟩ := o_v hw
    refine g_callv h (g_runV (rest := []) h (ct_D_fail hL 2 v1 M hc35) (cwV 2 h.2.2.2.2.1 (g_V m_ml_D_133 m_im_D_fail m_se_D_fail m_in_D m_co_D_fail) rfl rfl rfl (by decide +kernel) ⟨Nat.le_of_ble_eq_true rfl, Nat.le_of_ble_eq_true rfl⟩) (hL.recv h rfl (by decide) ob_30) rfl rfl (Nat.le_of_ble_eq_true rfl) d_D_lookAt_369) ?_
    exact g_vret h hQ d_D_lookAt_372 hw
set_option maxHeartbeats 4000000 in
set_option maxRecDepth 100000 in
theorem w_D_lookAt_b275 {Z : ZT} {X : XT} (hL : Lay Z sD) (h : Ok Z X "FlowGateModel" c_D_lookAt ws_D_lookAt 6 ({ frames := 7, cells := 0, slots := 0, locals := 163 })) {res : Mm} (hQ : FinV Z X res)  (v1 : Int32) (M : Mm)  (hw : F_D_lookAt_b275 v1 M = some res) : G Z X M 275 [(0, .ref (za Z 30 0)), (1, .int v1)] [] := by
  rw [F_D_lookAt_b275] at hw
  refine g_aload_n h d_D_lookAt_275 rfl rfl ?_
  refine g_getI (t := 30) (i := 0) (k := 34) (C := "FlowGateModel") (T := T_D) (N := 42) h hL rfl (by decide) ob_30 (by decide) rfl (fun w hw => mc (in_D w hw)) (mc m_fl_D_130) rfl d_D_lookAt_276 ?_
  refine g_if_le (tgt := 283) h d_D_lookAt_279 (by decide) (fun c37 => ?_) (fun c37 => ?_)
  · have hw := o_t c37 hw
    refine g_aload_n h d_D_lookAt_283 rfl rfl ?_
    refine g_getR (t := 30) (i := 0) (k := 3) (C := "FlowGateModel") (T := T_D) (N := 42) h hL rfl (by decide) ob_30 (by decide) rfl (t' := 33) (i' := 0) rfl rfl (fun w hw => mc (in_D w hw)) (mc m_fl_D_21) rfl d_D_lookAt_284 ?_
    refine g_iload_n h d_D_lookAt_287 rfl rfl ?_
    obtain ⟨hv38, hw⟩ := o_in hw
    refine g_iald (t := 33) (i := 0) h hL rfl (by decide) rfl rfl hv38 d_D_lookAt_288 ?_
    refine g_topi (fun n39 en39 => ?_)
    have hw := o_l hw n39 en39
    refine g_istore_n (lv' := [(2, .int n39), (0, .ref (za Z 30 0)), (1, .int v1)]) h d_D_lookAt_289 rfl (by decide) rfl ?_
    refine g_aload_n h d_D_lookAt_290 rfl rfl ?_
    refine g_getR (t := 30) (i := 0) (k := 4) (C := "FlowGateModel") (T := T_D) (N := 42) h hL rfl (by decide) ob_30 (by decide) rfl (t' := 34) (i' := 0) rfl rfl (fun w hw => mc (in_D w hw)) (mc m_fl_D_24) rfl d_D_lookAt_291 ?_
    refine g_iload_n h d_D_lookAt_294 rfl rfl ?_
    obtain ⟨hv40, hw⟩ := o_in hw
    refine g_iald (t := 34) (i := 0) h hL rfl (by decide) rfl rfl hv40 d_D_lookAt_295 ?_
    refine g_topi (fun n41 en41 => ?_)
    have hw := o_l hw n41 en41
    refine g_istore_n (lv' := [(3, .int n41), (2, .int n39), (0, .ref (za Z 30 0)), (1, .int v1)]) h d_D_lookAt_296 rfl (by decide) rfl ?_
    refine g_aload_n h d_D_lookAt_297 rfl rfl ?_
    refine g_getR (t := 30) (i := 0) (k := 5) (C := "FlowGateModel") (T := T_D) (N := 42) h hL rfl (by decide) ob_30 (by decide) rfl (t' := 35) (i' := 0) rfl rfl (fun w hw => mc (in_D w hw)) (mc m_fl_D_27) rfl d_D_lookAt_298 ?_
    refine g_iload_n h d_D_lookAt_301 rfl rfl ?_
    obtain ⟨hv42, hw⟩ := o_in hw
    refine g_iald (t := 35) (i := 0) h hL rfl (by decide) rfl rfl hv42 d_D_lookAt_302 ?_
    refine g_topi (fun n43 en43 => ?_)
    have hw := o_l hw n43 en43
    refine g_istore (lv' := [(4, .int n43), (3, .int n41), (2, .int n39), (0, .ref (za Z 30 0)), (1, .int v1)]) h d_D_lookAt_303 (by decide) rfl ?_
    refine g_iload_n h d_D_lookAt_305 rfl rfl ?_
    refine g_bipush (v := 16) h d_D_lookAt_306 (by decide) ?_
    refine g_icmp_ne (tgt := 318) h d_D_lookAt_308 (by decide) (fun c44 => ?_) (fun c44 => ?_)
    · have hw := o_f c44 hw
      refine g_iload_n h d_D_lookAt_318 rfl rfl ?_
      refine g_bipush (v := 9) h d_D_lookAt_319 (by decide) ?_
      refine g_icmp_ge (tgt := 333) h d_D_lookAt_321 (by decide) (fun c45 => ?_) (fun c45 => ?_)
      · have hw := o_t c45 hw
        refine g_iload_n h d_D_lookAt_333 rfl rfl ?_
        refine g_bipush (v := 20) h d_D_lookAt_334 (by decide) ?_
        refine g_icmp_ge (tgt := 350) h d_D_lookAt_336 (by decide) (fun c46 => ?_) (fun c46 => ?_)
        · have hw := o_t c46 hw
          refine g_aload_n h d_D_lookAt_350 rfl rfl ?_
          refine g_iload_n h d_D_lookAt_351 rfl rfl ?_
          refine g_iload_n h d_D_lookAt_352 rfl rfl ?_
          refine g_iload_n h d_D_lookAt_353 rfl rfl ?_
          refine g_iload h d_D_lookAt_354 rfl ?_
          obtain ⟨r49, M48, hc47, hw⟩ := o_b hw
          refine g_calli h (g_runV (rest := []) h (ct_D_objects hL v1 n39 n41 n43 M hc47) (cwV 4 h.2.2.2.2.1 (g_V m_ml_D_204 m_im_D_objects m_se_D_objects m_in_D m_co_D_objects) rfl rfl rfl (by decide +kernel) ⟨Nat.le_of_ble_eq_true rfl, Nat.le_of_ble_eq_true rfl⟩) (hL.recv h rfl (by decide) ob_30) rfl rfl (Nat.le_of_ble_eq_true rfl) d_D_lookAt_356) ?_
          refine g_sub [3, 4, 2, 1, 0] rfl ?_
          exact w_D_lookAt_b359 hL h hQ  v1 n39 n41 n43 r49 M48 hw
        · have hw := o_f c46 hw
          refine g_aload_n h d_D_lookAt_339 rfl rfl ?_
          refine g_iload_n h d_D_lookAt_340 rfl rfl ?_
          refine g_iload_n h d_D_lookAt_341 rfl rfl ?_
          refine g_iload h d_D_lookAt_342 rfl ?_
          obtain ⟨r52, M51, hc50, hw⟩ := o_b hw
          refine g_calli h (g_runV (rest := []) h (ct_D_flows hL n39 n41 n43 M hc50) (cwV 3 h.2.2.2.2.1 (g_V m_ml_D_201 m_im_D_flows m_se_D_flows m_in_D m_co_D_flows) rfl rfl rfl (by decide +kernel) ⟨Nat.le_of_ble_eq_true rfl, Nat.le_of_ble_eq_true rfl⟩) (hL.recv h rfl (by decide) ob_30) rfl rfl (Nat.le_of_ble_eq_true rfl) d_D_lookAt_344) ?_
          refine g_goto (tgt := 359) h d_D_lookAt_347 (by decide) ?_
          refine g_sub [3, 4, 2, 1, 0] rfl ?_
          exact w_D_lookAt_b359 hL h hQ  v1 n39 n41 n43 r52 M51 hw
      · have hw := o_f c45 hw
        refine g_aload_n h d_D_lookAt_324 rfl rfl ?_
        refine g_iload_n h d_D_lookAt_325 rfl rfl ?_
        refine g_iload_n h d_D_lookAt_326 rfl rfl ?_
        obtain ⟨r55, M54, hc53, hw⟩ := o_b hw
        refine g_calli h (g_runV (rest := []) h (ct_D_moves hL n39 n41 M hc53) (cwV 2 h.2.2.2.2.1 (g_V m_ml_D_198 m_im_D_moves m_se_D_moves m_in_D m_co_D_moves) rfl rfl rfl (by decide +kernel) ⟨Nat.le_of_ble_eq_true rfl, Nat.le_of_ble_eq_true rfl⟩) (hL.recv h rfl (by decide) ob_30) rfl rfl (Nat.le_of_ble_eq_true rfl) d_D_lookAt_327) ?_
        refine g_goto (tgt := 359) h d_D_lookAt_330 (by decide) ?_
        refine g_sub [3, 4, 2, 1, 0] rfl ?_
        exact w_D_lookAt_b359 hL h hQ  v1 n39 n41 n43 r55 M54 hw
    · have hw := o_t c44 hw
      refine g_aload_n h d_D_lookAt_311 rfl rfl ?_
      refine g_iload_n h d_D_lookAt_312 rfl rfl ?_
      refine g_iload_n h d_D_lookAt_313 rfl rfl ?_
      obtain ⟨M57, hc56, hw⟩ := o_v hw
      refine g_callv h (g_runV (rest := []) h (ct_D_back hL v1 n41 M hc56) (cwV 2 h.2.2.2.2.1 (g_V m_ml_D_195 m_im_D_back m_se_D_back m_in_D m_co_D_back) rfl rfl rfl (by decide +kernel) ⟨Nat.le_of_ble_eq_true rfl, Nat.le_of_ble_eq_true rfl⟩) (hL.recv h rfl (by decide) ob_30) rfl rfl (Nat.le_of_ble_eq_true rfl) d_D_lookAt_314) ?_
      exact g_vret h hQ d_D_lookAt_317 hw
  · have hw := o_f c37 hw
    exact g_vret h hQ d_D_lookAt_282 hw
set_option maxHeartbeats 4000000 in
set_option maxRecDepth 100000 in
theorem w_D_lookAt_b165 {Z : ZT} {X : XT} (hL : Lay Z sD) (h : Ok Z X "FlowGateModel" c_D_lookAt ws_D_lookAt 6 ({ frames := 7, cells := 0, slots := 0, locals := 163 })) {res : Mm} (hQ : FinV Z X res)  : ∀ (n : Nat) (v1 : Int32) (v2 : Int32) (M : Mm), F_D_lookAt_b165  n v1 v2 M = some res → G Z X M 165 [(0, .ref (za Z 30 0)), (1, .int v1), (2, .int v2)] [] := by
  intro n
  induction n with
  | zero =>
    intro v1 v2 M hw
    cases hw
  | succ n hK165 =>
    intro v1 v2 M hw
    rw [F_D_lookAt_b165] at hw
    refine g_iload_n h d_D_lookAt_165 rfl rfl ?_
    refine g_aload_n h d_D_lookAt_166 rfl rfl ?_
    refine g_getI (t := 30) (i := 0) (k := 12) (C := "FlowGateModel") (T := T_D) (N := 42) h hL rfl (by decide) ob_30 (by decide) rfl (fun w hw => mc (in_D w hw)) (mc m_fl_D_121) rfl d_D_lookAt_167 ?_
    refine g_icmp_ge (tgt := 275) h d_D_lookAt_170 (by decide) (fun c58 => ?_) (fun c58 => ?_)
    · have hw := o_t c58 hw
      refine g_sub [0, 1] rfl ?_
      exact w_D_lookAt_b275 hL h hQ  v1 M hw
    · have hw := o_f c58 hw
      refine g_aload_n h d_D_lookAt_173 rfl rfl ?_
      refine g_getI (t := 30) (i := 0) (k := 34) (C := "FlowGateModel") (T := T_D) (N := 42) h hL rfl (by decide) ob_30 (by decide) rfl (fun w hw => mc (in_D w hw)) (mc m_fl_D_130) rfl d_D_lookAt_174 ?_
      refine g_if_ne (tgt := 275) h d_D_lookAt_177 (by decide) (fun c59 => ?_) (fun c59 => ?_)
      · have hw := o_f c59 hw
        refine g_sub [0, 1] rfl ?_
        exact w_D_lookAt_b275 hL h hQ  v1 M hw
      · have hw := o_t c59 hw
        refine g_iload_n h d_D_lookAt_180 rfl rfl ?_
        refine g_aload_n h d_D_lookAt_181 rfl rfl ?_
        refine g_getR (t := 30) (i := 0) (k := 6) (C := "FlowGateModel") (T := T_D) (N := 42) h hL rfl (by decide) ob_30 (by decide) rfl (t' := 36) (i' := 0) rfl rfl (fun w hw => mc (in_D w hw)) (mc m_fl_D_30) rfl d_D_lookAt_182 ?_
        refine g_iload_n h d_D_lookAt_185 rfl rfl ?_
        obtain ⟨hv60, hw⟩ := o_in hw
        refine g_iald (t := 36) (i := 0) h hL rfl (by decide) rfl rfl hv60 d_D_lookAt_186 ?_
        refine g_icmp_lt (tgt := 269) h d_D_lookAt_187 (by decide) (fun c61 => ?_) (fun c61 => ?_)
        · have hw := o_t c61 hw
          refine g_sub [0, 1, 2] rfl ?_
          exact w_D_lookAt_b269 hL h hQ hK165 v1 v2 M hw
        · have hw := o_f c61 hw
          refine g_iload_n h d_D_lookAt_190 rfl rfl ?_
          refine g_aload_n h d_D_lookAt_191 rfl rfl ?_
          refine g_getR (t := 30) (i := 0) (k := 7) (C := "FlowGateModel") (T := T_D) (N := 42) h hL rfl (by decide) ob_30 (by decide) rfl (t' := 37) (i' := 0) rfl rfl (fun w hw => mc (in_D w hw)) (mc m_fl_D_33) rfl d_D_lookAt_192 ?_
          refine g_iload_n h d_D_lookAt_195 rfl rfl ?_
          obtain ⟨hv62, hw⟩ := o_in hw
          refine g_iald (t := 37) (i := 0) h hL rfl (by decide) rfl rfl hv62 d_D_lookAt_196 ?_
          refine g_icmp_ge (tgt := 269) h d_D_lookAt_197 (by decide) (fun c63 => ?_) (fun c63 => ?_)
          · have hw := o_t c63 hw
            refine g_sub [0, 1, 2] rfl ?_
            exact w_D_lookAt_b269 hL h hQ hK165 v1 v2 M hw
          · have hw := o_f c63 hw
            refine g_aload_n h d_D_lookAt_200 rfl rfl ?_
            obtain ⟨M65, hc64, hw⟩ := o_v hw
            refine g_callv h (g_runV (rest := []) h (ct_D_copyOut hL M hc64) (cwV 0 h.2.2.2.2.1 (g_V m_ml_D_192 m_im_D_copyOut m_se_D_copyOut m_in_D m_co_D_copyOut) rfl rfl rfl (by decide +kernel) ⟨Nat.le_of_ble_eq_true rfl, Nat.le_of_ble_eq_true rfl⟩) (hL.recv h rfl (by decide) ob_30) rfl rfl (Nat.le_of_ble_eq_true rfl) d_D_lookAt_201) ?_
            refine g_aload_n h d_D_lookAt_204 rfl rfl ?_
            refine g_iconst (v := 1) h d_D_lookAt_205 (by decide) ?_
            refine g_putI (t := 30) (i := 0) (k := 33) (C := "FlowGateModel") (T := T_D) (N := 42) h hL rfl (by decide) ob_30 (by decide) rfl (fun w hw => mc (in_D w hw)) ty_D ty_D_ok nm_D (mc m_fl_D_166) rfl rfl rfl d_D_lookAt_206 ?_
            refine g_mem (fun M66 eM66 => ?_)
            have hw := o_l hw M66 eM66
            refine g_aload_n h d_D_lookAt_209 rfl rfl ?_
            refine g_getR (t := 30) (i := 0) (k := 29) (C := "FlowGateModel") (T := T_D) (N := 42) h hL rfl (by decide) ob_30 (by decide) rfl (t' := 53) (i' := 0) rfl rfl (fun w hw => mc (in_D w hw)) (mc m_fl_D_82) rfl d_D_lookAt_210 ?_
            refine g_iconst (v := 0) h d_D_lookAt_213 (by decide) ?_
            refine g_bipush (v := 16) h d_D_lookAt_214 (by decide) ?_
            refine g_aload_n h d_D_lookAt_216 rfl rfl ?_
            refine g_getR (t := 30) (i := 0) (k := 9) (C := "FlowGateModel") (T := T_D) (N := 42) h hL rfl (by decide) ob_30 (by decide) rfl (t' := 39) (i' := 0) rfl rfl (fun w hw => mc (in_D w hw)) (mc m_fl_D_39) rfl d_D_lookAt_217 ?_
            refine g_iload_n h d_D_lookAt_220 rfl rfl ?_
            obtain ⟨hv67, hw⟩ := o_in hw
            refine g_iald (t := 39) (i := 0) h hL rfl (by decide) rfl rfl hv67 d_D_lookAt_221 ?_
            refine g_iadd h d_D_lookAt_222 ?_
            obtain ⟨hv68, hw⟩ := o_in hw
            refine g_iast (t := 53) (i := 0) h hL rfl (by decide) rfl rfl hv68 d_D_lookAt_223 ?_
            refine g_mem (fun M69 eM69 => ?_)
            have hw := o_l hw M69 eM69
            refine g_aload_n h d_D_lookAt_224 rfl rfl ?_
            refine g_iconst (v := 0) h d_D_lookAt_225 (by decide) ?_
            obtain ⟨r72, M71, hc70, hw⟩ := o_b hw
            refine g_calli h (g_runV (rest := []) h (ct_D_hasRaw hL 0 M69 hc70) (cwV 1 h.2.2.2.2.1 (g_V m_ml_D_179 m_im_D_hasRaw m_se_D_hasRaw m_in_D m_co_D_hasRaw) rfl rfl rfl (by decide +kernel) ⟨Nat.le_of_ble_eq_true rfl, Nat.le_of_ble_eq_true rfl⟩) (hL.recv h rfl (by decide) ob_30) rfl rfl (Nat.le_of_ble_eq_true rfl) d_D_lookAt_226) ?_
            refine g_if_eq (tgt := 239) h d_D_lookAt_229 (by decide) (fun c73 => ?_) (fun c73 => ?_)
            · have hw := o_t c73 hw
              refine g_sub [0, 1, 2] rfl ?_
              exact w_D_lookAt_b239 hL h hQ hK165 v1 v2 M71 hw
            · have hw := o_f c73 hw
              refine g_aload_n h d_D_lookAt_232 rfl rfl ?_
              refine g_bipush (v := 8) h d_D_lookAt_233 (by decide) ?_
              refine g_iload_n h d_D_lookAt_235 rfl rfl ?_
              obtain ⟨M75, hc74, hw⟩ := o_v hw
              refine g_callv h (g_runV (rest := []) h (ct_D_fail hL 8 v1 M71 hc74) (cwV 2 h.2.2.2.2.1 (g_V m_ml_D_133 m_im_D_fail m_se_D_fail m_in_D m_co_D_fail) rfl rfl rfl (by decide +kernel) ⟨Nat.le_of_ble_eq_true rfl, Nat.le_of_ble_eq_true rfl⟩) (hL.recv h rfl (by decide) ob_30) rfl rfl (Nat.le_of_ble_eq_true rfl) d_D_lookAt_236) ?_
              refine g_sub [0, 1, 2] rfl ?_
              exact w_D_lookAt_b239 hL h hQ hK165 v1 v2 M75 hw
set_option maxHeartbeats 4000000 in
set_option maxRecDepth 100000 in
theorem w_D_lookAt_b134 {Z : ZT} {X : XT} (hL : Lay Z sD) (h : Ok Z X "FlowGateModel" c_D_lookAt ws_D_lookAt 6 ({ frames := 7, cells := 0, slots := 0, locals := 163 })) {res : Mm} (hQ : FinV Z X res)  : ∀ (n : Nat) (v1 : Int32) (v2 : Int32) (M : Mm), F_D_lookAt_b134  n v1 v2 M = some res → G Z X M 134 [(0, .ref (za Z 30 0)), (1, .int v1), (2, .int v2)] [] := by
  intro n
  induction n with
  | zero =>
    intro v1 v2 M hw
    cases hw
  | succ n hK134 =>
    intro v1 v2 M hw
    rw [F_D_lookAt_b134] at hw
    refine g_iload_n h d_D_lookAt_134 rfl rfl ?_
    refine g_bipush (v := 48) h d_D_lookAt_135 (by decide) ?_
    refine g_icmp_ge (tgt := 163) h d_D_lookAt_137 (by decide) (fun c76 => ?_) (fun c76 => ?_)
    · have hw := o_t c76 hw
      refine g_iconst (v := 0) h d_D_lookAt_163 (by decide) ?_
      refine g_istore_n (lv' := [(2, .int 0), (0, .ref (za Z 30 0)), (1, .int v1)]) h d_D_lookAt_164 rfl (by decide) rfl ?_
      refine g_sub [1, 2, 0] rfl ?_
      exact w_D_lookAt_b165 hL h hQ  fuel v1 0 M hw
    · have hw := o_f c76 hw
      refine g_aload_n h d_D_lookAt_140 rfl rfl ?_
      refine g_getR (t := 30) (i := 0) (k := 27) (C := "FlowGateModel") (T := T_D) (N := 42) h hL rfl (by decide) ob_30 (by decide) rfl (t' := 51) (i' := 0) rfl rfl (fun w hw => mc (in_D w hw)) (mc m_fl_D_76) rfl d_D_lookAt_141 ?_
      refine g_iload_n h d_D_lookAt_144 rfl rfl ?_
      refine g_aload_n h d_D_lookAt_145 rfl rfl ?_
      refine g_getR (t := 30) (i := 0) (k := 22) (C := "FlowGateModel") (T := T_D) (N := 42) h hL rfl (by decide) ob_30 (by decide) rfl (t' := 46) (i' := 0) rfl rfl (fun w hw => mc (in_D w hw)) (mc m_fl_D_60) rfl d_D_lookAt_146 ?_
      refine g_bipush (v := 48) h d_D_lookAt_149 (by decide) ?_
      refine g_iload_n h d_D_lookAt_151 rfl rfl ?_
      refine g_imul h d_D_lookAt_152 ?_
      refine g_iload_n h d_D_lookAt_153 rfl rfl ?_
      refine g_iadd h d_D_lookAt_154 ?_
      obtain ⟨hv77, hw⟩ := o_in hw
      refine g_iald (t := 46) (i := 0) h hL rfl (by decide) rfl rfl hv77 d_D_lookAt_155 ?_
      obtain ⟨hv78, hw⟩ := o_in hw
      refine g_iast (t := 51) (i := 0) h hL rfl (by decide) rfl rfl hv78 d_D_lookAt_156 ?_
      refine g_mem (fun M79 eM79 => ?_)
      have hw := o_l hw M79 eM79
      refine g_iinc (n' := 1) (lw := fun y => [(2, .int y), (0, .ref (za Z 30 0)), (1, .int v1)]) h d_D_lookAt_157 rfl (by decide) (by decide) (fun _ => rfl) (fun n80 en80 => ?_)
      have hw := o_l hw n80 en80
      refine g_goto (tgt := 134) h d_D_lookAt_160 (by decide) ?_
      refine g_sub [1, 2, 0] rfl ?_
      exact hK134 v1 n80 M79 hw
set_option maxHeartbeats 4000000 in
set_option maxRecDepth 100000 in
theorem w_D_lookAt_b75 {Z : ZT} {X : XT} (hL : Lay Z sD) (h : Ok Z X "FlowGateModel" c_D_lookAt ws_D_lookAt 6 ({ frames := 7, cells := 0, slots := 0, locals := 163 })) {res : Mm} (hQ : FinV Z X res)  : ∀ (n : Nat) (v1 : Int32) (v2 : Int32) (M : Mm), F_D_lookAt_b75  n v1 v2 M = some res → G Z X M 75 [(0, .ref (za Z 30 0)), (1, .int v1), (2, .int v2)] [] := by
  intro n
  induction n with
  | zero =>
    intro v1 v2 M hw
    cases hw
  | succ n hK75 =>
    intro v1 v2 M hw
    rw [F_D_lookAt_b75] at hw
    refine g_iload_n h d_D_lookAt_75 rfl rfl ?_
    refine g_aload_n h d_D_lookAt_76 rfl rfl ?_
    refine g_getI (t := 30) (i := 0) (k := 31) (C := "FlowGateModel") (T := T_D) (N := 42) h hL rfl (by decide) ob_30 (by decide) rfl (fun w hw => mc (in_D w hw)) (mc m_fl_D_183) rfl d_D_lookAt_77 ?_
    refine g_icmp_ge (tgt := 132) h d_D_lookAt_80 (by decide) (fun c81 => ?_) (fun c81 => ?_)
    · have hw := o_t c81 hw
      refine g_iconst (v := 0) h d_D_lookAt_132 (by decide) ?_
      refine g_istore_n (lv' := [(2, .int 0), (0, .ref (za Z 30 0)), (1, .int v1)]) h d_D_lookAt_133 rfl (by decide) rfl ?_
      refine g_sub [1, 2, 0] rfl ?_
      exact w_D_lookAt_b134 hL h hQ  fuel v1 0 M hw
    · have hw := o_f c81 hw
      refine g_aload_n h d_D_lookAt_83 rfl rfl ?_
      refine g_getR (t := 30) (i := 0) (k := 26) (C := "FlowGateModel") (T := T_D) (N := 42) h hL rfl (by decide) ob_30 (by decide) rfl (t' := 50) (i' := 0) rfl rfl (fun w hw => mc (in_D w hw)) (mc m_fl_D_73) rfl d_D_lookAt_84 ?_
      refine g_iload_n h d_D_lookAt_87 rfl rfl ?_
      refine g_aload_n h d_D_lookAt_88 rfl rfl ?_
      refine g_getR (t := 30) (i := 0) (k := 20) (C := "FlowGateModel") (T := T_D) (N := 42) h hL rfl (by decide) ob_30 (by decide) rfl (t' := 44) (i' := 0) rfl rfl (fun w hw => mc (in_D w hw)) (mc m_fl_D_54) rfl d_D_lookAt_89 ?_
      refine g_bipush (v := 12) h d_D_lookAt_92 (by decide) ?_
      refine g_iload_n h d_D_lookAt_94 rfl rfl ?_
      refine g_imul h d_D_lookAt_95 ?_
      refine g_iload_n h d_D_lookAt_96 rfl rfl ?_
      refine g_iadd h d_D_lookAt_97 ?_
      obtain ⟨hv82, hw⟩ := o_in hw
      refine g_iald (t := 44) (i := 0) h hL rfl (by decide) rfl rfl hv82 d_D_lookAt_98 ?_
      obtain ⟨hv83, hw⟩ := o_in hw
      refine g_iast (t := 50) (i := 0) h hL rfl (by decide) rfl rfl hv83 d_D_lookAt_99 ?_
      refine g_mem (fun M84 eM84 => ?_)
      have hw := o_l hw M84 eM84
      refine g_aload_n h d_D_lookAt_100 rfl rfl ?_
      refine g_dup h d_D_lookAt_101 rfl ?_
      refine g_getI (t := 30) (i := 0) (k := 32) (C := "FlowGateModel") (T := T_D) (N := 42) h hL rfl (by decide) ob_30 (by decide) rfl (fun w hw => mc (in_D w hw)) (mc m_fl_D_189) rfl d_D_lookAt_102 ?_
      refine g_aload_n h d_D_lookAt_105 rfl rfl ?_
      refine g_getR (t := 30) (i := 0) (k := 26) (C := "FlowGateModel") (T := T_D) (N := 42) h hL rfl (by decide) ob_30 (by decide) rfl (t' := 50) (i' := 0) rfl rfl (fun w hw => mc (in_D w hw)) (mc m_fl_D_73) rfl d_D_lookAt_106 ?_
      refine g_iload_n h d_D_lookAt_109 rfl rfl ?_
      obtain ⟨hv85, hw⟩ := o_in hw
      refine g_iald (t := 50) (i := 0) h hL rfl (by decide) rfl rfl hv85 d_D_lookAt_110 ?_
      refine g_calli h (g_runS (rest := [.int (M84.1 30 0 32), .ref (za Z 30 0)]) h (ct_D_isWide hL (M84.1 50 0 (v2 : Int32).toNatClampNeg) M84 (p_D_isWide (M84.1 50 0 (v2 : Int32).toNatClampNeg) M84)) (cwS 1 h.2.2.2.2.1 (g_S m_ml_D_140 m_st_D_isWide m_in_D m_co_D_isWide) rfl rfl rfl (by decide +kernel) ⟨Nat.le_of_ble_eq_true rfl, Nat.le_of_ble_eq_true rfl⟩) rfl rfl (Nat.le_of_ble_eq_true rfl) d_D_lookAt_111) ?_
      refine g_topi (fun r87 er87 => ?_)
      have hw := o_l hw r87 er87
      refine g_if_eq (tgt := 121) h d_D_lookAt_114 (by decide) (fun c88 => ?_) (fun c88 => ?_)
      · have hw := o_t c88 hw
        refine g_iconst (v := 1) h d_D_lookAt_121 (by decide) ?_
        refine g_sub [0, 1, 2] rfl ?_
        exact w_D_lookAt_b122 hL h hQ hK75 v1 v2 (M84.1 30 0 32) 1 M84 hw
      · have hw := o_f c88 hw
        refine g_iconst (v := 2) h d_D_lookAt_117 (by decide) ?_
        refine g_goto (tgt := 122) h d_D_lookAt_118 (by decide) ?_
        refine g_sub [0, 1, 2] rfl ?_
        exact w_D_lookAt_b122 hL h hQ hK75 v1 v2 (M84.1 30 0 32) 2 M84 hw
set_option maxHeartbeats 4000000 in
set_option maxRecDepth 100000 in
theorem w_D_lookAt_b44 {Z : ZT} {X : XT} (hL : Lay Z sD) (h : Ok Z X "FlowGateModel" c_D_lookAt ws_D_lookAt 6 ({ frames := 7, cells := 0, slots := 0, locals := 163 })) {res : Mm} (hQ : FinV Z X res)  : ∀ (n : Nat) (v1 : Int32) (v2 : Int32) (M : Mm), F_D_lookAt_b44  n v1 v2 M = some res → G Z X M 44 [(0, .ref (za Z 30 0)), (1, .int v1), (2, .int v2)] [] := by
  intro n
  induction n with
  | zero =>
    intro v1 v2 M hw
    cases hw
  | succ n hK44 =>
    intro v1 v2 M hw
    rw [F_D_lookAt_b44] at hw
    refine g_iload_n h d_D_lookAt_44 rfl rfl ?_
    refine g_bipush (v := 12) h d_D_lookAt_45 (by decide) ?_
    refine g_icmp_ge (tgt := 73) h d_D_lookAt_47 (by decide) (fun c89 => ?_) (fun c89 => ?_)
    · have hw := o_t c89 hw
      refine g_iconst (v := 0) h d_D_lookAt_73 (by decide) ?_
      refine g_istore_n (lv' := [(2, .int 0), (0, .ref (za Z 30 0)), (1, .int v1)]) h d_D_lookAt_74 rfl (by decide) rfl ?_
      refine g_sub [1, 2, 0] rfl ?_
      exact w_D_lookAt_b75 hL h hQ  fuel v1 0 M hw
    · have hw := o_f c89 hw
      refine g_aload_n h d_D_lookAt_50 rfl rfl ?_
      refine g_getR (t := 30) (i := 0) (k := 25) (C := "FlowGateModel") (T := T_D) (N := 42) h hL rfl (by decide) ob_30 (by decide) rfl (t' := 49) (i' := 0) rfl rfl (fun w hw => mc (in_D w hw)) (mc m_fl_D_70) rfl d_D_lookAt_51 ?_
      refine g_iload_n h d_D_lookAt_54 rfl rfl ?_
      refine g_aload_n h d_D_lookAt_55 rfl rfl ?_
      refine g_getR (t := 30) (i := 0) (k := 19) (C := "FlowGateModel") (T := T_D) (N := 42) h hL rfl (by decide) ob_30 (by decide) rfl (t' := 43) (i' := 0) rfl rfl (fun w hw => mc (in_D w hw)) (mc m_fl_D_51) rfl d_D_lookAt_56 ?_
      refine g_bipush (v := 12) h d_D_lookAt_59 (by decide) ?_
      refine g_iload_n h d_D_lookAt_61 rfl rfl ?_
      refine g_imul h d_D_lookAt_62 ?_
      refine g_iload_n h d_D_lookAt_63 rfl rfl ?_
      refine g_iadd h d_D_lookAt_64 ?_
      obtain ⟨hv90, hw⟩ := o_in hw
      refine g_iald (t := 43) (i := 0) h hL rfl (by decide) rfl rfl hv90 d_D_lookAt_65 ?_
      obtain ⟨hv91, hw⟩ := o_in hw
      refine g_iast (t := 49) (i := 0) h hL rfl (by decide) rfl rfl hv91 d_D_lookAt_66 ?_
      refine g_mem (fun M92 eM92 => ?_)
      have hw := o_l hw M92 eM92
      refine g_iinc (n' := 1) (lw := fun y => [(2, .int y), (0, .ref (za Z 30 0)), (1, .int v1)]) h d_D_lookAt_67 rfl (by decide) (by decide) (fun _ => rfl) (fun n93 en93 => ?_)
      have hw := o_l hw n93 en93
      refine g_goto (tgt := 44) h d_D_lookAt_70 (by decide) ?_
      refine g_sub [1, 2, 0] rfl ?_
      exact hK44 v1 n93 M92 hw
set_option maxHeartbeats 4000000 in
set_option maxRecDepth 100000 in
theorem ct_D_lookAt {Z : ZT} (hL : Lay Z sD) (v1 : Int32) (M : Mm)  {res : Mm} (hw : F_D_lookAt v1 M = some res) : CtV Z y_D_lookAt ws_D_lookAt (({ frames := 7, cells := 0, slots := 0, locals := 163 })) [.ref (za Z 30 0), .int v1] M res := by
  refine CtV.of hL (cc := c_D_lookAt) (maxL := 6) (by decide) rfl (Nat.le_of_ble_eq_true rfl) (fun X h hQ => ?_)
  show G Z X M 0 [(0, .ref (za Z 30 0)), (1, .int v1)] []
  rw [F_D_lookAt] at hw
  refine g_aload_n h d_D_lookAt_0 rfl rfl ?_
  refine g_dup h d_D_lookAt_1 rfl ?_
  refine g_getI (t := 30) (i := 0) (k := 36) (C := "FlowGateModel") (T := T_D) (N := 42) h hL rfl (by decide) ob_30 (by decide) rfl (fun w hw => mc (in_D w hw)) (mc m_fl_D_143) rfl d_D_lookAt_2 ?_
  refine g_iconst (v := 1) h d_D_lookAt_5 (by decide) ?_
  refine g_iadd h d_D_lookAt_6 ?_
  refine g_putI (t := 30) (i := 0) (k := 36) (C := "FlowGateModel") (T := T_D) (N := 42) h hL rfl (by decide) ob_30 (by decide) rfl (fun w hw => mc (in_D w hw)) ty_D ty_D_ok nm_D (mc m_fl_D_143) rfl rfl rfl d_D_lookAt_7 ?_
  refine g_mem (fun M94 eM94 => ?_)
  have hw := o_l hw M94 eM94
  refine g_aload_n h d_D_lookAt_10 rfl rfl ?_
  refine g_getR (t := 30) (i := 0) (k := 18) (C := "FlowGateModel") (T := T_D) (N := 42) h hL rfl (by decide) ob_30 (by decide) rfl (t' := 42) (i' := 0) rfl rfl (fun w hw => mc (in_D w hw)) (mc m_fl_D_48) rfl d_D_lookAt_11 ?_
  refine g_iload_n h d_D_lookAt_14 rfl rfl ?_
  refine g_iconst (v := 0) h d_D_lookAt_15 (by decide) ?_
  obtain ⟨hv95, hw⟩ := o_in hw
  refine g_zast (t := 42) (i := 0) h hL rfl (by decide) rfl rfl hv95 d_D_lookAt_16 ?_
  refine g_mem (fun M96 eM96 => ?_)
  have hw := o_l hw M96 eM96
  refine g_aload_n h d_D_lookAt_17 rfl rfl ?_
  refine g_iconst (v := 0) h d_D_lookAt_18 (by decide) ?_
  refine g_putI (t := 30) (i := 0) (k := 32) (C := "FlowGateModel") (T := T_D) (N := 42) h hL rfl (by decide) ob_30 (by decide) rfl (fun w hw => mc (in_D w hw)) ty_D ty_D_ok nm_D (mc m_fl_D_189) rfl rfl rfl d_D_lookAt_19 ?_
  refine g_mem (fun M97 eM97 => ?_)
  have hw := o_l hw M97 eM97
  refine g_aload_n h d_D_lookAt_22 rfl rfl ?_
  refine g_aload_n h d_D_lookAt_23 rfl rfl ?_
  refine g_getR (t := 30) (i := 0) (k := 21) (C := "FlowGateModel") (T := T_D) (N := 42) h hL rfl (by decide) ob_30 (by decide) rfl (t' := 45) (i' := 0) rfl rfl (fun w hw => mc (in_D w hw)) (mc m_fl_D_57) rfl d_D_lookAt_24 ?_
  refine g_iload_n h d_D_lookAt_27 rfl rfl ?_
  obtain ⟨hv98, hw⟩ := o_in hw
  refine g_iald (t := 45) (i := 0) h hL rfl (by decide) rfl rfl hv98 d_D_lookAt_28 ?_
  refine g_putI (t := 30) (i := 0) (k := 31) (C := "FlowGateModel") (T := T_D) (N := 42) h hL rfl (by decide) ob_30 (by decide) rfl (fun w hw => mc (in_D w hw)) ty_D ty_D_ok nm_D (mc m_fl_D_183) rfl rfl rfl d_D_lookAt_29 ?_
  refine g_mem (fun M99 eM99 => ?_)
  have hw := o_l hw M99 eM99
  refine g_aload_n h d_D_lookAt_32 rfl rfl ?_
  refine g_aload_n h d_D_lookAt_33 rfl rfl ?_
  refine g_getR (t := 30) (i := 0) (k := 23) (C := "FlowGateModel") (T := T_D) (N := 42) h hL rfl (by decide) ob_30 (by decide) rfl (t' := 47) (i' := 0) rfl rfl (fun w hw => mc (in_D w hw)) (mc m_fl_D_63) rfl d_D_lookAt_34 ?_
  refine g_iload_n h d_D_lookAt_37 rfl rfl ?_
  obtain ⟨hv100, hw⟩ := o_in hw
  refine g_lald (t := 47) (i := 0) h hL rfl (by decide) rfl rfl hv100 d_D_lookAt_38 ?_
  refine g_putL (t := 30) (i := 0) (k := 39) (C := "FlowGateModel") (T := T_D) (N := 42) h hL rfl (by decide) ob_30 (by decide) rfl (fun w hw => mc (in_D w hw)) ty_D ty_D_ok nm_D (mc m_fl_D_186) rfl rfl rfl d_D_lookAt_39 ?_
  refine g_mem (fun M101 eM101 => ?_)
  have hw := o_l hw M101 eM101
  refine g_iconst (v := 0) h d_D_lookAt_42 (by decide) ?_
  refine g_istore_n (lv' := [(2, .int 0), (0, .ref (za Z 30 0)), (1, .int v1)]) h d_D_lookAt_43 rfl (by decide) rfl ?_
  refine g_sub [1, 2, 0] rfl ?_
  exact w_D_lookAt_b44 hL h hQ  fuel v1 0 M101 hw
