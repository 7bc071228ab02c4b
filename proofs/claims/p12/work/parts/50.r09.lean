set_option maxHeartbeats 4000000 in
set_option maxRecDepth 100000 in
theorem w_D_objects_b132 {Z : ZT} {X : XT} (hL : Lay Z sD) (h : Ok Z X "FlowGateModel" c_D_objects ws_D_objects 7 ({ frames := 5, cells := 0, slots := 0, locals := 109 })) {res : Int32 × Mm} (hQ : FinI Z X .boolean res) {K102 : Int32 → Int32 → Mm → Option (Int32 × Mm)} (hK102 : ∀ (v1 : Int32) (v6 : Int32) (M : Mm), K102 v1 v6 M = some res → G Z X M 102 [(0, .ref (za Z 30 0)), (1, .int v1), (6, .int v6)] []) (v1 : Int32) (v6 : Int32) (M : Mm)  (hw : F_D_objects_b132 K102 v1 v6 M = some res) : G Z X M 132 [(0, .ref (za Z 30 0)), (1, .int v1), (6, .int v6)] [] := by
  rw [F_D_objects_b132] at hw
  refine g_iinc (n' := 1) (lw := fun y => [(6, .int y), (0, .ref (za Z 30 0)), (1, .int v1)]) h d_D_objects_132 rfl (by decide) (by decide) (fun _ => rfl) (fun n1 en1 => ?_)
  have hw := o_l hw n1 en1
  refine g_goto (tgt := 102) h d_D_objects_135 (by decide) ?_
  refine g_sub [1, 2, 0] rfl ?_
  exact hK102 v1 n1 M hw
set_option maxHeartbeats 4000000 in
set_option maxRecDepth 100000 in
theorem w_D_objects_b102 {Z : ZT} {X : XT} (hL : Lay Z sD) (h : Ok Z X "FlowGateModel" c_D_objects ws_D_objects 7 ({ frames := 5, cells := 0, slots := 0, locals := 109 })) {res : Int32 × Mm} (hQ : FinI Z X .boolean res)  : ∀ (n : Nat) (v1 : Int32) (v6 : Int32) (M : Mm), F_D_objects_b102  n v1 v6 M = some res → G Z X M 102 [(0, .ref (za Z 30 0)), (1, .int v1), (6, .int v6)] [] := by
  intro n
  induction n with
  | zero =>
    intro v1 v6 M hw
    cases hw
  | succ n hK102 =>
    intro v1 v6 M hw
    rw [F_D_objects_b102] at hw
    refine g_iload h d_D_objects_102 rfl ?_
    refine g_bipush (v := 12) h d_D_objects_104 (by decide) ?_
    refine g_icmp_ge (tgt := 138) h d_D_objects_106 (by decide) (fun c2 => ?_) (fun c2 => ?_)
    · have hw := o_t c2 hw
      refine g_aload_n h d_D_objects_138 rfl rfl ?_
      refine g_sipush (v := 1000) h d_D_objects_139 (by decide) ?_
      refine g_iload_n h d_D_objects_142 rfl rfl ?_
      refine g_iadd h d_D_objects_143 ?_
      obtain ⟨r5, M4, hc3, hw⟩ := o_b hw
      refine g_calli h (g_runV (rest := []) h (ct_D_put hL ((1000 : Int32) + v1) M hc3) (cwV 1 h.2.2.2.2.1 (g_V m_ml_D_227 m_im_D_put m_se_D_put m_in_D m_co_D_put) rfl rfl rfl (by decide +kernel) ⟨Nat.le_of_ble_eq_true rfl, Nat.le_of_ble_eq_true rfl⟩) (hL.recv h rfl (by decide) ob_30) rfl rfl (Nat.le_of_ble_eq_true rfl) d_D_objects_144) ?_
      obtain ⟨hn6, hw⟩ := o_nz hw
      exact g_zret h hQ d_D_objects_147 hn6 hw
    · have hw := o_f c2 hw
      refine g_aload_n h d_D_objects_109 rfl rfl ?_
      refine g_getR (t := 30) (i := 0) (k := 25) (C := "FlowGateModel") (T := T_D) (N := 42) h hL rfl (by decide) ob_30 (by decide) rfl (t' := 49) (i' := 0) rfl rfl (fun w hw => mc (in_D w hw)) (mc m_fl_D_70) rfl d_D_objects_110 ?_
      refine g_iload h d_D_objects_113 rfl ?_
      obtain ⟨hv7, hw⟩ := o_in hw
      refine g_iald (t := 49) (i := 0) h hL rfl (by decide) rfl rfl hv7 d_D_objects_115 ?_
      refine g_sipush (v := 1000) h d_D_objects_116 (by decide) ?_
      refine g_iload_n h d_D_objects_119 rfl rfl ?_
      refine g_iadd h d_D_objects_120 ?_
      refine g_icmp_ne (tgt := 132) h d_D_objects_121 (by decide) (fun c8 => ?_) (fun c8 => ?_)
      · have hw := o_f c8 hw
        refine g_sub [0, 1, 2] rfl ?_
        exact w_D_objects_b132 hL h hQ hK102 v1 v6 M hw
      · have hw := o_t c8 hw
        refine g_aload_n h d_D_objects_124 rfl rfl ?_
        refine g_getR (t := 30) (i := 0) (k := 25) (C := "FlowGateModel") (T := T_D) (N := 42) h hL rfl (by decide) ob_30 (by decide) rfl (t' := 49) (i' := 0) rfl rfl (fun w hw => mc (in_D w hw)) (mc m_fl_D_70) rfl d_D_objects_125 ?_
        refine g_iload h d_D_objects_128 rfl ?_
        refine g_iconst (v := 0) h d_D_objects_130 (by decide) ?_
        obtain ⟨hv9, hw⟩ := o_in hw
        refine g_iast (t := 49) (i := 0) h hL rfl (by decide) rfl rfl hv9 d_D_objects_131 ?_
        refine g_mem (fun M10 eM10 => ?_)
        have hw := o_l hw M10 eM10
        refine g_sub [0, 1, 2] rfl ?_
        exact w_D_objects_b132 hL h hQ hK102 v1 v6 M10 hw
set_option maxHeartbeats 4000000 in
set_option maxRecDepth 100000 in
theorem w_D_objects_b67 {Z : ZT} {X : XT} (hL : Lay Z sD) (h : Ok Z X "FlowGateModel" c_D_objects ws_D_objects 7 ({ frames := 5, cells := 0, slots := 0, locals := 109 })) {res : Int32 × Mm} (hQ : FinI Z X .boolean res)  : ∀ (n : Nat) (v1 : Int32) (v6 : Int32) (M : Mm), F_D_objects_b67  n v1 v6 M = some res → G Z X M 67 [(0, .ref (za Z 30 0)), (1, .int v1), (6, .int v6)] [] := by
  intro n
  induction n with
  | zero =>
    intro v1 v6 M hw
    cases hw
  | succ n hK67 =>
    intro v1 v6 M hw
    rw [F_D_objects_b67] at hw
    refine g_iload h d_D_objects_67 rfl ?_
    refine g_aload_n h d_D_objects_69 rfl rfl ?_
    refine g_getI (t := 30) (i := 0) (k := 31) (C := "FlowGateModel") (T := T_D) (N := 42) h hL rfl (by decide) ob_30 (by decide) rfl (fun w hw => mc (in_D w hw)) (mc m_fl_D_183) rfl d_D_objects_70 ?_
    refine g_icmp_ge (tgt := 99) h d_D_objects_73 (by decide) (fun c11 => ?_) (fun c11 => ?_)
    · have hw := o_t c11 hw
      refine g_iconst (v := 0) h d_D_objects_99 (by decide) ?_
      refine g_istore (lv' := [(6, .int 0), (0, .ref (za Z 30 0)), (1, .int v1)]) h d_D_objects_100 (by decide) rfl ?_
      refine g_sub [1, 2, 0] rfl ?_
      exact w_D_objects_b102 hL h hQ  fuel v1 0 M hw
    · have hw := o_f c11 hw
      refine g_aload_n h d_D_objects_76 rfl rfl ?_
      refine g_getR (t := 30) (i := 0) (k := 26) (C := "FlowGateModel") (T := T_D) (N := 42) h hL rfl (by decide) ob_30 (by decide) rfl (t' := 50) (i' := 0) rfl rfl (fun w hw => mc (in_D w hw)) (mc m_fl_D_73) rfl d_D_objects_77 ?_
      refine g_iload h d_D_objects_80 rfl ?_
      obtain ⟨hv12, hw⟩ := o_in hw
      refine g_iald (t := 50) (i := 0) h hL rfl (by decide) rfl rfl hv12 d_D_objects_82 ?_
      refine g_sipush (v := 1000) h d_D_objects_83 (by decide) ?_
      refine g_iload_n h d_D_objects_86 rfl rfl ?_
      refine g_iadd h d_D_objects_87 ?_
      refine g_icmp_ne (tgt := 93) h d_D_objects_88 (by decide) (fun c13 => ?_) (fun c13 => ?_)
      · have hw := o_f c13 hw
        refine g_iinc (n' := 1) (lw := fun y => [(6, .int y), (0, .ref (za Z 30 0)), (1, .int v1)]) h d_D_objects_93 rfl (by decide) (by decide) (fun _ => rfl) (fun n14 en14 => ?_)
        have hw := o_l hw n14 en14
        refine g_goto (tgt := 67) h d_D_objects_96 (by decide) ?_
        refine g_sub [1, 2, 0] rfl ?_
        exact hK67 v1 n14 M hw
      · have hw := o_t c13 hw
        refine g_iconst (v := 0) h d_D_objects_91 (by decide) ?_
        exact g_zret h hQ d_D_objects_92 rfl hw
set_option maxHeartbeats 4000000 in
set_option maxRecDepth 100000 in
theorem w_D_objects_b218 {Z : ZT} {X : XT} (hL : Lay Z sD) (h : Ok Z X "FlowGateModel" c_D_objects ws_D_objects 7 ({ frames := 5, cells := 0, slots := 0, locals := 109 })) {res : Int32 × Mm} (hQ : FinI Z X .boolean res) {K186 : Int32 → Int32 → Int32 → Mm → Option (Int32 × Mm)} (hK186 : ∀ (v3 : Int32) (v5 : Int32) (v6 : Int32) (M : Mm), K186 v3 v5 v6 M = some res → G Z X M 186 [(0, .ref (za Z 30 0)), (3, .int v3), (5, .int v5), (6, .int v6)] []) (v3 : Int32) (v5 : Int32) (v6 : Int32) (M : Mm)  (hw : F_D_objects_b218 K186 v3 v5 v6 M = some res) : G Z X M 218 [(0, .ref (za Z 30 0)), (3, .int v3), (5, .int v5), (6, .int v6)] [] := by
  rw [F_D_objects_b218] at hw
  refine g_iinc (n' := 1) (lw := fun y => [(6, .int y), (0, .ref (za Z 30 0)), (3, .int v3), (5, .int v5)]) h d_D_objects_218 rfl (by decide) (by decide) (fun _ => rfl) (fun n15 en15 => ?_)
  have hw := o_l hw n15 en15
  refine g_goto (tgt := 186) h d_D_objects_221 (by decide) ?_
  refine g_sub [1, 2, 3, 0] rfl ?_
  exact hK186 v3 v5 n15 M hw
set_option maxHeartbeats 4000000 in
set_option maxRecDepth 100000 in
theorem w_D_objects_b257 {Z : ZT} {X : XT} (hL : Lay Z sD) (h : Ok Z X "FlowGateModel" c_D_objects ws_D_objects 7 ({ frames := 5, cells := 0, slots := 0, locals := 109 })) {res : Int32 × Mm} (hQ : FinI Z X .boolean res) {K227 : Int32 → Int32 → Int32 → Mm → Option (Int32 × Mm)} (hK227 : ∀ (v3 : Int32) (v5 : Int32) (v6 : Int32) (M : Mm), K227 v3 v5 v6 M = some res → G Z X M 227 [(0, .ref (za Z 30 0)), (3, .int v3), (5, .int v5), (6, .int v6)] []) (v3 : Int32) (v5 : Int32) (v6 : Int32) (M : Mm)  (hw : F_D_objects_b257 K227 v3 v5 v6 M = some res) : G Z X M 257 [(0, .ref (za Z 30 0)), (3, .int v3), (5, .int v5), (6, .int v6)] [] := by
  rw [F_D_objects_b257] at hw
  refine g_iinc (n' := 1) (lw := fun y => [(6, .int y), (0, .ref (za Z 30 0)), (3, .int v3), (5, .int v5)]) h d_D_objects_257 rfl (by decide) (by decide) (fun _ => rfl) (fun n16 en16 => ?_)
  have hw := o_l hw n16 en16
  refine g_goto (tgt := 227) h d_D_objects_260 (by decide) ?_
  refine g_sub [1, 2, 3, 0] rfl ?_
  exact hK227 v3 v5 n16 M hw
set_option maxHeartbeats 4000000 in
set_option maxRecDepth 100000 in
theorem w_D_objects_b227 {Z : ZT} {X : XT} (hL : Lay Z sD) (h : Ok Z X "FlowGateModel" c_D_objects ws_D_objects 7 ({ frames := 5, cells := 0, slots := 0, locals := 109 })) {res : Int32 × Mm} (hQ : FinI Z X .boolean res)  : ∀ (n : Nat) (v3 : Int32) (v5 : Int32) (v6 : Int32) (M : Mm), F_D_objects_b227  n v3 v5 v6 M = some res → G Z X M 227 [(0, .ref (za Z 30 0)), (3, .int v3), (5, .int v5), (6, .int v6)] [] := by
  intro n
  induction n with
  | zero =>
    intro v3 v5 v6 M hw
    cases hw
  | succ n hK227 =>
    intro v3 v5 v6 M hw
    rw [F_D_objects_b227] at hw
    refine g_iload h d_D_objects_227 rfl ?_
    refine g_bipush (v := 12) h d_D_objects_229 (by decide) ?_
    refine g_icmp_ge (tgt := 263) h d_D_objects_231 (by decide) (fun c17 => ?_) (fun c17 => ?_)
    · have hw := o_t c17 hw
      refine g_iconst (v := 1) h d_D_objects_263 (by decide) ?_
      exact g_zret h hQ d_D_objects_264 rfl hw
    · have hw := o_f c17 hw
      refine g_aload_n h d_D_objects_234 rfl rfl ?_
      refine g_getR (t := 30) (i := 0) (k := 25) (C := "FlowGateModel") (T := T_D) (N := 42) h hL rfl (by decide) ob_30 (by decide) rfl (t' := 49) (i' := 0) rfl rfl (fun w hw => mc (in_D w hw)) (mc m_fl_D_70) rfl d_D_objects_235 ?_
      refine g_iload h d_D_objects_238 rfl ?_
      obtain ⟨hv18, hw⟩ := o_in hw
      refine g_iald (t := 49) (i := 0) h hL rfl (by decide) rfl rfl hv18 d_D_objects_240 ?_
      refine g_iload h d_D_objects_241 rfl ?_
      refine g_icmp_ne (tgt := 257) h d_D_objects_243 (by decide) (fun c19 => ?_) (fun c19 => ?_)
      · have hw := o_f c19 hw
        refine g_sub [0, 1, 2, 3] rfl ?_
        exact w_D_objects_b257 hL h hQ hK227 v3 v5 v6 M hw
      · have hw := o_t c19 hw
        refine g_aload_n h d_D_objects_246 rfl rfl ?_
        refine g_getR (t := 30) (i := 0) (k := 25) (C := "FlowGateModel") (T := T_D) (N := 42) h hL rfl (by decide) ob_30 (by decide) rfl (t' := 49) (i' := 0) rfl rfl (fun w hw => mc (in_D w hw)) (mc m_fl_D_70) rfl d_D_objects_247 ?_
        refine g_iload h d_D_objects_250 rfl ?_
        refine g_bipush (v := 16) h d_D_objects_252 (by decide) ?_
        refine g_iload_n h d_D_objects_254 rfl rfl ?_
        refine g_iadd h d_D_objects_255 ?_
        obtain ⟨hv20, hw⟩ := o_in hw
        refine g_iast (t := 49) (i := 0) h hL rfl (by decide) rfl rfl hv20 d_D_objects_256 ?_
        refine g_mem (fun M21 eM21 => ?_)
        have hw := o_l hw M21 eM21
        refine g_sub [0, 1, 2, 3] rfl ?_
        exact w_D_objects_b257 hL h hQ hK227 v3 v5 v6 M21 hw
set_option maxHeartbeats 4000000 in
set_option maxRecDepth 100000 in
theorem w_D_objects_b186 {Z : ZT} {X : XT} (hL : Lay Z sD) (h : Ok Z X "FlowGateModel" c_D_objects ws_D_objects 7 ({ frames := 5, cells := 0, slots := 0, locals := 109 })) {res : Int32 × Mm} (hQ : FinI Z X .boolean res)  : ∀ (n : Nat) (v3 : Int32) (v5 : Int32) (v6 : Int32) (M : Mm), F_D_objects_b186  n v3 v5 v6 M = some res → G Z X M 186 [(0, .ref (za Z 30 0)), (3, .int v3), (5, .int v5), (6, .int v6)] [] := by
  intro n
  induction n with
  | zero =>
    intro v3 v5 v6 M hw
    cases hw
  | succ n hK186 =>
    intro v3 v5 v6 M hw
    rw [F_D_objects_b186] at hw
    refine g_iload h d_D_objects_186 rfl ?_
    refine g_aload_n h d_D_objects_188 rfl rfl ?_
    refine g_getI (t := 30) (i := 0) (k := 31) (C := "FlowGateModel") (T := T_D) (N := 42) h hL rfl (by decide) ob_30 (by decide) rfl (fun w hw => mc (in_D w hw)) (mc m_fl_D_183) rfl d_D_objects_189 ?_
    refine g_icmp_ge (tgt := 224) h d_D_objects_192 (by decide) (fun c22 => ?_) (fun c22 => ?_)
    · have hw := o_t c22 hw
      refine g_iconst (v := 0) h d_D_objects_224 (by decide) ?_
      refine g_istore (lv' := [(6, .int 0), (0, .ref (za Z 30 0)), (3, .int v3), (5, .int v5)]) h d_D_objects_225 (by decide) rfl ?_
      refine g_sub [1, 2, 3, 0] rfl ?_
      exact w_D_objects_b227 hL h hQ  fuel v3 v5 0 M hw
    · have hw := o_f c22 hw
      refine g_aload_n h d_D_objects_195 rfl rfl ?_
      refine g_getR (t := 30) (i := 0) (k := 26) (C := "FlowGateModel") (T := T_D) (N := 42) h hL rfl (by decide) ob_30 (by decide) rfl (t' := 50) (i' := 0) rfl rfl (fun w hw => mc (in_D w hw)) (mc m_fl_D_73) rfl d_D_objects_196 ?_
      refine g_iload h d_D_objects_199 rfl ?_
      obtain ⟨hv23, hw⟩ := o_in hw
      refine g_iald (t := 50) (i := 0) h hL rfl (by decide) rfl rfl hv23 d_D_objects_201 ?_
      refine g_iload h d_D_objects_202 rfl ?_
      refine g_icmp_ne (tgt := 218) h d_D_objects_204 (by decide) (fun c24 => ?_) (fun c24 => ?_)
      · have hw := o_f c24 hw
        refine g_sub [0, 1, 2, 3] rfl ?_
        exact w_D_objects_b218 hL h hQ hK186 v3 v5 v6 M hw
      · have hw := o_t c24 hw
        refine g_aload_n h d_D_objects_207 rfl rfl ?_
        refine g_getR (t := 30) (i := 0) (k := 26) (C := "FlowGateModel") (T := T_D) (N := 42) h hL rfl (by decide) ob_30 (by decide) rfl (t' := 50) (i' := 0) rfl rfl (fun w hw => mc (in_D w hw)) (mc m_fl_D_73) rfl d_D_objects_208 ?_
        refine g_iload h d_D_objects_211 rfl ?_
        refine g_bipush (v := 16) h d_D_objects_213 (by decide) ?_
        refine g_iload_n h d_D_objects_215 rfl rfl ?_
        refine g_iadd h d_D_objects_216 ?_
        obtain ⟨hv25, hw⟩ := o_in hw
        refine g_iast (t := 50) (i := 0) h hL rfl (by decide) rfl rfl hv25 d_D_objects_217 ?_
        refine g_mem (fun M26 eM26 => ?_)
        have hw := o_l hw M26 eM26
        refine g_sub [0, 1, 2, 3] rfl ?_
        exact w_D_objects_b218 hL h hQ hK186 v3 v5 v6 M26 hw
set_option maxHeartbeats 4000000 in
set_option maxRecDepth 100000 in
theorem w_D_objects_b417 {Z : ZT} {X : XT} (hL : Lay Z sD) (h : Ok Z X "FlowGateModel" c_D_objects ws_D_objects 7 ({ frames := 5, cells := 0, slots := 0, locals := 109 })) {res : Int32 × Mm} (hQ : FinI Z X .boolean res)  (s1 : Int32) (M : Mm)  (hw : F_D_objects_b417 s1 M = some res) : G Z X M 417 [] [.int s1, .ref (za Z 30 0)] := by
  rw [F_D_objects_b417] at hw
  obtain ⟨r29, M28, hc27, hw⟩ := o_b hw
  refine g_calli h (g_runV (rest := []) h (ct_D_put hL s1 M hc27) (cwV 1 h.2.2.2.2.1 (g_V m_ml_D_227 m_im_D_put m_se_D_put m_in_D m_co_D_put) rfl rfl rfl (by decide +kernel) ⟨Nat.le_of_ble_eq_true rfl, Nat.le_of_ble_eq_true rfl⟩) (hL.recv h rfl (by decide) ob_30) rfl rfl (Nat.le_of_ble_eq_true rfl) d_D_objects_417) ?_
  refine g_if_eq (tgt := 427) h d_D_objects_420 (by decide) (fun c30 => ?_) (fun c30 => ?_)
  · have hw := o_t c30 hw
    refine g_iconst (v := 0) h d_D_objects_427 (by decide) ?_
    exact g_zret h hQ d_D_objects_428 rfl hw
  · have hw := o_f c30 hw
    refine g_iconst (v := 1) h d_D_objects_423 (by decide) ?_
    refine g_goto (tgt := 428) h d_D_objects_424 (by decide) ?_
    exact g_zret h hQ d_D_objects_428 rfl hw
set_option maxHeartbeats 4000000 in
set_option maxRecDepth 100000 in
theorem w_D_objects_b444 {Z : ZT} {X : XT} (hL : Lay Z sD) (h : Ok Z X "FlowGateModel" c_D_objects ws_D_objects 7 ({ frames := 5, cells := 0, slots := 0, locals := 109 })) {res : Int32 × Mm} (hQ : FinI Z X .boolean res)  (v3 : Int32) (s1 : Int32) (M : Mm)  (hw : F_D_objects_b444 v3 s1 M = some res) : G Z X M 444 [(0, .ref (za Z 30 0)), (3, .int v3)] [.int s1, .ref (za Z 30 0)] := by
  rw [F_D_objects_b444] at hw
  obtain ⟨r33, M32, hc31, hw⟩ := o_b hw
  refine g_calli h (g_runV (rest := []) h (ct_D_takesFor hL s1 M hc31) (cwV 1 h.2.2.2.2.1 (g_V m_ml_D_240 m_im_D_takesFor m_se_D_takesFor m_in_D m_co_D_takesFor) rfl rfl rfl (by decide +kernel) ⟨Nat.le_of_ble_eq_true rfl, Nat.le_of_ble_eq_true rfl⟩) (hL.recv h rfl (by decide) ob_30) rfl rfl (Nat.le_of_ble_eq_true rfl) d_D_objects_444) ?_
  refine g_if_eq (tgt := 470) h d_D_objects_447 (by decide) (fun c34 => ?_) (fun c34 => ?_)
  · have hw := o_t c34 hw
    refine g_iconst (v := 0) h d_D_objects_470 (by decide) ?_
    exact g_zret h hQ d_D_objects_471 rfl hw
  · have hw := o_f c34 hw
    refine g_aload_n h d_D_objects_450 rfl rfl ?_
    refine g_iconst (v := 1) h d_D_objects_451 (by decide) ?_
    obtain ⟨r37, M36, hc35, hw⟩ := o_b hw
    refine g_calli h (g_runV (rest := []) h (ct_D_takes hL 1 M32 hc35) (cwV 1 h.2.2.2.2.1 (g_V m_ml_D_224 m_im_D_takes m_se_D_takes m_in_D m_co_D_takes) rfl rfl rfl (by decide +kernel) ⟨Nat.le_of_ble_eq_true rfl, Nat.le_of_ble_eq_true rfl⟩) (hL.recv h rfl (by decide) ob_30) rfl rfl (Nat.le_of_ble_eq_true rfl) d_D_objects_452) ?_
    refine g_if_eq (tgt := 470) h d_D_objects_455 (by decide) (fun c38 => ?_) (fun c38 => ?_)
    · have hw := o_t c38 hw
      refine g_iconst (v := 0) h d_D_objects_470 (by decide) ?_
      exact g_zret h hQ d_D_objects_471 rfl hw
    · have hw := o_f c38 hw
      refine g_aload_n h d_D_objects_458 rfl rfl ?_
      refine g_iload_n h d_D_objects_459 rfl rfl ?_
      obtain ⟨r41, M40, hc39, hw⟩ := o_b hw
      refine g_calli h (g_runV (rest := []) h (ct_D_takesRow hL v3 M36 hc39) (cwV 1 h.2.2.2.2.1 (g_V m_ml_D_243 m_im_D_takesRow m_se_D_takesRow m_in_D m_co_D_takesRow) rfl rfl rfl (by decide +kernel) ⟨Nat.le_of_ble_eq_true rfl, Nat.le_of_ble_eq_true rfl⟩) (hL.recv h rfl (by decide) ob_30) rfl rfl (Nat.le_of_ble_eq_true rfl) d_D_objects_460) ?_
      refine g_if_eq (tgt := 470) h d_D_objects_463 (by decide) (fun c42 => ?_) (fun c42 => ?_)
      · have hw := o_t c42 hw
        refine g_iconst (v := 0) h d_D_objects_470 (by decide) ?_
        exact g_zret h hQ d_D_objects_471 rfl hw
      · have hw := o_f c42 hw
        refine g_iconst (v := 1) h d_D_objects_466 (by decide) ?_
        refine g_goto (tgt := 471) h d_D_objects_467 (by decide) ?_
        exact g_zret h hQ d_D_objects_471 rfl hw
set_option maxHeartbeats 4000000 in
set_option maxRecDepth 100000 in
theorem w_D_objects_b496 {Z : ZT} {X : XT} (hL : Lay Z sD) (h : Ok Z X "FlowGateModel" c_D_objects ws_D_objects 7 ({ frames := 5, cells := 0, slots := 0, locals := 109 })) {res : Int32 × Mm} (hQ : FinI Z X .boolean res)   (M : Mm)  (hw : F_D_objects_b496 M = some res) : G Z X M 496 [(0, .ref (za Z 30 0))] [] := by
  rw [F_D_objects_b496] at hw
  refine g_aload_n h d_D_objects_496 rfl rfl ?_
  obtain ⟨M44, hc43, hw⟩ := o_v hw
  refine g_callv h (g_runV (rest := []) h (ct_D_drop hL M hc43) (cwV 0 h.2.2.2.2.1 (g_V m_ml_D_218 m_im_D_drop m_se_D_drop m_in_D m_co_D_drop) rfl rfl rfl (by decide +kernel) ⟨Nat.le_of_ble_eq_true rfl, Nat.le_of_ble_eq_true rfl⟩) (hL.recv h rfl (by decide) ob_30) rfl rfl (Nat.le_of_ble_eq_true rfl) d_D_objects_497) ?_
  refine g_aload_n h d_D_objects_500 rfl rfl ?_
  refine g_iconst (v := 1) h d_D_objects_501 (by decide) ?_
  obtain ⟨r47, M46, hc45, hw⟩ := o_b hw
  refine g_calli h (g_runV (rest := []) h (ct_D_put hL 1 M44 hc45) (cwV 1 h.2.2.2.2.1 (g_V m_ml_D_227 m_im_D_put m_se_D_put m_in_D m_co_D_put) rfl rfl rfl (by decide +kernel) ⟨Nat.le_of_ble_eq_true rfl, Nat.le_of_ble_eq_true rfl⟩) (hL.recv h rfl (by decide) ob_30) rfl rfl (Nat.le_of_ble_eq_true rfl) d_D_objects_502) ?_
  obtain ⟨hn48, hw⟩ := o_nz hw
  exact g_zret h hQ d_D_objects_505 hn48 hw
set_option maxHeartbeats 4000000 in
set_option maxRecDepth 100000 in
theorem ct_D_objects {Z : ZT} (hL : Lay Z sD) (v1 : Int32) (v2 : Int32) (v3 : Int32) (v4 : Int32) (M : Mm)  {res : Int32 × Mm} (hw : F_D_objects v1 v2 v3 v4 M = some res) : CtI Z y_D_objects ws_D_objects (({ frames := 5, cells := 0, slots := 0, locals := 109 })) [.ref (za Z 30 0), .int v1, .int v2, .int v3, .int v4] M res := by
  refine CtI.of hL (cc := c_D_objects) (maxL := 7) (by decide) rfl (Nat.le_of_ble_eq_true rfl) (fun X h hQ => ?_)
  show G Z X M 0 [(0, .ref (za Z 30 0)), (1, .int v1), (2, .int v2), (3, .int v3), (4, .int v4)] []
  rw [F_D_objects] at hw
  refine g_aload_n h d_D_objects_0 rfl rfl ?_
  refine g_iconst (v := 0) h d_D_objects_1 (by decide) ?_
  obtain ⟨r51, M50, hc49, hw⟩ := o_b hw
  refine g_calli h (g_runV (rest := []) h (ct_D_top hL 0 M hc49) (cwV 1 h.2.2.2.2.1 (g_V m_ml_D_214 m_im_D_top m_se_D_top m_in_D m_co_D_top) rfl rfl rfl (by decide +kernel) ⟨Nat.le_of_ble_eq_true rfl, Nat.le_of_ble_eq_true rfl⟩) (hL.recv h rfl (by decide) ob_30) rfl rfl (Nat.le_of_ble_eq_true rfl) d_D_objects_2) ?_
  refine g_istore (lv' := [(5, .int r51), (0, .ref (za Z 30 0)), (1, .int v1), (2, .int v2), (3, .int v3), (4, .int v4)]) h d_D_objects_5 (by decide) rfl ?_
  refine g_iload_n h d_D_objects_7 rfl rfl ?_
  rcases Classical.em (v2 = 20) with c118_0 | c118_0
  · refine g_tabIn (tgt := 64) h d_D_objects_8 (by rw [c118_0]; decide) (by rw [c118_0]; decide) (by rw [c118_0]; rfl) (by decide) ?_
    have hw := o_t c118_0 hw
    refine g_iconst (v := 0) h d_D_objects_64 (by decide) ?_
    refine g_istore (lv' := [(6, .int 0), (5, .int r51), (0, .ref (za Z 30 0)), (1, .int v1), (2, .int v2), (3, .int v3), (4, .int v4)]) h d_D_objects_65 (by decide) rfl ?_
    refine g_sub [2, 3, 0] rfl ?_
    exact w_D_objects_b67 hL h hQ  fuel v1 0 M50 hw
  have hw := o_f c118_0 hw
  rcases Classical.em (v2 = 21) with c118_1 | c118_1
  · refine g_tabIn (tgt := 148) h d_D_objects_8 (by rw [c118_1]; decide) (by rw [c118_1]; decide) (by rw [c118_1]; rfl) (by decide) ?_
    have hw := o_t c118_1 hw
    refine g_iload h d_D_objects_148 rfl ?_
    refine g_sipush (v := 1000) h d_D_objects_150 (by decide) ?_
    refine g_sipush (v := 1047) h d_D_objects_153 (by decide) ?_
    refine g_calli h (g_runS (rest := []) h (ct_D_in hL r51 1000 1047 M50 (p_D_in r51 1000 1047 M50)) (cwS 3 h.2.2.2.2.1 (g_S m_ml_D_91 m_st_D_in m_in_D m_co_D_in) rfl rfl rfl (by decide +kernel) ⟨Nat.le_of_ble_eq_true rfl, Nat.le_of_ble_eq_true rfl⟩) rfl rfl (Nat.le_of_ble_eq_true rfl) d_D_objects_156) ?_
    refine g_topi (fun r57 er57 => ?_)
    have hw := o_l hw r57 er57
    refine g_if_eq (tgt := 177) h d_D_objects_159 (by decide) (fun c58 => ?_) (fun c58 => ?_)
    · have hw := o_t c58 hw
      refine g_iconst (v := 0) h d_D_objects_177 (by decide) ?_
      exact g_zret h hQ d_D_objects_178 rfl hw
    · have hw := o_f c58 hw
      refine g_aload_n h d_D_objects_162 rfl rfl ?_
      refine g_getR (t := 30) (i := 0) (k := 4) (C := "FlowGateModel") (T := T_D) (N := 42) h hL rfl (by decide) ob_30 (by decide) rfl (t' := 34) (i' := 0) rfl rfl (fun w hw => mc (in_D w hw)) (mc m_fl_D_24) rfl d_D_objects_163 ?_
      refine g_iload h d_D_objects_166 rfl ?_
      refine g_sipush (v := 1000) h d_D_objects_168 (by decide) ?_
      refine g_isub h d_D_objects_171 ?_
      obtain ⟨hv59, hw⟩ := o_in hw
      refine g_iald (t := 34) (i := 0) h hL rfl (by decide) rfl rfl hv59 d_D_objects_172 ?_
      refine g_iload_n h d_D_objects_173 rfl rfl ?_
      refine g_icmp_eq (tgt := 179) h d_D_objects_174 (by decide) (fun c60 => ?_) (fun c60 => ?_)
      · have hw := o_t c60 hw
        refine g_aload_n h d_D_objects_179 rfl rfl ?_
        obtain ⟨M62, hc61, hw⟩ := o_v hw
        refine g_callv h (g_runV (rest := []) h (ct_D_drop hL M50 hc61) (cwV 0 h.2.2.2.2.1 (g_V m_ml_D_218 m_im_D_drop m_se_D_drop m_in_D m_co_D_drop) rfl rfl rfl (by decide +kernel) ⟨Nat.le_of_ble_eq_true rfl, Nat.le_of_ble_eq_true rfl⟩) (hL.recv h rfl (by decide) ob_30) rfl rfl (Nat.le_of_ble_eq_true rfl) d_D_objects_180) ?_
        refine g_iconst (v := 0) h d_D_objects_183 (by decide) ?_
        refine g_istore (lv' := [(6, .int 0), (5, .int r51), (0, .ref (za Z 30 0)), (1, .int v1), (2, .int v2), (3, .int v3), (4, .int v4)]) h d_D_objects_184 (by decide) rfl ?_
        refine g_sub [2, 5, 1, 0] rfl ?_
        exact w_D_objects_b186 hL h hQ  fuel v3 r51 0 M62 hw
      · have hw := o_f c60 hw
        refine g_iconst (v := 0) h d_D_objects_177 (by decide) ?_
        exact g_zret h hQ d_D_objects_178 rfl hw
  have hw := o_f c118_1 hw
  rcases Classical.em (v2 = 22) with c118_2 | c118_2
  · refine g_tabIn (tgt := 265) h d_D_objects_8 (by rw [c118_2]; decide) (by rw [c118_2]; decide) (by rw [c118_2]; rfl) (by decide) ?_
    have hw := o_t c118_2 hw
    refine g_aload_n h d_D_objects_265 rfl rfl ?_
    refine g_bipush (v := 16) h d_D_objects_266 (by decide) ?_
    refine g_iload_n h d_D_objects_268 rfl rfl ?_
    refine g_iadd h d_D_objects_269 ?_
    obtain ⟨r65, M64, hc63, hw⟩ := o_b hw
    refine g_calli h (g_runV (rest := []) h (ct_D_takesFor hL ((16 : Int32) + v3) M50 hc63) (cwV 1 h.2.2.2.2.1 (g_V m_ml_D_240 m_im_D_takesFor m_se_D_takesFor m_in_D m_co_D_takesFor) rfl rfl rfl (by decide +kernel) ⟨Nat.le_of_ble_eq_true rfl, Nat.le_of_ble_eq_true rfl⟩) (hL.recv h rfl (by decide) ob_30) rfl rfl (Nat.le_of_ble_eq_true rfl) d_D_objects_270) ?_
    refine g_if_eq (tgt := 289) h d_D_objects_273 (by decide) (fun c66 => ?_) (fun c66 => ?_)
    · have hw := o_t c66 hw
      refine g_iconst (v := 0) h d_D_objects_289 (by decide) ?_
      exact g_zret h hQ d_D_objects_290 rfl hw
    · have hw := o_f c66 hw
      refine g_aload_n h d_D_objects_276 rfl rfl ?_
      refine g_iload h d_D_objects_277 rfl ?_
      obtain ⟨r69, M68, hc67, hw⟩ := o_b hw
      refine g_calli h (g_runV (rest := []) h (ct_D_put hL v4 M64 hc67) (cwV 1 h.2.2.2.2.1 (g_V m_ml_D_227 m_im_D_put m_se_D_put m_in_D m_co_D_put) rfl rfl rfl (by decide +kernel) ⟨Nat.le_of_ble_eq_true rfl, Nat.le_of_ble_eq_true rfl⟩) (hL.recv h rfl (by decide) ob_30) rfl rfl (Nat.le_of_ble_eq_true rfl) d_D_objects_279) ?_
      refine g_if_eq (tgt := 289) h d_D_objects_282 (by decide) (fun c70 => ?_) (fun c70 => ?_)
      · have hw := o_t c70 hw
        refine g_iconst (v := 0) h d_D_objects_289 (by decide) ?_
        exact g_zret h hQ d_D_objects_290 rfl hw
      · have hw := o_f c70 hw
        refine g_iconst (v := 1) h d_D_objects_285 (by decide) ?_
        refine g_goto (tgt := 290) h d_D_objects_286 (by decide) ?_
        exact g_zret h hQ d_D_objects_290 rfl hw
  have hw := o_f c118_2 hw
  rcases Classical.em (v2 = 23) with c118_3 | c118_3
  · refine g_tabIn (tgt := 291) h d_D_objects_8 (by rw [c118_3]; decide) (by rw [c118_3]; decide) (by rw [c118_3]; rfl) (by decide) ?_
    have hw := o_t c118_3 hw
    refine g_aload_n h d_D_objects_291 rfl rfl ?_
    refine g_iload h d_D_objects_292 rfl ?_
    obtain ⟨r73, M72, hc71, hw⟩ := o_b hw
    refine g_calli h (g_runV (rest := []) h (ct_D_takesFor hL v4 M50 hc71) (cwV 1 h.2.2.2.2.1 (g_V m_ml_D_240 m_im_D_takesFor m_se_D_takesFor m_in_D m_co_D_takesFor) rfl rfl rfl (by decide +kernel) ⟨Nat.le_of_ble_eq_true rfl, Nat.le_of_ble_eq_true rfl⟩) (hL.recv h rfl (by decide) ob_30) rfl rfl (Nat.le_of_ble_eq_true rfl) d_D_objects_294) ?_
    refine g_if_eq (tgt := 315) h d_D_objects_297 (by decide) (fun c74 => ?_) (fun c74 => ?_)
    · have hw := o_t c74 hw
      refine g_iconst (v := 0) h d_D_objects_315 (by decide) ?_
      exact g_zret h hQ d_D_objects_316 rfl hw
    · have hw := o_f c74 hw
      refine g_aload_n h d_D_objects_300 rfl rfl ?_
      refine g_bipush (v := 16) h d_D_objects_301 (by decide) ?_
      refine g_iload_n h d_D_objects_303 rfl rfl ?_
      refine g_iadd h d_D_objects_304 ?_
      obtain ⟨r77, M76, hc75, hw⟩ := o_b hw
      refine g_calli h (g_runV (rest := []) h (ct_D_takesFor hL ((16 : Int32) + v3) M72 hc75) (cwV 1 h.2.2.2.2.1 (g_V m_ml_D_240 m_im_D_takesFor m_se_D_takesFor m_in_D m_co_D_takesFor) rfl rfl rfl (by decide +kernel) ⟨Nat.le_of_ble_eq_true rfl, Nat.le_of_ble_eq_true rfl⟩) (hL.recv h rfl (by decide) ob_30) rfl rfl (Nat.le_of_ble_eq_true rfl) d_D_objects_305) ?_
      refine g_if_eq (tgt := 315) h d_D_objects_308 (by decide) (fun c78 => ?_) (fun c78 => ?_)
      · have hw := o_t c78 hw
        refine g_iconst (v := 0) h d_D_objects_315 (by decide) ?_
        exact g_zret h hQ d_D_objects_316 rfl hw
      · have hw := o_f c78 hw
        refine g_iconst (v := 1) h d_D_objects_311 (by decide) ?_
        refine g_goto (tgt := 316) h d_D_objects_312 (by decide) ?_
        exact g_zret h hQ d_D_objects_316 rfl hw
  have hw := o_f c118_3 hw
  rcases Classical.em (v2 = 24) with c118_4 | c118_4
  · refine g_tabIn (tgt := 317) h d_D_objects_8 (by rw [c118_4]; decide) (by rw [c118_4]; decide) (by rw [c118_4]; rfl) (by decide) ?_
    have hw := o_t c118_4 hw
    refine g_aload_n h d_D_objects_317 rfl rfl ?_
    refine g_iload_n h d_D_objects_318 rfl rfl ?_
    obtain ⟨r81, M80, hc79, hw⟩ := o_b hw
    refine g_calli h (g_runV (rest := []) h (ct_D_takesFor hL v3 M50 hc79) (cwV 1 h.2.2.2.2.1 (g_V m_ml_D_240 m_im_D_takesFor m_se_D_takesFor m_in_D m_co_D_takesFor) rfl rfl rfl (by decide +kernel) ⟨Nat.le_of_ble_eq_true rfl, Nat.le_of_ble_eq_true rfl⟩) (hL.recv h rfl (by decide) ob_30) rfl rfl (Nat.le_of_ble_eq_true rfl) d_D_objects_319) ?_
    refine g_if_eq (tgt := 338) h d_D_objects_322 (by decide) (fun c82 => ?_) (fun c82 => ?_)
    · have hw := o_t c82 hw
      refine g_iconst (v := 0) h d_D_objects_338 (by decide) ?_
      exact g_zret h hQ d_D_objects_339 rfl hw
    · have hw := o_f c82 hw
      refine g_aload_n h d_D_objects_325 rfl rfl ?_
      refine g_iload h d_D_objects_326 rfl ?_
      obtain ⟨r85, M84, hc83, hw⟩ := o_b hw
      refine g_calli h (g_runV (rest := []) h (ct_D_put hL v4 M80 hc83) (cwV 1 h.2.2.2.2.1 (g_V m_ml_D_227 m_im_D_put m_se_D_put m_in_D m_co_D_put) rfl rfl rfl (by decide +kernel) ⟨Nat.le_of_ble_eq_true rfl, Nat.le_of_ble_eq_true rfl⟩) (hL.recv h rfl (by decide) ob_30) rfl rfl (Nat.le_of_ble_eq_true rfl) d_D_objects_328) ?_
      refine g_if_eq (tgt := 338) h d_D_objects_331 (by decide) (fun c86 => ?_) (fun c86 => ?_)
      · have hw := o_t c86 hw
        refine g_iconst (v := 0) h d_D_objects_338 (by decide) ?_
        exact g_zret h hQ d_D_objects_339 rfl hw
      · have hw := o_f c86 hw
        refine g_iconst (v := 1) h d_D_objects_334 (by decide) ?_
        refine g_goto (tgt := 339) h d_D_objects_335 (by decide) ?_
        exact g_zret h hQ d_D_objects_339 rfl hw
  have hw := o_f c118_4 hw
  rcases Classical.em (v2 = 25) with c118_5 | c118_5
  · refine g_tabIn (tgt := 340) h d_D_objects_8 (by rw [c118_5]; decide) (by rw [c118_5]; decide) (by rw [c118_5]; rfl) (by decide) ?_
    have hw := o_t c118_5 hw
    refine g_aload_n h d_D_objects_340 rfl rfl ?_
    obtain ⟨r89, M88, hc87, hw⟩ := o_b hw
    refine g_calli h (g_runV (rest := []) h (ct_D_takesRef hL M50 hc87) (cwV 0 h.2.2.2.2.1 (g_V m_ml_D_236 m_im_D_takesRef m_se_D_takesRef m_in_D m_co_D_takesRef) rfl rfl rfl (by decide +kernel) ⟨Nat.le_of_ble_eq_true rfl, Nat.le_of_ble_eq_true rfl⟩) (hL.recv h rfl (by decide) ob_30) rfl rfl (Nat.le_of_ble_eq_true rfl) d_D_objects_341) ?_
    refine g_if_eq (tgt := 359) h d_D_objects_344 (by decide) (fun c90 => ?_) (fun c90 => ?_)
    · have hw := o_t c90 hw
      refine g_iconst (v := 0) h d_D_objects_359 (by decide) ?_
      exact g_zret h hQ d_D_objects_360 rfl hw
    · have hw := o_f c90 hw
      refine g_aload_n h d_D_objects_347 rfl rfl ?_
      refine g_iload_n h d_D_objects_348 rfl rfl ?_
      obtain ⟨r93, M92, hc91, hw⟩ := o_b hw
      refine g_calli h (g_runV (rest := []) h (ct_D_put hL v3 M88 hc91) (cwV 1 h.2.2.2.2.1 (g_V m_ml_D_227 m_im_D_put m_se_D_put m_in_D m_co_D_put) rfl rfl rfl (by decide +kernel) ⟨Nat.le_of_ble_eq_true rfl, Nat.le_of_ble_eq_true rfl⟩) (hL.recv h rfl (by decide) ob_30) rfl rfl (Nat.le_of_ble_eq_true rfl) d_D_objects_349) ?_
      refine g_if_eq (tgt := 359) h d_D_objects_352 (by decide) (fun c94 => ?_) (fun c94 => ?_)
      · have hw := o_t c94 hw
        refine g_iconst (v := 0) h d_D_objects_359 (by decide) ?_
        exact g_zret h hQ d_D_objects_360 rfl hw
      · have hw := o_f c94 hw
        refine g_iconst (v := 1) h d_D_objects_355 (by decide) ?_
        refine g_goto (tgt := 360) h d_D_objects_356 (by decide) ?_
        exact g_zret h hQ d_D_objects_360 rfl hw
  have hw := o_f c118_5 hw
  rcases Classical.em (v2 = 26) with c118_6 | c118_6
  · refine g_tabIn (tgt := 361) h d_D_objects_8 (by rw [c118_6]; decide) (by rw [c118_6]; decide) (by rw [c118_6]; rfl) (by decide) ?_
    have hw := o_t c118_6 hw
    refine g_aload_n h d_D_objects_361 rfl rfl ?_
    refine g_iconst (v := 1) h d_D_objects_362 (by decide) ?_
    obtain ⟨r97, M96, hc95, hw⟩ := o_b hw
    refine g_calli h (g_runV (rest := []) h (ct_D_takes hL 1 M50 hc95) (cwV 1 h.2.2.2.2.1 (g_V m_ml_D_224 m_im_D_takes m_se_D_takes m_in_D m_co_D_takes) rfl rfl rfl (by decide +kernel) ⟨Nat.le_of_ble_eq_true rfl, Nat.le_of_ble_eq_true rfl⟩) (hL.recv h rfl (by decide) ob_30) rfl rfl (Nat.le_of_ble_eq_true rfl) d_D_objects_363) ?_
    refine g_if_eq (tgt := 384) h d_D_objects_366 (by decide) (fun c98 => ?_) (fun c98 => ?_)
    · have hw := o_t c98 hw
      refine g_iconst (v := 0) h d_D_objects_384 (by decide) ?_
      exact g_zret h hQ d_D_objects_385 rfl hw
    · have hw := o_f c98 hw
      refine g_aload_n h d_D_objects_369 rfl rfl ?_
      refine g_bipush (v := 64) h d_D_objects_370 (by decide) ?_
      refine g_iload_n h d_D_objects_372 rfl rfl ?_
      refine g_iadd h d_D_objects_373 ?_
      obtain ⟨r101, M100, hc99, hw⟩ := o_b hw
      refine g_calli h (g_runV (rest := []) h (ct_D_put hL ((64 : Int32) + v3) M96 hc99) (cwV 1 h.2.2.2.2.1 (g_V m_ml_D_227 m_im_D_put m_se_D_put m_in_D m_co_D_put) rfl rfl rfl (by decide +kernel) ⟨Nat.le_of_ble_eq_true rfl, Nat.le_of_ble_eq_true rfl⟩) (hL.recv h rfl (by decide) ob_30) rfl rfl (Nat.le_of_ble_eq_true rfl) d_D_objects_374) ?_
      refine g_if_eq (tgt := 384) h d_D_objects_377 (by decide) (fun c102 => ?_) (fun c102 => ?_)
      · have hw := o_t c102 hw
        refine g_iconst (v := 0) h d_D_objects_384 (by decide) ?_
        exact g_zret h hQ d_D_objects_385 rfl hw
      · have hw := o_f c102 hw
        refine g_iconst (v := 1) h d_D_objects_380 (by decide) ?_
        refine g_goto (tgt := 385) h d_D_objects_381 (by decide) ?_
        exact g_zret h hQ d_D_objects_385 rfl hw
  have hw := o_f c118_6 hw
  rcases Classical.em (v2 = 27) with c118_7 | c118_7
  · refine g_tabIn (tgt := 386) h d_D_objects_8 (by rw [c118_7]; decide) (by rw [c118_7]; decide) (by rw [c118_7]; rfl) (by decide) ?_
    have hw := o_t c118_7 hw
    refine g_aload_n h d_D_objects_386 rfl rfl ?_
    refine g_iconst (v := 1) h d_D_objects_387 (by decide) ?_
    obtain ⟨r105, M104, hc103, hw⟩ := o_b hw
    refine g_calli h (g_runV (rest := []) h (ct_D_takes hL 1 M50 hc103) (cwV 1 h.2.2.2.2.1 (g_V m_ml_D_224 m_im_D_takes m_se_D_takes m_in_D m_co_D_takes) rfl rfl rfl (by decide +kernel) ⟨Nat.le_of_ble_eq_true rfl, Nat.le_of_ble_eq_true rfl⟩) (hL.recv h rfl (by decide) ob_30) rfl rfl (Nat.le_of_ble_eq_true rfl) d_D_objects_388) ?_
    refine g_if_eq (tgt := 427) h d_D_objects_391 (by decide) (fun c106 => ?_) (fun c106 => ?_)
    · have hw := o_t c106 hw
      refine g_iconst (v := 0) h d_D_objects_427 (by decide) ?_
      exact g_zret h hQ d_D_objects_428 rfl hw
    · have hw := o_f c106 hw
      refine g_aload_n h d_D_objects_394 rfl rfl ?_
      refine g_iload_n h d_D_objects_395 rfl rfl ?_
      obtain ⟨r109, M108, hc107, hw⟩ := o_b hw
      refine g_calli h (g_runV (rest := []) h (ct_D_takesRow hL v3 M104 hc107) (cwV 1 h.2.2.2.2.1 (g_V m_ml_D_243 m_im_D_takesRow m_se_D_takesRow m_in_D m_co_D_takesRow) rfl rfl rfl (by decide +kernel) ⟨Nat.le_of_ble_eq_true rfl, Nat.le_of_ble_eq_true rfl⟩) (hL.recv h rfl (by decide) ob_30) rfl rfl (Nat.le_of_ble_eq_true rfl) d_D_objects_396) ?_
      refine g_if_eq (tgt := 427) h d_D_objects_399 (by decide) (fun c110 => ?_) (fun c110 => ?_)
      · have hw := o_t c110 hw
        refine g_iconst (v := 0) h d_D_objects_427 (by decide) ?_
        exact g_zret h hQ d_D_objects_428 rfl hw
      · have hw := o_f c110 hw
        refine g_aload_n h d_D_objects_402 rfl rfl ?_
        refine g_iload_n h d_D_objects_403 rfl rfl ?_
        refine g_bipush (v := 76) h d_D_objects_404 (by decide) ?_
        refine g_icmp_ne (tgt := 413) h d_D_objects_406 (by decide) (fun c111 => ?_) (fun c111 => ?_)
        · have hw := o_f c111 hw
          refine g_iload_n h d_D_objects_413 rfl rfl ?_
          refine g_bipush (v := 64) h d_D_objects_414 (by decide) ?_
          refine g_isub h d_D_objects_416 ?_
          refine g_sub [] rfl ?_
          exact w_D_objects_b417 hL h hQ  (v3 - 64) M108 hw
        · have hw := o_t c111 hw
          refine g_iconst (v := 1) h d_D_objects_409 (by decide) ?_
          refine g_goto (tgt := 417) h d_D_objects_410 (by decide) ?_
          refine g_sub [] rfl ?_
          exact w_D_objects_b417 hL h hQ  1 M108 hw
  have hw := o_f c118_7 hw
  rcases Classical.em (v2 = 28) with c118_8 | c118_8
  · refine g_tabIn (tgt := 429) h d_D_objects_8 (by rw [c118_8]; decide) (by rw [c118_8]; decide) (by rw [c118_8]; rfl) (by decide) ?_
    have hw := o_t c118_8 hw
    refine g_aload_n h d_D_objects_429 rfl rfl ?_
    refine g_iload_n h d_D_objects_430 rfl rfl ?_
    refine g_bipush (v := 76) h d_D_objects_431 (by decide) ?_
    refine g_icmp_ne (tgt := 440) h d_D_objects_433 (by decide) (fun c112 => ?_) (fun c112 => ?_)
    · have hw := o_f c112 hw
      refine g_iload_n h d_D_objects_440 rfl rfl ?_
      refine g_bipush (v := 64) h d_D_objects_441 (by decide) ?_
      refine g_isub h d_D_objects_443 ?_
      refine g_sub [1, 4] rfl ?_
      exact w_D_objects_b444 hL h hQ  v3 (v3 - 64) M50 hw
    · have hw := o_t c112 hw
      refine g_iconst (v := 1) h d_D_objects_436 (by decide) ?_
      refine g_goto (tgt := 444) h d_D_objects_437 (by decide) ?_
      refine g_sub [1, 4] rfl ?_
      exact w_D_objects_b444 hL h hQ  v3 1 M50 hw
  have hw := o_f c118_8 hw
  rcases Classical.em (v2 = 29) with c118_9 | c118_9
  · refine g_tabIn (tgt := 472) h d_D_objects_8 (by rw [c118_9]; decide) (by rw [c118_9]; decide) (by rw [c118_9]; rfl) (by decide) ?_
    have hw := o_t c118_9 hw
    refine g_iload h d_D_objects_472 rfl ?_
    refine g_iconst (v := 5) h d_D_objects_474 (by decide) ?_
    refine g_icmp_eq (tgt := 496) h d_D_objects_475 (by decide) (fun c113 => ?_) (fun c113 => ?_)
    · have hw := o_t c113 hw
      refine g_sub [1] rfl ?_
      exact w_D_objects_b496 hL h hQ  M50 hw
    · have hw := o_f c113 hw
      refine g_iload h d_D_objects_478 rfl ?_
      refine g_bipush (v := 64) h d_D_objects_480 (by decide) ?_
      refine g_icmp_lt (tgt := 494) h d_D_objects_482 (by decide) (fun c114 => ?_) (fun c114 => ?_)
      · have hw := o_t c114 hw
        refine g_iconst (v := 0) h d_D_objects_494 (by decide) ?_
        exact g_zret h hQ d_D_objects_495 rfl hw
      · have hw := o_f c114 hw
        refine g_aload_n h d_D_objects_485 rfl rfl ?_
        refine g_iload h d_D_objects_486 rfl ?_
        refine g_calli h (g_runV (rest := []) h (ct_D_isRef hL r51 M50 (p_D_isRef r51 M50)) (cwV 1 h.2.2.2.2.1 (g_V m_ml_D_99 m_im_D_isRef m_se_D_isRef m_in_D m_co_D_isRef) rfl rfl rfl (by decide +kernel) ⟨Nat.le_of_ble_eq_true rfl, Nat.le_of_ble_eq_true rfl⟩) (hL.recv h rfl (by decide) ob_30) rfl rfl (Nat.le_of_ble_eq_true rfl) d_D_objects_488) ?_
        refine g_topi (fun r116 er116 => ?_)
        have hw := o_l hw r116 er116
        refine g_if_ne (tgt := 496) h d_D_objects_491 (by decide) (fun c117 => ?_) (fun c117 => ?_)
        · have hw := o_f c117 hw
          refine g_sub [1] rfl ?_
          exact w_D_objects_b496 hL h hQ  M50 hw
        · have hw := o_t c117 hw
          refine g_iconst (v := 0) h d_D_objects_494 (by decide) ?_
          exact g_zret h hQ d_D_objects_495 rfl hw
  have hw := o_f c118_9 hw
  refine g_tabOut (tgt := 506) h d_D_objects_8 (sw_out 20 10 (by decide) (by decide) (fun j hj => ?_)) (by decide) ?_
  · rcases (show j = 0 ∨ j = 1 ∨ j = 2 ∨ j = 3 ∨ j = 4 ∨ j = 5 ∨ j = 6 ∨ j = 7 ∨ j = 8 ∨ j = 9 by omega) with rfl | rfl | rfl | rfl | rfl | rfl | rfl | rfl | rfl | rfl
    · exact c118_0
    · exact c118_1
    · exact c118_2
    · exact c118_3
    · exact c118_4
    · exact c118_5
    · exact c118_6
    · exact c118_7
    · exact c118_8
    · exact c118_9
  refine g_aload_n h d_D_objects_506 rfl rfl ?_
  refine g_iload_n h d_D_objects_507 rfl rfl ?_
  refine g_iconst (v := 1) h d_D_objects_508 (by decide) ?_
  obtain ⟨M53, hc52, hw⟩ := o_v hw
  refine g_callv h (g_runV (rest := []) h (ct_D_touches hL v3 1 M50 hc52) (cwV 2 h.2.2.2.2.1 (g_V m_ml_D_230 m_im_D_touches m_se_D_touches m_in_D m_co_D_touches) rfl rfl rfl (by decide +kernel) ⟨Nat.le_of_ble_eq_true rfl, Nat.le_of_ble_eq_true rfl⟩) (hL.recv h rfl (by decide) ob_30) rfl rfl (Nat.le_of_ble_eq_true rfl) d_D_objects_509) ?_
  refine g_aload_n h d_D_objects_512 rfl rfl ?_
  refine g_getR (t := 30) (i := 0) (k := 25) (C := "FlowGateModel") (T := T_D) (N := 42) h hL rfl (by decide) ob_30 (by decide) rfl (t' := 49) (i' := 0) rfl rfl (fun w hw => mc (in_D w hw)) (mc m_fl_D_70) rfl d_D_objects_513 ?_
  refine g_iload_n h d_D_objects_516 rfl rfl ?_
  obtain ⟨hv54, hw⟩ := o_in hw
  refine g_iald (t := 49) (i := 0) h hL rfl (by decide) rfl rfl hv54 d_D_objects_517 ?_
  refine g_iconst (v := 1) h d_D_objects_518 (by decide) ?_
  refine g_icmp_ne (tgt := 526) h d_D_objects_519 (by decide) (fun c55 => ?_) (fun c55 => ?_)
  · have hw := o_f c55 hw
    refine g_iconst (v := 0) h d_D_objects_526 (by decide) ?_
    exact g_zret h hQ d_D_objects_527 rfl hw
  · have hw := o_t c55 hw
    refine g_iconst (v := 1) h d_D_objects_522 (by decide) ?_
    refine g_goto (tgt := 527) h d_D_objects_523 (by decide) ?_
    exact g_zret h hQ d_D_objects_527 rfl hw
