set_option maxHeartbeats 4000000 in
set_option maxRecDepth 100000 in
theorem w_D_verify_b220 {Z : ZT} {X : XT} (hL : Lay Z sD) (h : Ok Z X "FlowGateModel" c_D_verify ws_D_verify 2 ({ frames := 8, cells := 0, slots := 0, locals := 188 })) {res : Int32 × Mm} (hQ : FinI Z X .int res) {K165 : Int32 → Mm → Option (Int32 × Mm)} (hK165 : ∀ (v1 : Int32) (M : Mm), K165 v1 M = some res → G Z X M 165 [(0, .ref (za Z 30 0)), (1, .int v1)] []) (v1 : Int32) (M : Mm)  (hw : F_D_verify_b220 K165 v1 M = some res) : G Z X M 220 [(0, .ref (za Z 30 0)), (1, .int v1)] [] := by
  rw [F_D_verify_b220] at hw
  refine g_iinc (n' := 1) (lw := fun y => [(1, .int y), (0, .ref (za Z 30 0))]) h d_D_verify_220 rfl (by decide) (by decide) (fun _ => rfl) (fun n1 en1 => ?_)
  have hw := o_l hw n1 en1
  refine g_goto (tgt := 165) h d_D_verify_223 (by decide) ?_
  refine g_sub [1, 0] rfl ?_
  exact hK165 n1 M hw
set_option maxHeartbeats 4000000 in
set_option maxRecDepth 100000 in
theorem w_D_verify_b165 {Z : ZT} {X : XT} (hL : Lay Z sD) (h : Ok Z X "FlowGateModel" c_D_verify ws_D_verify 2 ({ frames := 8, cells := 0, slots := 0, locals := 188 })) {res : Int32 × Mm} (hQ : FinI Z X .int res)  : ∀ (n : Nat) (v1 : Int32) (M : Mm), F_D_verify_b165  n v1 M = some res → G Z X M 165 [(0, .ref (za Z 30 0)), (1, .int v1)] [] := by
  intro n
  induction n with
  | zero =>
    intro v1 M hw
    cases hw
  | succ n hK165 =>
    intro v1 M hw
    rw [F_D_verify_b165] at hw
    refine g_iload_n h d_D_verify_165 rfl rfl ?_
    refine g_aload_n h d_D_verify_166 rfl rfl ?_
    refine g_getI (t := 30) (i := 0) (k := 11) (C := "FlowGateModel") (T := T_D) (N := 42) h hL rfl (by decide) ob_30 (by decide) rfl (fun w hw => mc (in_D w hw)) (mc m_fl_D_118) rfl d_D_verify_167 ?_
    refine g_icmp_ge (tgt := 226) h d_D_verify_170 (by decide) (fun c2 => ?_) (fun c2 => ?_)
    · have hw := o_t c2 hw
      refine g_aload_n h d_D_verify_226 rfl rfl ?_
      refine g_getI (t := 30) (i := 0) (k := 34) (C := "FlowGateModel") (T := T_D) (N := 42) h hL rfl (by decide) ob_30 (by decide) rfl (fun w hw => mc (in_D w hw)) (mc m_fl_D_130) rfl d_D_verify_227 ?_
      exact g_iret h hQ d_D_verify_230 hw
    · have hw := o_f c2 hw
      refine g_aload_n h d_D_verify_173 rfl rfl ?_
      refine g_getR (t := 30) (i := 0) (k := 17) (C := "FlowGateModel") (T := T_D) (N := 42) h hL rfl (by decide) ob_30 (by decide) rfl (t' := 41) (i' := 0) rfl rfl (fun w hw => mc (in_D w hw)) (mc m_fl_D_45) rfl d_D_verify_174 ?_
      refine g_iload_n h d_D_verify_177 rfl rfl ?_
      obtain ⟨hv3, hw⟩ := o_in hw
      refine g_zald (t := 41) (i := 0) h hL rfl (by decide) rfl rfl hv3 d_D_verify_178 ?_
      refine g_if_eq (tgt := 220) h d_D_verify_179 (by decide) (fun c4 => ?_) (fun c4 => ?_)
      · have hw := o_t c4 hw
        refine g_sub [0, 1] rfl ?_
        exact w_D_verify_b220 hL h hQ hK165 v1 M hw
      · have hw := o_f c4 hw
        refine g_aload_n h d_D_verify_182 rfl rfl ?_
        refine g_dup h d_D_verify_183 rfl ?_
        refine g_getI (t := 30) (i := 0) (k := 38) (C := "FlowGateModel") (T := T_D) (N := 42) h hL rfl (by decide) ob_30 (by decide) rfl (fun w hw => mc (in_D w hw)) (mc m_fl_D_159) rfl d_D_verify_184 ?_
        refine g_iconst (v := 1) h d_D_verify_187 (by decide) ?_
        refine g_iadd h d_D_verify_188 ?_
        refine g_putI (t := 30) (i := 0) (k := 38) (C := "FlowGateModel") (T := T_D) (N := 42) h hL rfl (by decide) ob_30 (by decide) rfl (fun w hw => mc (in_D w hw)) ty_D ty_D_ok nm_D (mc m_fl_D_159) rfl rfl rfl d_D_verify_189 ?_
        refine g_mem (fun M5 eM5 => ?_)
        have hw := o_l hw M5 eM5
        refine g_aload_n h d_D_verify_192 rfl rfl ?_
        refine g_getR (t := 30) (i := 0) (k := 3) (C := "FlowGateModel") (T := T_D) (N := 42) h hL rfl (by decide) ob_30 (by decide) rfl (t' := 33) (i' := 0) rfl rfl (fun w hw => mc (in_D w hw)) (mc m_fl_D_21) rfl d_D_verify_193 ?_
        refine g_iload_n h d_D_verify_196 rfl rfl ?_
        obtain ⟨hv6, hw⟩ := o_in hw
        refine g_iald (t := 33) (i := 0) h hL rfl (by decide) rfl rfl hv6 d_D_verify_197 ?_
        refine g_bipush (v := 15) h d_D_verify_198 (by decide) ?_
        refine g_icmp_ne (tgt := 220) h d_D_verify_200 (by decide) (fun c7 => ?_) (fun c7 => ?_)
        · have hw := o_f c7 hw
          refine g_sub [0, 1] rfl ?_
          exact w_D_verify_b220 hL h hQ hK165 v1 M5 hw
        · have hw := o_t c7 hw
          refine g_aload_n h d_D_verify_203 rfl rfl ?_
          refine g_dup h d_D_verify_204 rfl ?_
          refine g_getL (t := 30) (i := 0) (k := 41) (C := "FlowGateModel") (T := T_D) (N := 42) h hL rfl (by decide) ob_30 (by decide) rfl (fun w hw => mc (in_D w hw)) (mc m_fl_D_162) rfl d_D_verify_205 ?_
          refine g_lconst (v := 1) h d_D_verify_208 rfl ?_
          refine g_aload_n h d_D_verify_209 rfl rfl ?_
          refine g_getR (t := 30) (i := 0) (k := 5) (C := "FlowGateModel") (T := T_D) (N := 42) h hL rfl (by decide) ob_30 (by decide) rfl (t' := 35) (i' := 0) rfl rfl (fun w hw => mc (in_D w hw)) (mc m_fl_D_27) rfl d_D_verify_210 ?_
          refine g_iload_n h d_D_verify_213 rfl rfl ?_
          obtain ⟨hv8, hw⟩ := o_in hw
          refine g_iald (t := 35) (i := 0) h hL rfl (by decide) rfl rfl hv8 d_D_verify_214 ?_
          refine g_lshl h d_D_verify_215 ?_
          refine g_lor h d_D_verify_216 ?_
          refine g_putL (t := 30) (i := 0) (k := 41) (C := "FlowGateModel") (T := T_D) (N := 42) h hL rfl (by decide) ob_30 (by decide) rfl (fun w hw => mc (in_D w hw)) ty_D ty_D_ok nm_D (mc m_fl_D_162) rfl rfl rfl d_D_verify_217 ?_
          refine g_mem (fun M9 eM9 => ?_)
          have hw := o_l hw M9 eM9
          refine g_sub [0, 1] rfl ?_
          exact w_D_verify_b220 hL h hQ hK165 v1 M9 hw
set_option maxHeartbeats 4000000 in
set_option maxRecDepth 100000 in
theorem w_D_verify_b153 {Z : ZT} {X : XT} (hL : Lay Z sD) (h : Ok Z X "FlowGateModel" c_D_verify ws_D_verify 2 ({ frames := 8, cells := 0, slots := 0, locals := 188 })) {res : Int32 × Mm} (hQ : FinI Z X .int res)   (M : Mm)  (hw : F_D_verify_b153 M = some res) : G Z X M 153 [(0, .ref (za Z 30 0))] [] := by
  rw [F_D_verify_b153] at hw
  refine g_aload_n h d_D_verify_153 rfl rfl ?_
  refine g_iconst (v := 0) h d_D_verify_154 (by decide) ?_
  refine g_putI (t := 30) (i := 0) (k := 38) (C := "FlowGateModel") (T := T_D) (N := 42) h hL rfl (by decide) ob_30 (by decide) rfl (fun w hw => mc (in_D w hw)) ty_D ty_D_ok nm_D (mc m_fl_D_159) rfl rfl rfl d_D_verify_155 ?_
  refine g_mem (fun M10 eM10 => ?_)
  have hw := o_l hw M10 eM10
  refine g_aload_n h d_D_verify_158 rfl rfl ?_
  refine g_lconst (v := 0) h d_D_verify_159 rfl ?_
  refine g_putL (t := 30) (i := 0) (k := 41) (C := "FlowGateModel") (T := T_D) (N := 42) h hL rfl (by decide) ob_30 (by decide) rfl (fun w hw => mc (in_D w hw)) ty_D ty_D_ok nm_D (mc m_fl_D_162) rfl rfl rfl d_D_verify_160 ?_
  refine g_mem (fun M11 eM11 => ?_)
  have hw := o_l hw M11 eM11
  refine g_iconst (v := 0) h d_D_verify_163 (by decide) ?_
  refine g_istore_n (lv' := [(1, .int 0), (0, .ref (za Z 30 0))]) h d_D_verify_164 rfl (by decide) rfl ?_
  refine g_sub [1, 0] rfl ?_
  exact w_D_verify_b165 hL h hQ  fuel 0 M11 hw
set_option maxHeartbeats 4000000 in
set_option maxRecDepth 100000 in
theorem w_D_verify_b136 {Z : ZT} {X : XT} (hL : Lay Z sD) (h : Ok Z X "FlowGateModel" c_D_verify ws_D_verify 2 ({ frames := 8, cells := 0, slots := 0, locals := 188 })) {res : Int32 × Mm} (hQ : FinI Z X .int res)   (M : Mm)  (hw : F_D_verify_b136 M = some res) : G Z X M 136 [(0, .ref (za Z 30 0))] [] := by
  rw [F_D_verify_b136] at hw
  refine g_aload_n h d_D_verify_136 rfl rfl ?_
  refine g_getI (t := 30) (i := 0) (k := 34) (C := "FlowGateModel") (T := T_D) (N := 42) h hL rfl (by decide) ob_30 (by decide) rfl (fun w hw => mc (in_D w hw)) (mc m_fl_D_130) rfl d_D_verify_137 ?_
  refine g_if_ne (tgt := 153) h d_D_verify_140 (by decide) (fun c12 => ?_) (fun c12 => ?_)
  · have hw := o_f c12 hw
    refine g_sub [0] rfl ?_
    exact w_D_verify_b153 hL h hQ  M hw
  · have hw := o_t c12 hw
    refine g_aload_n h d_D_verify_143 rfl rfl ?_
    refine g_dup h d_D_verify_144 rfl ?_
    refine g_getI (t := 30) (i := 0) (k := 37) (C := "FlowGateModel") (T := T_D) (N := 42) h hL rfl (by decide) ob_30 (by decide) rfl (fun w hw => mc (in_D w hw)) (mc m_fl_D_156) rfl d_D_verify_145 ?_
    refine g_iconst (v := 1) h d_D_verify_148 (by decide) ?_
    refine g_iadd h d_D_verify_149 ?_
    refine g_putI (t := 30) (i := 0) (k := 37) (C := "FlowGateModel") (T := T_D) (N := 42) h hL rfl (by decide) ob_30 (by decide) rfl (fun w hw => mc (in_D w hw)) ty_D ty_D_ok nm_D (mc m_fl_D_156) rfl rfl rfl d_D_verify_150 ?_
    refine g_mem (fun M13 eM13 => ?_)
    have hw := o_l hw M13 eM13
    refine g_sub [0] rfl ?_
    exact w_D_verify_b153 hL h hQ  M13 hw
set_option maxHeartbeats 4000000 in
set_option maxRecDepth 100000 in
theorem w_D_verify_b133 {Z : ZT} {X : XT} (hL : Lay Z sD) (h : Ok Z X "FlowGateModel" c_D_verify ws_D_verify 2 ({ frames := 8, cells := 0, slots := 0, locals := 188 })) {res : Int32 × Mm} (hQ : FinI Z X .int res) {K65 : Mm → Option (Int32 × Mm)} (hK65 : ∀  (M : Mm), K65  M = some res → G Z X M 65 [(0, .ref (za Z 30 0))] [])  (M : Mm)  (hw : F_D_verify_b133 K65 M = some res) : G Z X M 133 [(0, .ref (za Z 30 0))] [] := by
  rw [F_D_verify_b133] at hw
  refine g_goto (tgt := 65) h d_D_verify_133 (by decide) ?_
  refine g_sub [0] rfl ?_
  exact hK65 M hw
set_option maxHeartbeats 4000000 in
set_option maxRecDepth 100000 in
theorem w_D_verify_b97 {Z : ZT} {X : XT} (hL : Lay Z sD) (h : Ok Z X "FlowGateModel" c_D_verify ws_D_verify 2 ({ frames := 8, cells := 0, slots := 0, locals := 188 })) {res : Int32 × Mm} (hQ : FinI Z X .int res) {K65 : Mm → Option (Int32 × Mm)} (hK65 : ∀  (M : Mm), K65  M = some res → G Z X M 65 [(0, .ref (za Z 30 0))] []) (v1 : Int32) (M : Mm)  (hw : F_D_verify_b97 K65 v1 M = some res) : G Z X M 97 [(0, .ref (za Z 30 0)), (1, .int v1)] [] := by
  rw [F_D_verify_b97] at hw
  refine g_iload_n h d_D_verify_97 rfl rfl ?_
  refine g_aload_n h d_D_verify_98 rfl rfl ?_
  refine g_getI (t := 30) (i := 0) (k := 11) (C := "FlowGateModel") (T := T_D) (N := 42) h hL rfl (by decide) ob_30 (by decide) rfl (fun w hw => mc (in_D w hw)) (mc m_fl_D_118) rfl d_D_verify_99 ?_
  refine g_icmp_ne (tgt := 108) h d_D_verify_102 (by decide) (fun c14 => ?_) (fun c14 => ?_)
  · have hw := o_f c14 hw
    refine g_aload_n h d_D_verify_108 rfl rfl ?_
    refine g_getI (t := 30) (i := 0) (k := 36) (C := "FlowGateModel") (T := T_D) (N := 42) h hL rfl (by decide) ob_30 (by decide) rfl (fun w hw => mc (in_D w hw)) (mc m_fl_D_143) rfl d_D_verify_109 ?_
    refine g_sipush (v := 2999) h d_D_verify_112 (by decide) ?_
    refine g_icmp_ne (tgt := 128) h d_D_verify_115 (by decide) (fun c15 => ?_) (fun c15 => ?_)
    · have hw := o_f c15 hw
      refine g_aload_n h d_D_verify_128 rfl rfl ?_
      refine g_iload_n h d_D_verify_129 rfl rfl ?_
      obtain ⟨M17, hc16, hw⟩ := o_v hw
      refine g_callv h (g_runV (rest := []) h (ct_D_lookAt hL v1 M hc16) (cwV 1 h.2.2.2.2.1 (g_V m_ml_D_152 m_im_D_lookAt m_se_D_lookAt m_in_D m_co_D_lookAt) rfl rfl rfl (by decide +kernel) ⟨Nat.le_of_ble_eq_true rfl, Nat.le_of_ble_eq_true rfl⟩) (hL.recv h rfl (by decide) ob_30) rfl rfl (Nat.le_of_ble_eq_true rfl) d_D_verify_130) ?_
      refine g_sub [0] rfl ?_
      exact w_D_verify_b133 hL h hQ hK65 M17 hw
    · have hw := o_t c15 hw
      refine g_aload_n h d_D_verify_118 rfl rfl ?_
      refine g_bipush (v := 9) h d_D_verify_119 (by decide) ?_
      refine g_iload_n h d_D_verify_121 rfl rfl ?_
      obtain ⟨M19, hc18, hw⟩ := o_v hw
      refine g_callv h (g_runV (rest := []) h (ct_D_fail hL 9 v1 M hc18) (cwV 2 h.2.2.2.2.1 (g_V m_ml_D_133 m_im_D_fail m_se_D_fail m_in_D m_co_D_fail) rfl rfl rfl (by decide +kernel) ⟨Nat.le_of_ble_eq_true rfl, Nat.le_of_ble_eq_true rfl⟩) (hL.recv h rfl (by decide) ob_30) rfl rfl (Nat.le_of_ble_eq_true rfl) d_D_verify_122) ?_
      refine g_goto (tgt := 133) h d_D_verify_125 (by decide) ?_
      refine g_sub [0] rfl ?_
      exact w_D_verify_b133 hL h hQ hK65 M19 hw
  · have hw := o_t c14 hw
    refine g_goto (tgt := 136) h d_D_verify_105 (by decide) ?_
    refine g_sub [0] rfl ?_
    exact w_D_verify_b136 hL h hQ  M hw
set_option maxHeartbeats 4000000 in
set_option maxRecDepth 100000 in
theorem w_D_verify_b74 {Z : ZT} {X : XT} (hL : Lay Z sD) (h : Ok Z X "FlowGateModel" c_D_verify ws_D_verify 2 ({ frames := 8, cells := 0, slots := 0, locals := 188 })) {res : Int32 × Mm} (hQ : FinI Z X .int res) {K65 : Mm → Option (Int32 × Mm)} (hK65 : ∀  (M : Mm), K65  M = some res → G Z X M 65 [(0, .ref (za Z 30 0))] []) : ∀ (n : Nat) (v1 : Int32) (M : Mm), F_D_verify_b74 K65 n v1 M = some res → G Z X M 74 [(0, .ref (za Z 30 0)), (1, .int v1)] [] := by
  intro n
  induction n with
  | zero =>
    intro v1 M hw
    cases hw
  | succ n hK74 =>
    intro v1 M hw
    rw [F_D_verify_b74] at hw
    refine g_iload_n h d_D_verify_74 rfl rfl ?_
    refine g_aload_n h d_D_verify_75 rfl rfl ?_
    refine g_getI (t := 30) (i := 0) (k := 11) (C := "FlowGateModel") (T := T_D) (N := 42) h hL rfl (by decide) ob_30 (by decide) rfl (fun w hw => mc (in_D w hw)) (mc m_fl_D_118) rfl d_D_verify_76 ?_
    refine g_icmp_ge (tgt := 97) h d_D_verify_79 (by decide) (fun c20 => ?_) (fun c20 => ?_)
    · have hw := o_t c20 hw
      refine g_sub [0, 1] rfl ?_
      exact w_D_verify_b97 hL h hQ hK65 v1 M hw
    · have hw := o_f c20 hw
      refine g_aload_n h d_D_verify_82 rfl rfl ?_
      refine g_getR (t := 30) (i := 0) (k := 18) (C := "FlowGateModel") (T := T_D) (N := 42) h hL rfl (by decide) ob_30 (by decide) rfl (t' := 42) (i' := 0) rfl rfl (fun w hw => mc (in_D w hw)) (mc m_fl_D_48) rfl d_D_verify_83 ?_
      refine g_iload_n h d_D_verify_86 rfl rfl ?_
      obtain ⟨hv21, hw⟩ := o_in hw
      refine g_zald (t := 42) (i := 0) h hL rfl (by decide) rfl rfl hv21 d_D_verify_87 ?_
      refine g_if_ne (tgt := 97) h d_D_verify_88 (by decide) (fun c22 => ?_) (fun c22 => ?_)
      · have hw := o_f c22 hw
        refine g_sub [0, 1] rfl ?_
        exact w_D_verify_b97 hL h hQ hK65 v1 M hw
      · have hw := o_t c22 hw
        refine g_iinc (n' := 1) (lw := fun y => [(1, .int y), (0, .ref (za Z 30 0))]) h d_D_verify_91 rfl (by decide) (by decide) (fun _ => rfl) (fun n23 en23 => ?_)
        have hw := o_l hw n23 en23
        refine g_goto (tgt := 74) h d_D_verify_94 (by decide) ?_
        refine g_sub [1, 0] rfl ?_
        exact hK74 n23 M hw
set_option maxHeartbeats 4000000 in
set_option maxRecDepth 100000 in
theorem w_D_verify_b65 {Z : ZT} {X : XT} (hL : Lay Z sD) (h : Ok Z X "FlowGateModel" c_D_verify ws_D_verify 2 ({ frames := 8, cells := 0, slots := 0, locals := 188 })) {res : Int32 × Mm} (hQ : FinI Z X .int res)  : ∀ (n : Nat)  (M : Mm), F_D_verify_b65  n  M = some res → G Z X M 65 [(0, .ref (za Z 30 0))] [] := by
  intro n
  induction n with
  | zero =>
    intro M hw
    cases hw
  | succ n hK65 =>
    intro M hw
    rw [F_D_verify_b65] at hw
    refine g_aload_n h d_D_verify_65 rfl rfl ?_
    refine g_getI (t := 30) (i := 0) (k := 34) (C := "FlowGateModel") (T := T_D) (N := 42) h hL rfl (by decide) ob_30 (by decide) rfl (fun w hw => mc (in_D w hw)) (mc m_fl_D_130) rfl d_D_verify_66 ?_
    refine g_if_ne (tgt := 136) h d_D_verify_69 (by decide) (fun c24 => ?_) (fun c24 => ?_)
    · have hw := o_f c24 hw
      refine g_sub [0] rfl ?_
      exact w_D_verify_b136 hL h hQ  M hw
    · have hw := o_t c24 hw
      refine g_iconst (v := 0) h d_D_verify_72 (by decide) ?_
      refine g_istore_n (lv' := [(1, .int 0), (0, .ref (za Z 30 0))]) h d_D_verify_73 rfl (by decide) rfl ?_
      refine g_sub [1, 0] rfl ?_
      exact w_D_verify_b74 hL h hQ hK65 fuel 0 M hw
set_option maxHeartbeats 4000000 in
set_option maxRecDepth 100000 in
theorem w_D_verify_b17 {Z : ZT} {X : XT} (hL : Lay Z sD) (h : Ok Z X "FlowGateModel" c_D_verify ws_D_verify 2 ({ frames := 8, cells := 0, slots := 0, locals := 188 })) {res : Int32 × Mm} (hQ : FinI Z X .int res)  : ∀ (n : Nat) (v1 : Int32) (M : Mm), F_D_verify_b17  n v1 M = some res → G Z X M 17 [(0, .ref (za Z 30 0)), (1, .int v1)] [] := by
  intro n
  induction n with
  | zero =>
    intro v1 M hw
    cases hw
  | succ n hK17 =>
    intro v1 M hw
    rw [F_D_verify_b17] at hw
    refine g_iload_n h d_D_verify_17 rfl rfl ?_
    refine g_bipush (v := 48) h d_D_verify_18 (by decide) ?_
    refine g_icmp_ge (tgt := 50) h d_D_verify_20 (by decide) (fun c25 => ?_) (fun c25 => ?_)
    · have hw := o_t c25 hw
      refine g_aload_n h d_D_verify_50 rfl rfl ?_
      obtain ⟨M27, hc26, hw⟩ := o_v hw
      refine g_callv h (g_runV (rest := []) h (ct_D_form hL M hc26) (cwV 0 h.2.2.2.2.1 (g_V m_ml_D_146 m_im_D_form m_se_D_form m_in_D m_co_D_form) rfl rfl rfl (by decide +kernel) ⟨Nat.le_of_ble_eq_true rfl, Nat.le_of_ble_eq_true rfl⟩) (hL.recv h rfl (by decide) ob_30) rfl rfl (Nat.le_of_ble_eq_true rfl) d_D_verify_51) ?_
      refine g_aload_n h d_D_verify_54 rfl rfl ?_
      refine g_getI (t := 30) (i := 0) (k := 34) (C := "FlowGateModel") (T := T_D) (N := 42) h hL rfl (by decide) ob_30 (by decide) rfl (fun w hw => mc (in_D w hw)) (mc m_fl_D_130) rfl d_D_verify_55 ?_
      refine g_if_ne (tgt := 65) h d_D_verify_58 (by decide) (fun c28 => ?_) (fun c28 => ?_)
      · have hw := o_f c28 hw
        refine g_sub [0] rfl ?_
        exact w_D_verify_b65 hL h hQ  fuel M27 hw
      · have hw := o_t c28 hw
        refine g_aload_n h d_D_verify_61 rfl rfl ?_
        obtain ⟨M30, hc29, hw⟩ := o_v hw
        refine g_callv h (g_runV (rest := []) h (ct_D_begins hL M27 hc29) (cwV 0 h.2.2.2.2.1 (g_V m_ml_D_149 m_im_D_begins m_se_D_begins m_in_D m_co_D_begins) rfl rfl rfl (by decide +kernel) ⟨Nat.le_of_ble_eq_true rfl, Nat.le_of_ble_eq_true rfl⟩) (hL.recv h rfl (by decide) ob_30) rfl rfl (Nat.le_of_ble_eq_true rfl) d_D_verify_62) ?_
        refine g_sub [0] rfl ?_
        exact w_D_verify_b65 hL h hQ  fuel M30 hw
    · have hw := o_f c25 hw
      refine g_aload_n h d_D_verify_23 rfl rfl ?_
      refine g_getR (t := 30) (i := 0) (k := 17) (C := "FlowGateModel") (T := T_D) (N := 42) h hL rfl (by decide) ob_30 (by decide) rfl (t' := 41) (i' := 0) rfl rfl (fun w hw => mc (in_D w hw)) (mc m_fl_D_45) rfl d_D_verify_24 ?_
      refine g_iload_n h d_D_verify_27 rfl rfl ?_
      refine g_iconst (v := 0) h d_D_verify_28 (by decide) ?_
      obtain ⟨hv31, hw⟩ := o_in hw
      refine g_zast (t := 41) (i := 0) h hL rfl (by decide) rfl rfl hv31 d_D_verify_29 ?_
      refine g_mem (fun M32 eM32 => ?_)
      have hw := o_l hw M32 eM32
      refine g_aload_n h d_D_verify_30 rfl rfl ?_
      refine g_getR (t := 30) (i := 0) (k := 18) (C := "FlowGateModel") (T := T_D) (N := 42) h hL rfl (by decide) ob_30 (by decide) rfl (t' := 42) (i' := 0) rfl rfl (fun w hw => mc (in_D w hw)) (mc m_fl_D_48) rfl d_D_verify_31 ?_
      refine g_iload_n h d_D_verify_34 rfl rfl ?_
      refine g_iconst (v := 0) h d_D_verify_35 (by decide) ?_
      obtain ⟨hv33, hw⟩ := o_in hw
      refine g_zast (t := 42) (i := 0) h hL rfl (by decide) rfl rfl hv33 d_D_verify_36 ?_
      refine g_mem (fun M34 eM34 => ?_)
      have hw := o_l hw M34 eM34
      refine g_aload_n h d_D_verify_37 rfl rfl ?_
      refine g_getR (t := 30) (i := 0) (k := 24) (C := "FlowGateModel") (T := T_D) (N := 42) h hL rfl (by decide) ob_30 (by decide) rfl (t' := 48) (i' := 0) rfl rfl (fun w hw => mc (in_D w hw)) (mc m_fl_D_67) rfl d_D_verify_38 ?_
      refine g_iload_n h d_D_verify_41 rfl rfl ?_
      refine g_lconst (v := 0) h d_D_verify_42 rfl ?_
      obtain ⟨hv35, hw⟩ := o_in hw
      refine g_last (t := 48) (i := 0) h hL rfl (by decide) rfl rfl hv35 d_D_verify_43 ?_
      refine g_mem (fun M36 eM36 => ?_)
      have hw := o_l hw M36 eM36
      refine g_iinc (n' := 1) (lw := fun y => [(1, .int y), (0, .ref (za Z 30 0))]) h d_D_verify_44 rfl (by decide) (by decide) (fun _ => rfl) (fun n37 en37 => ?_)
      have hw := o_l hw n37 en37
      refine g_goto (tgt := 17) h d_D_verify_47 (by decide) ?_
      refine g_sub [1, 0] rfl ?_
      exact hK17 n37 M36 hw
set_option maxHeartbeats 4000000 in
set_option maxRecDepth 100000 in
theorem ct_D_verify {Z : ZT} (hL : Lay Z sD)  (M : Mm)  {res : Int32 × Mm} (hw : F_D_verify M = some res) : CtI Z y_D_verify ws_D_verify (({ frames := 8, cells := 0, slots := 0, locals := 188 })) [.ref (za Z 30 0)] M res := by
  refine CtI.of hL (cc := c_D_verify) (maxL := 2) (by decide) rfl (Nat.le_of_ble_eq_true rfl) (fun X h hQ => ?_)
  show G Z X M 0 [(0, .ref (za Z 30 0))] []
  rw [F_D_verify] at hw
  refine g_aload_n h d_D_verify_0 rfl rfl ?_
  refine g_iconst (v := 0) h d_D_verify_1 (by decide) ?_
  refine g_putI (t := 30) (i := 0) (k := 34) (C := "FlowGateModel") (T := T_D) (N := 42) h hL rfl (by decide) ob_30 (by decide) rfl (fun w hw => mc (in_D w hw)) ty_D ty_D_ok nm_D (mc m_fl_D_130) rfl rfl rfl d_D_verify_2 ?_
  refine g_mem (fun M38 eM38 => ?_)
  have hw := o_l hw M38 eM38
  refine g_aload_n h d_D_verify_5 rfl rfl ?_
  refine g_iconst (v := -1) h d_D_verify_6 (by decide) ?_
  refine g_putI (t := 30) (i := 0) (k := 35) (C := "FlowGateModel") (T := T_D) (N := 42) h hL rfl (by decide) ob_30 (by decide) rfl (fun w hw => mc (in_D w hw)) ty_D ty_D_ok nm_D (mc m_fl_D_88) rfl rfl rfl d_D_verify_7 ?_
  refine g_mem (fun M39 eM39 => ?_)
  have hw := o_l hw M39 eM39
  refine g_aload_n h d_D_verify_10 rfl rfl ?_
  refine g_iconst (v := 0) h d_D_verify_11 (by decide) ?_
  refine g_putI (t := 30) (i := 0) (k := 36) (C := "FlowGateModel") (T := T_D) (N := 42) h hL rfl (by decide) ob_30 (by decide) rfl (fun w hw => mc (in_D w hw)) ty_D ty_D_ok nm_D (mc m_fl_D_143) rfl rfl rfl d_D_verify_12 ?_
  refine g_mem (fun M40 eM40 => ?_)
  have hw := o_l hw M40 eM40
  refine g_iconst (v := 0) h d_D_verify_15 (by decide) ?_
  refine g_istore_n (lv' := [(1, .int 0), (0, .ref (za Z 30 0))]) h d_D_verify_16 rfl (by decide) rfl ?_
  refine g_sub [1, 0] rfl ?_
  exact w_D_verify_b17 hL h hQ  fuel 0 M40 hw
set_option maxHeartbeats 4000000 in
set_option maxRecDepth 100000 in
theorem ct_D_place {Z : ZT} (hL : Lay Z sD)  (M : Mm)  {res : Int32 × Mm} (hw : F_D_place M = some res) : CtI Z y_D_place ws_D_place (({ frames := 0, cells := 0, slots := 0, locals := 0 })) [.ref (za Z 30 0)] M res := by
  refine CtI.of hL (cc := c_D_place) (maxL := 1) (by decide) rfl (Nat.le_of_ble_eq_true rfl) (fun X h hQ => ?_)
  show G Z X M 0 [(0, .ref (za Z 30 0))] []
  rw [F_D_place] at hw
  refine g_aload_n h d_D_place_0 rfl rfl ?_
  refine g_getI (t := 30) (i := 0) (k := 34) (C := "FlowGateModel") (T := T_D) (N := 42) h hL rfl (by decide) ob_30 (by decide) rfl (fun w hw => mc (in_D w hw)) (mc m_fl_D_130) rfl d_D_place_1 ?_
  refine g_if_ne (tgt := 11) h d_D_place_4 (by decide) (fun c1 => ?_) (fun c1 => ?_)
  · have hw := o_f c1 hw
    refine g_aload_n h d_D_place_11 rfl rfl ?_
    refine g_getI (t := 30) (i := 0) (k := 35) (C := "FlowGateModel") (T := T_D) (N := 42) h hL rfl (by decide) ob_30 (by decide) rfl (fun w hw => mc (in_D w hw)) (mc m_fl_D_88) rfl d_D_place_12 ?_
    exact g_iret h hQ d_D_place_15 hw
  · have hw := o_t c1 hw
    refine g_iconst (v := -1) h d_D_place_7 (by decide) ?_
    refine g_goto (tgt := 15) h d_D_place_8 (by decide) ?_
    exact g_iret h hQ d_D_place_15 hw
set_option maxHeartbeats 4000000 in
set_option maxRecDepth 100000 in
theorem w_D_state_b164 {Z : ZT} {X : XT} (hL : Lay Z sD) (h : Ok Z X "FlowGateModel" c_D_state ws_D_state 5 ({ frames := 1, cells := 0, slots := 0, locals := 22 })) {res : Int32 × Mm} (hQ : FinI Z X .int res) {K91 : Int32 → Int32 → Int32 → Int32 → Mm → Option (Int32 × Mm)} (hK91 : ∀ (v1 : Int32) (v2 : Int32) (v3 : Int32) (v4 : Int32) (M : Mm), K91 v1 v2 v3 v4 M = some res → G Z X M 91 [(0, .ref (za Z 30 0)), (1, .int v1), (2, .int v2), (3, .int v3), (4, .int v4)] []) (v1 : Int32) (v2 : Int32) (v3 : Int32) (v4 : Int32) (M : Mm)  (hw : F_D_state_b164 K91 v1 v2 v3 v4 M = some res) : G Z X M 164 [(0, .ref (za Z 30 0)), (1, .int v1), (2, .int v2), (3, .int v3), (4, .int v4)] [] := by
  rw [F_D_state_b164] at hw
  refine g_iinc (n' := 1) (lw := fun y => [(4, .int y), (0, .ref (za Z 30 0)), (1, .int v1), (2, .int v2), (3, .int v3)]) h d_D_state_164 rfl (by decide) (by decide) (fun _ => rfl) (fun n1 en1 => ?_)
  have hw := o_l hw n1 en1
  refine g_goto (tgt := 91) h d_D_state_167 (by decide) ?_
  refine g_sub [1, 2, 3, 4, 0] rfl ?_
  exact hK91 v1 v2 v3 n1 M hw
set_option maxHeartbeats 4000000 in
set_option maxRecDepth 100000 in
theorem w_D_state_b161 {Z : ZT} {X : XT} (hL : Lay Z sD) (h : Ok Z X "FlowGateModel" c_D_state ws_D_state 5 ({ frames := 1, cells := 0, slots := 0, locals := 22 })) {res : Int32 × Mm} (hQ : FinI Z X .int res) {K91 : Int32 → Int32 → Int32 → Int32 → Mm → Option (Int32 × Mm)} (hK91 : ∀ (v1 : Int32) (v2 : Int32) (v3 : Int32) (v4 : Int32) (M : Mm), K91 v1 v2 v3 v4 M = some res → G Z X M 91 [(0, .ref (za Z 30 0)), (1, .int v1), (2, .int v2), (3, .int v3), (4, .int v4)] []) (v1 : Int32) (v2 : Int32) (v3 : Int32) (v4 : Int32) (M : Mm)  (hw : F_D_state_b161 K91 v1 v2 v3 v4 M = some res) : G Z X M 161 [(0, .ref (za Z 30 0)), (1, .int v1), (2, .int v2), (3, .int v3), (4, .int v4)] [] := by
  rw [F_D_state_b161] at hw
  refine g_iinc (n' := 1) (lw := fun y => [(3, .int y), (0, .ref (za Z 30 0)), (1, .int v1), (2, .int v2), (4, .int v4)]) h d_D_state_161 rfl (by decide) (by decide) (fun _ => rfl) (fun n2 en2 => ?_)
  have hw := o_l hw n2 en2
  refine g_sub [1, 2, 3, 0, 4] rfl ?_
  exact w_D_state_b164 hL h hQ hK91 v1 v2 n2 v4 M hw
set_option maxHeartbeats 4000000 in
set_option maxRecDepth 100000 in
theorem w_D_state_b134 {Z : ZT} {X : XT} (hL : Lay Z sD) (h : Ok Z X "FlowGateModel" c_D_state ws_D_state 5 ({ frames := 1, cells := 0, slots := 0, locals := 22 })) {res : Int32 × Mm} (hQ : FinI Z X .int res) {K91 : Int32 → Int32 → Int32 → Int32 → Mm → Option (Int32 × Mm)} (hK91 : ∀ (v1 : Int32) (v2 : Int32) (v3 : Int32) (v4 : Int32) (M : Mm), K91 v1 v2 v3 v4 M = some res → G Z X M 91 [(0, .ref (za Z 30 0)), (1, .int v1), (2, .int v2), (3, .int v3), (4, .int v4)] []) (v1 : Int32) (v2 : Int32) (v3 : Int32) (v4 : Int32) (M : Mm)  (hw : F_D_state_b134 K91 v1 v2 v3 v4 M = some res) : G Z X M 134 [(0, .ref (za Z 30 0)), (1, .int v1), (2, .int v2), (3, .int v3), (4, .int v4)] [] := by
  rw [F_D_state_b134] at hw
  refine g_iload_n h d_D_state_134 rfl rfl ?_
  refine g_bipush (v := 40) h d_D_state_135 (by decide) ?_
  refine g_iload_n h d_D_state_137 rfl rfl ?_
  refine g_iadd h d_D_state_138 ?_
  refine g_icmp_ne (tgt := 161) h d_D_state_139 (by decide) (fun c3 => ?_) (fun c3 => ?_)
  · have hw := o_f c3 hw
    refine g_sub [0, 1, 2, 3, 4] rfl ?_
    exact w_D_state_b161 hL h hQ hK91 v1 v2 v3 v4 M hw
  · have hw := o_t c3 hw
    refine g_iload_n h d_D_state_142 rfl rfl ?_
    refine g_bipush (v := 6) h d_D_state_143 (by decide) ?_
    refine g_icmp_ge (tgt := 161) h d_D_state_145 (by decide) (fun c4 => ?_) (fun c4 => ?_)
    · have hw := o_t c4 hw
      refine g_sub [0, 1, 2, 3, 4] rfl ?_
      exact w_D_state_b161 hL h hQ hK91 v1 v2 v3 v4 M hw
    · have hw := o_f c4 hw
      refine g_aload_n h d_D_state_148 rfl rfl ?_
      refine g_getR (t := 30) (i := 0) (k := 22) (C := "FlowGateModel") (T := T_D) (N := 42) h hL rfl (by decide) ob_30 (by decide) rfl (t' := 46) (i' := 0) rfl rfl (fun w hw => mc (in_D w hw)) (mc m_fl_D_60) rfl d_D_state_149 ?_
      refine g_bipush (v := 48) h d_D_state_152 (by decide) ?_
      refine g_iload_n h d_D_state_154 rfl rfl ?_
      refine g_imul h d_D_state_155 ?_
      refine g_iload h d_D_state_156 rfl ?_
      refine g_iadd h d_D_state_158 ?_
      obtain ⟨hv5, hw⟩ := o_in hw
      refine g_iald (t := 46) (i := 0) h hL rfl (by decide) rfl rfl hv5 d_D_state_159 ?_
      exact g_iret h hQ d_D_state_160 hw
set_option maxHeartbeats 4000000 in
set_option maxRecDepth 100000 in
theorem w_D_state_b91 {Z : ZT} {X : XT} (hL : Lay Z sD) (h : Ok Z X "FlowGateModel" c_D_state ws_D_state 5 ({ frames := 1, cells := 0, slots := 0, locals := 22 })) {res : Int32 × Mm} (hQ : FinI Z X .int res)  : ∀ (n : Nat) (v1 : Int32) (v2 : Int32) (v3 : Int32) (v4 : Int32) (M : Mm), F_D_state_b91  n v1 v2 v3 v4 M = some res → G Z X M 91 [(0, .ref (za Z 30 0)), (1, .int v1), (2, .int v2), (3, .int v3), (4, .int v4)] [] := by
  intro n
  induction n with
  | zero =>
    intro v1 v2 v3 v4 M hw
    cases hw
  | succ n hK91 =>
    intro v1 v2 v3 v4 M hw
    rw [F_D_state_b91] at hw
    refine g_iload h d_D_state_91 rfl ?_
    refine g_bipush (v := 48) h d_D_state_93 (by decide) ?_
    refine g_icmp_ge (tgt := 170) h d_D_state_95 (by decide) (fun c6 => ?_) (fun c6 => ?_)
    · have hw := o_t c6 hw
      refine g_iload_n h d_D_state_170 rfl rfl ?_
      refine g_bipush (v := 32) h d_D_state_171 (by decide) ?_
      refine g_icmp_ne (tgt := 185) h d_D_state_173 (by decide) (fun c7 => ?_) (fun c7 => ?_)
      · have hw := o_f c7 hw
        refine g_iload_n h d_D_state_185 rfl rfl ?_
        refine g_bipush (v := 33) h d_D_state_186 (by decide) ?_
        refine g_icmp_ne (tgt := 195) h d_D_state_188 (by decide) (fun c8 => ?_) (fun c8 => ?_)
        · have hw := o_f c8 hw
          refine g_iconst (v := -1) h d_D_state_195 (by decide) ?_
          exact g_iret h hQ d_D_state_196 hw
        · have hw := o_t c8 hw
          refine g_iload_n h d_D_state_191 rfl rfl ?_
          refine g_goto (tgt := 196) h d_D_state_192 (by decide) ?_
          exact g_iret h hQ d_D_state_196 hw
      · have hw := o_t c7 hw
        refine g_aload_n h d_D_state_176 rfl rfl ?_
        refine g_getR (t := 30) (i := 0) (k := 21) (C := "FlowGateModel") (T := T_D) (N := 42) h hL rfl (by decide) ob_30 (by decide) rfl (t' := 45) (i' := 0) rfl rfl (fun w hw => mc (in_D w hw)) (mc m_fl_D_57) rfl d_D_state_177 ?_
        refine g_iload_n h d_D_state_180 rfl rfl ?_
        obtain ⟨hv9, hw⟩ := o_in hw
        refine g_iald (t := 45) (i := 0) h hL rfl (by decide) rfl rfl hv9 d_D_state_181 ?_
        refine g_goto (tgt := 196) h d_D_state_182 (by decide) ?_
        exact g_iret h hQ d_D_state_196 hw
    · have hw := o_f c6 hw
      refine g_aload_n h d_D_state_98 rfl rfl ?_
      refine g_getR (t := 30) (i := 0) (k := 23) (C := "FlowGateModel") (T := T_D) (N := 42) h hL rfl (by decide) ob_30 (by decide) rfl (t' := 47) (i' := 0) rfl rfl (fun w hw => mc (in_D w hw)) (mc m_fl_D_63) rfl d_D_state_99 ?_
      refine g_iload_n h d_D_state_102 rfl rfl ?_
      obtain ⟨hv10, hw⟩ := o_in hw
      refine g_lald (t := 47) (i := 0) h hL rfl (by decide) rfl rfl hv10 d_D_state_103 ?_
      refine g_iload h d_D_state_104 rfl ?_
      refine g_lshr h d_D_state_106 ?_
      refine g_lconst (v := 1) h d_D_state_107 rfl ?_
      refine g_land h d_D_state_108 ?_
      refine g_lconst (v := 0) h d_D_state_109 rfl ?_
      refine g_lcmp h d_D_state_110 ?_
      refine g_if_ne (tgt := 117) h d_D_state_111 (by decide) (fun c11 => ?_) (fun c11 => ?_)
      · have hw := o_f c11 hw
        refine g_iload_n h d_D_state_117 rfl rfl ?_
        refine g_bipush (v := 34) h d_D_state_118 (by decide) ?_
        refine g_iload_n h d_D_state_120 rfl rfl ?_
        refine g_iadd h d_D_state_121 ?_
        refine g_icmp_ne (tgt := 134) h d_D_state_122 (by decide) (fun c12 => ?_) (fun c12 => ?_)
        · have hw := o_f c12 hw
          refine g_sub [0, 1, 2, 3, 4] rfl ?_
          exact w_D_state_b134 hL h hQ hK91 v1 v2 v3 v4 M hw
        · have hw := o_t c12 hw
          refine g_iload_n h d_D_state_125 rfl rfl ?_
          refine g_bipush (v := 6) h d_D_state_126 (by decide) ?_
          refine g_icmp_ge (tgt := 134) h d_D_state_128 (by decide) (fun c13 => ?_) (fun c13 => ?_)
          · have hw := o_t c13 hw
            refine g_sub [0, 1, 2, 3, 4] rfl ?_
            exact w_D_state_b134 hL h hQ hK91 v1 v2 v3 v4 M hw
          · have hw := o_f c13 hw
            refine g_iload h d_D_state_131 rfl ?_
            exact g_iret h hQ d_D_state_133 hw
      · have hw := o_t c11 hw
        refine g_goto (tgt := 164) h d_D_state_114 (by decide) ?_
        refine g_sub [0, 1, 2, 3, 4] rfl ?_
        exact w_D_state_b164 hL h hQ hK91 v1 v2 v3 v4 M hw
set_option maxHeartbeats 4000000 in
set_option maxRecDepth 100000 in
theorem ct_D_state {Z : ZT} (hL : Lay Z sD) (v1 : Int32) (v2 : Int32) (M : Mm)  {res : Int32 × Mm} (hw : F_D_state v1 v2 M = some res) : CtI Z y_D_state ws_D_state (({ frames := 1, cells := 0, slots := 0, locals := 22 })) [.ref (za Z 30 0), .int v1, .int v2] M res := by
  refine CtI.of hL (cc := c_D_state) (maxL := 5) (by decide) rfl (Nat.le_of_ble_eq_true rfl) (fun X h hQ => ?_)
  show G Z X M 0 [(0, .ref (za Z 30 0)), (1, .int v1), (2, .int v2)] []
  rw [F_D_state] at hw
  refine g_iload_n h d_D_state_0 rfl rfl ?_
  refine g_iconst (v := 0) h d_D_state_1 (by decide) ?_
  refine g_bipush (v := 47) h d_D_state_2 (by decide) ?_
  refine g_calli h (g_runS (rest := []) h (ct_D_in hL v1 0 47 M (p_D_in v1 0 47 M)) (cwS 3 h.2.2.2.2.1 (g_S m_ml_D_91 m_st_D_in m_in_D m_co_D_in) rfl rfl rfl (by decide +kernel) ⟨Nat.le_of_ble_eq_true rfl, Nat.le_of_ble_eq_true rfl⟩) rfl rfl (Nat.le_of_ble_eq_true rfl) d_D_state_4) ?_
  refine g_topi (fun r15 er15 => ?_)
  have hw := o_l hw r15 er15
  refine g_if_eq (tgt := 19) h d_D_state_7 (by decide) (fun c16 => ?_) (fun c16 => ?_)
  · have hw := o_t c16 hw
    refine g_iconst (v := -1) h d_D_state_19 (by decide) ?_
    exact g_iret h hQ d_D_state_20 hw
  · have hw := o_f c16 hw
    refine g_aload_n h d_D_state_10 rfl rfl ?_
    refine g_getR (t := 30) (i := 0) (k := 17) (C := "FlowGateModel") (T := T_D) (N := 42) h hL rfl (by decide) ob_30 (by decide) rfl (t' := 41) (i' := 0) rfl rfl (fun w hw => mc (in_D w hw)) (mc m_fl_D_45) rfl d_D_state_11 ?_
    refine g_iload_n h d_D_state_14 rfl rfl ?_
    obtain ⟨hv17, hw⟩ := o_in hw
    refine g_zald (t := 41) (i := 0) h hL rfl (by decide) rfl rfl hv17 d_D_state_15 ?_
    refine g_if_ne (tgt := 21) h d_D_state_16 (by decide) (fun c18 => ?_) (fun c18 => ?_)
    · have hw := o_f c18 hw
      refine g_iload_n h d_D_state_21 rfl rfl ?_
      refine g_iconst (v := 0) h d_D_state_22 (by decide) ?_
      refine g_bipush (v := 11) h d_D_state_23 (by decide) ?_
      refine g_calli h (g_runS (rest := []) h (ct_D_in hL v2 0 11 M (p_D_in v2 0 11 M)) (cwS 3 h.2.2.2.2.1 (g_S m_ml_D_91 m_st_D_in m_in_D m_co_D_in) rfl rfl rfl (by decide +kernel) ⟨Nat.le_of_ble_eq_true rfl, Nat.le_of_ble_eq_true rfl⟩) rfl rfl (Nat.le_of_ble_eq_true rfl) d_D_state_25) ?_
      refine g_topi (fun r20 er20 => ?_)
      have hw := o_l hw r20 er20
      refine g_if_eq (tgt := 43) h d_D_state_28 (by decide) (fun c21 => ?_) (fun c21 => ?_)
      · have hw := o_t c21 hw
        refine g_iload_n h d_D_state_43 rfl rfl ?_
        refine g_bipush (v := 16) h d_D_state_44 (by decide) ?_
        refine g_bipush (v := 27) h d_D_state_46 (by decide) ?_
        refine g_calli h (g_runS (rest := []) h (ct_D_in hL v2 16 27 M (p_D_in v2 16 27 M)) (cwS 3 h.2.2.2.2.1 (g_S m_ml_D_91 m_st_D_in m_in_D m_co_D_in) rfl rfl rfl (by decide +kernel) ⟨Nat.le_of_ble_eq_true rfl, Nat.le_of_ble_eq_true rfl⟩) rfl rfl (Nat.le_of_ble_eq_true rfl) d_D_state_48) ?_
        refine g_topi (fun r23 er23 => ?_)
        have hw := o_l hw r23 er23
        refine g_if_eq (tgt := 86) h d_D_state_51 (by decide) (fun c24 => ?_) (fun c24 => ?_)
        · have hw := o_t c24 hw
          refine g_iconst (v := 0) h d_D_state_86 (by decide) ?_
          refine g_istore_n (lv' := [(3, .int 0), (0, .ref (za Z 30 0)), (1, .int v1), (2, .int v2)]) h d_D_state_87 rfl (by decide) rfl ?_
          refine g_iconst (v := 0) h d_D_state_88 (by decide) ?_
          refine g_istore (lv' := [(4, .int 0), (3, .int 0), (0, .ref (za Z 30 0)), (1, .int v1), (2, .int v2)]) h d_D_state_89 (by decide) rfl ?_
          refine g_sub [2, 3, 4, 1, 0] rfl ?_
          exact w_D_state_b91 hL h hQ  fuel v1 v2 0 0 M hw
        · have hw := o_f c24 hw
          refine g_iload_n h d_D_state_54 rfl rfl ?_
          refine g_bipush (v := 16) h d_D_state_55 (by decide) ?_
          refine g_isub h d_D_state_57 ?_
          refine g_aload_n h d_D_state_58 rfl rfl ?_
          refine g_getR (t := 30) (i := 0) (k := 21) (C := "FlowGateModel") (T := T_D) (N := 42) h hL rfl (by decide) ob_30 (by decide) rfl (t' := 45) (i' := 0) rfl rfl (fun w hw => mc (in_D w hw)) (mc m_fl_D_57) rfl d_D_state_59 ?_
          refine g_iload_n h d_D_state_62 rfl rfl ?_
          obtain ⟨hv25, hw⟩ := o_in hw
          refine g_iald (t := 45) (i := 0) h hL rfl (by decide) rfl rfl hv25 d_D_state_63 ?_
          refine g_icmp_ge (tgt := 84) h d_D_state_64 (by decide) (fun c26 => ?_) (fun c26 => ?_)
          · have hw := o_t c26 hw
            refine g_iconst (v := -1) h d_D_state_84 (by decide) ?_
            exact g_iret h hQ d_D_state_85 hw
          · have hw := o_f c26 hw
            refine g_aload_n h d_D_state_67 rfl rfl ?_
            refine g_getR (t := 30) (i := 0) (k := 20) (C := "FlowGateModel") (T := T_D) (N := 42) h hL rfl (by decide) ob_30 (by decide) rfl (t' := 44) (i' := 0) rfl rfl (fun w hw => mc (in_D w hw)) (mc m_fl_D_54) rfl d_D_state_68 ?_
            refine g_bipush (v := 12) h d_D_state_71 (by decide) ?_
            refine g_iload_n h d_D_state_73 rfl rfl ?_
            refine g_imul h d_D_state_74 ?_
            refine g_iload_n h d_D_state_75 rfl rfl ?_
            refine g_iadd h d_D_state_76 ?_
            refine g_bipush (v := 16) h d_D_state_77 (by decide) ?_
            refine g_isub h d_D_state_79 ?_
            obtain ⟨hv27, hw⟩ := o_in hw
            refine g_iald (t := 44) (i := 0) h hL rfl (by decide) rfl rfl hv27 d_D_state_80 ?_
            refine g_goto (tgt := 85) h d_D_state_81 (by decide) ?_
            exact g_iret h hQ d_D_state_85 hw
      · have hw := o_f c21 hw
        refine g_aload_n h d_D_state_31 rfl rfl ?_
        refine g_getR (t := 30) (i := 0) (k := 19) (C := "FlowGateModel") (T := T_D) (N := 42) h hL rfl (by decide) ob_30 (by decide) rfl (t' := 43) (i' := 0) rfl rfl (fun w hw => mc (in_D w hw)) (mc m_fl_D_51) rfl d_D_state_32 ?_
        refine g_bipush (v := 12) h d_D_state_35 (by decide) ?_
        refine g_iload_n h d_D_state_37 rfl rfl ?_
        refine g_imul h d_D_state_38 ?_
        refine g_iload_n h d_D_state_39 rfl rfl ?_
        refine g_iadd h d_D_state_40 ?_
        obtain ⟨hv28, hw⟩ := o_in hw
        refine g_iald (t := 43) (i := 0) h hL rfl (by decide) rfl rfl hv28 d_D_state_41 ?_
        exact g_iret h hQ d_D_state_42 hw
    · have hw := o_t c18 hw
      refine g_iconst (v := -1) h d_D_state_19 (by decide) ?_
      exact g_iret h hQ d_D_state_20 hw
set_option maxHeartbeats 4000000 in
set_option maxRecDepth 100000 in
theorem w_D_join_b38 {Z : ZT} {X : XT} (hL : Lay Z sD) (h : Ok Z X "FlowGateModel" c_D_join ws_D_join 3 ({ frames := 4, cells := 0, slots := 0, locals := 92 })) {res : Int32 × Mm} (hQ : FinI Z X .int res)  (v1 : Int32) (v2 : Int32) (M : Mm)  (hw : F_D_join_b38 v1 v2 M = some res) : G Z X M 38 [(0, .ref (za Z 30 0)), (1, .int v1), (2, .int v2)] [] := by
  rw [F_D_join_b38] at hw
  refine g_aload_n h d_D_join_38 rfl rfl ?_
  refine g_iload_n h d_D_join_39 rfl rfl ?_
  refine g_iload_n h d_D_join_40 rfl rfl ?_
  obtain ⟨r3, M2, hc1, hw⟩ := o_b hw
  refine g_calli h (g_runV (rest := []) h (ct_D_joined hL v1 v2 M hc1) (cwV 2 h.2.2.2.2.1 (g_V m_ml_D_175 m_im_D_joined m_se_D_joined m_in_D m_co_D_joined) rfl rfl rfl (by decide +kernel) ⟨Nat.le_of_ble_eq_true rfl, Nat.le_of_ble_eq_true rfl⟩) (hL.recv h rfl (by decide) ob_30) rfl rfl (Nat.le_of_ble_eq_true rfl) d_D_join_41) ?_
  exact g_iret h hQ d_D_join_44 hw
set_option maxHeartbeats 4000000 in
set_option maxRecDepth 100000 in
theorem w_D_join_b17 {Z : ZT} {X : XT} (hL : Lay Z sD) (h : Ok Z X "FlowGateModel" c_D_join ws_D_join 3 ({ frames := 4, cells := 0, slots := 0, locals := 92 })) {res : Int32 × Mm} (hQ : FinI Z X .int res)  (v1 : Int32) (v2 : Int32) (M : Mm)  (hw : F_D_join_b17 v1 v2 M = some res) : G Z X M 17 [(0, .ref (za Z 30 0)), (1, .int v1), (2, .int v2)] [] := by
  rw [F_D_join_b17] at hw
  refine g_iload_n h d_D_join_17 rfl rfl ?_
  refine g_iconst (v := 0) h d_D_join_18 (by decide) ?_
  refine g_iconst (v := 5) h d_D_join_19 (by decide) ?_
  refine g_calli h (g_runS (rest := []) h (ct_D_in hL v2 0 5 M (p_D_in v2 0 5 M)) (cwS 3 h.2.2.2.2.1 (g_S m_ml_D_91 m_st_D_in m_in_D m_co_D_in) rfl rfl rfl (by decide +kernel) ⟨Nat.le_of_ble_eq_true rfl, Nat.le_of_ble_eq_true rfl⟩) rfl rfl (Nat.le_of_ble_eq_true rfl) d_D_join_20) ?_
  refine g_topi (fun r5 er5 => ?_)
  have hw := o_l hw r5 er5
  refine g_if_ne (tgt := 38) h d_D_join_23 (by decide) (fun c6 => ?_) (fun c6 => ?_)
  · have hw := o_f c6 hw
    refine g_sub [0, 1, 2] rfl ?_
    exact w_D_join_b38 hL h hQ  v1 v2 M hw
  · have hw := o_t c6 hw
    refine g_aload_n h d_D_join_26 rfl rfl ?_
    refine g_iload_n h d_D_join_27 rfl rfl ?_
    refine g_calli h (g_runV (rest := []) h (ct_D_isRef hL v2 M (p_D_isRef v2 M)) (cwV 1 h.2.2.2.2.1 (g_V m_ml_D_99 m_im_D_isRef m_se_D_isRef m_in_D m_co_D_isRef) rfl rfl rfl (by decide +kernel) ⟨Nat.le_of_ble_eq_true rfl, Nat.le_of_ble_eq_true rfl⟩) (hL.recv h rfl (by decide) ob_30) rfl rfl (Nat.le_of_ble_eq_true rfl) d_D_join_28) ?_
    refine g_topi (fun r8 er8 => ?_)
    have hw := o_l hw r8 er8
    refine g_if_ne (tgt := 38) h d_D_join_31 (by decide) (fun c9 => ?_) (fun c9 => ?_)
    · have hw := o_f c9 hw
      refine g_sub [0, 1, 2] rfl ?_
      exact w_D_join_b38 hL h hQ  v1 v2 M hw
    · have hw := o_t c9 hw
      refine g_iconst (v := -1) h d_D_join_34 (by decide) ?_
      refine g_goto (tgt := 44) h d_D_join_35 (by decide) ?_
      exact g_iret h hQ d_D_join_44 hw
set_option maxHeartbeats 4000000 in
set_option maxRecDepth 100000 in
theorem ct_D_join {Z : ZT} (hL : Lay Z sD) (v1 : Int32) (v2 : Int32) (M : Mm)  {res : Int32 × Mm} (hw : F_D_join v1 v2 M = some res) : CtI Z y_D_join ws_D_join (({ frames := 4, cells := 0, slots := 0, locals := 92 })) [.ref (za Z 30 0), .int v1, .int v2] M res := by
  refine CtI.of hL (cc := c_D_join) (maxL := 3) (by decide) rfl (Nat.le_of_ble_eq_true rfl) (fun X h hQ => ?_)
  show G Z X M 0 [(0, .ref (za Z 30 0)), (1, .int v1), (2, .int v2)] []
  rw [F_D_join] at hw
  refine g_iload_n h d_D_join_0 rfl rfl ?_
  refine g_iconst (v := 0) h d_D_join_1 (by decide) ?_
  refine g_iconst (v := 5) h d_D_join_2 (by decide) ?_
  refine g_calli h (g_runS (rest := []) h (ct_D_in hL v1 0 5 M (p_D_in v1 0 5 M)) (cwS 3 h.2.2.2.2.1 (g_S m_ml_D_91 m_st_D_in m_in_D m_co_D_in) rfl rfl rfl (by decide +kernel) ⟨Nat.le_of_ble_eq_true rfl, Nat.le_of_ble_eq_true rfl⟩) rfl rfl (Nat.le_of_ble_eq_true rfl) d_D_join_3) ?_
  refine g_topi (fun r11 er11 => ?_)
  have hw := o_l hw r11 er11
  refine g_if_ne (tgt := 17) h d_D_join_6 (by decide) (fun c12 => ?_) (fun c12 => ?_)
  · have hw := o_f c12 hw
    refine g_sub [0, 1, 2] rfl ?_
    exact w_D_join_b17 hL h hQ  v1 v2 M hw
  · have hw := o_t c12 hw
    refine g_aload_n h d_D_join_9 rfl rfl ?_
    refine g_iload_n h d_D_join_10 rfl rfl ?_
    refine g_calli h (g_runV (rest := []) h (ct_D_isRef hL v1 M (p_D_isRef v1 M)) (cwV 1 h.2.2.2.2.1 (g_V m_ml_D_99 m_im_D_isRef m_se_D_isRef m_in_D m_co_D_isRef) rfl rfl rfl (by decide +kernel) ⟨Nat.le_of_ble_eq_true rfl, Nat.le_of_ble_eq_true rfl⟩) (hL.recv h rfl (by decide) ob_30) rfl rfl (Nat.le_of_ble_eq_true rfl) d_D_join_11) ?_
    refine g_topi (fun r14 er14 => ?_)
    have hw := o_l hw r14 er14
    refine g_if_eq (tgt := 34) h d_D_join_14 (by decide) (fun c15 => ?_) (fun c15 => ?_)
    · have hw := o_t c15 hw
      refine g_iconst (v := -1) h d_D_join_34 (by decide) ?_
      refine g_goto (tgt := 44) h d_D_join_35 (by decide) ?_
      exact g_iret h hQ d_D_join_44 hw
    · have hw := o_f c15 hw
      refine g_sub [0, 1, 2] rfl ?_
      exact w_D_join_b17 hL h hQ  v1 v2 M hw
set_option maxHeartbeats 4000000 in
set_option maxRecDepth 100000 in
theorem w_D_goes_b38 {Z : ZT} {X : XT} (hL : Lay Z sD) (h : Ok Z X "FlowGateModel" c_D_goes ws_D_goes 3 ({ frames := 4, cells := 0, slots := 0, locals := 88 })) {res : Int32 × Mm} (hQ : FinI Z X .int res)  (v1 : Int32) (v2 : Int32) (M : Mm)  (hw : F_D_goes_b38 v1 v2 M = some res) : G Z X M 38 [(0, .ref (za Z 30 0)), (1, .int v1), (2, .int v2)] [] := by
  rw [F_D_goes_b38] at hw
  refine g_aload_n h d_D_goes_38 rfl rfl ?_
  refine g_iload_n h d_D_goes_39 rfl rfl ?_
  refine g_iload_n h d_D_goes_40 rfl rfl ?_
  obtain ⟨r3, M2, hc1, hw⟩ := o_b hw
  refine g_calli h (g_runV (rest := []) h (ct_D_goesFor hL v1 v2 M hc1) (cwV 2 h.2.2.2.2.1 (g_V m_ml_D_221 m_im_D_goesFor m_se_D_goesFor m_in_D m_co_D_goesFor) rfl rfl rfl (by decide +kernel) ⟨Nat.le_of_ble_eq_true rfl, Nat.le_of_ble_eq_true rfl⟩) (hL.recv h rfl (by decide) ob_30) rfl rfl (Nat.le_of_ble_eq_true rfl) d_D_goes_41) ?_
  refine g_if_eq (tgt := 51) h d_D_goes_44 (by decide) (fun c4 => ?_) (fun c4 => ?_)
  · have hw := o_t c4 hw
    refine g_iconst (v := 0) h d_D_goes_51 (by decide) ?_
    exact g_iret h hQ d_D_goes_52 hw
  · have hw := o_f c4 hw
    refine g_iconst (v := 1) h d_D_goes_47 (by decide) ?_
    refine g_goto (tgt := 52) h d_D_goes_48 (by decide) ?_
    exact g_iret h hQ d_D_goes_52 hw
set_option maxHeartbeats 4000000 in
set_option maxRecDepth 100000 in
theorem w_D_goes_b17 {Z : ZT} {X : XT} (hL : Lay Z sD) (h : Ok Z X "FlowGateModel" c_D_goes ws_D_goes 3 ({ frames := 4, cells := 0, slots := 0, locals := 88 })) {res : Int32 × Mm} (hQ : FinI Z X .int res)  (v1 : Int32) (v2 : Int32) (M : Mm)  (hw : F_D_goes_b17 v1 v2 M = some res) : G Z X M 17 [(0, .ref (za Z 30 0)), (1, .int v1), (2, .int v2)] [] := by
  rw [F_D_goes_b17] at hw
  refine g_iload_n h d_D_goes_17 rfl rfl ?_
  refine g_iconst (v := 0) h d_D_goes_18 (by decide) ?_
  refine g_iconst (v := 5) h d_D_goes_19 (by decide) ?_
  refine g_calli h (g_runS (rest := []) h (ct_D_in hL v2 0 5 M (p_D_in v2 0 5 M)) (cwS 3 h.2.2.2.2.1 (g_S m_ml_D_91 m_st_D_in m_in_D m_co_D_in) rfl rfl rfl (by decide +kernel) ⟨Nat.le_of_ble_eq_true rfl, Nat.le_of_ble_eq_true rfl⟩) rfl rfl (Nat.le_of_ble_eq_true rfl) d_D_goes_20) ?_
  refine g_topi (fun r6 er6 => ?_)
  have hw := o_l hw r6 er6
  refine g_if_ne (tgt := 38) h d_D_goes_23 (by decide) (fun c7 => ?_) (fun c7 => ?_)
  · have hw := o_f c7 hw
    refine g_sub [0, 1, 2] rfl ?_
    exact w_D_goes_b38 hL h hQ  v1 v2 M hw
  · have hw := o_t c7 hw
    refine g_aload_n h d_D_goes_26 rfl rfl ?_
    refine g_iload_n h d_D_goes_27 rfl rfl ?_
    refine g_calli h (g_runV (rest := []) h (ct_D_isRef hL v2 M (p_D_isRef v2 M)) (cwV 1 h.2.2.2.2.1 (g_V m_ml_D_99 m_im_D_isRef m_se_D_isRef m_in_D m_co_D_isRef) rfl rfl rfl (by decide +kernel) ⟨Nat.le_of_ble_eq_true rfl, Nat.le_of_ble_eq_true rfl⟩) (hL.recv h rfl (by decide) ob_30) rfl rfl (Nat.le_of_ble_eq_true rfl) d_D_goes_28) ?_
    refine g_topi (fun r9 er9 => ?_)
    have hw := o_l hw r9 er9
    refine g_if_ne (tgt := 38) h d_D_goes_31 (by decide) (fun c10 => ?_) (fun c10 => ?_)
    · have hw := o_f c10 hw
      refine g_sub [0, 1, 2] rfl ?_
      exact w_D_goes_b38 hL h hQ  v1 v2 M hw
    · have hw := o_t c10 hw
      refine g_iconst (v := -1) h d_D_goes_34 (by decide) ?_
      refine g_goto (tgt := 52) h d_D_goes_35 (by decide) ?_
      exact g_iret h hQ d_D_goes_52 hw
set_option maxHeartbeats 4000000 in
set_option maxRecDepth 100000 in
theorem ct_D_goes {Z : ZT} (hL : Lay Z sD) (v1 : Int32) (v2 : Int32) (M : Mm)  {res : Int32 × Mm} (hw : F_D_goes v1 v2 M = some res) : CtI Z y_D_goes ws_D_goes (({ frames := 4, cells := 0, slots := 0, locals := 88 })) [.ref (za Z 30 0), .int v1, .int v2] M res := by
  refine CtI.of hL (cc := c_D_goes) (maxL := 3) (by decide) rfl (Nat.le_of_ble_eq_true rfl) (fun X h hQ => ?_)
  show G Z X M 0 [(0, .ref (za Z 30 0)), (1, .int v1), (2, .int v2)] []
  rw [F_D_goes] at hw
  refine g_iload_n h d_D_goes_0 rfl rfl ?_
  refine g_iconst (v := 0) h d_D_goes_1 (by decide) ?_
  refine g_iconst (v := 5) h d_D_goes_2 (by decide) ?_
  refine g_calli h (g_runS (rest := []) h (ct_D_in hL v1 0 5 M (p_D_in v1 0 5 M)) (cwS 3 h.2.2.2.2.1 (g_S m_ml_D_91 m_st_D_in m_in_D m_co_D_in) rfl rfl rfl (by decide +kernel) ⟨Nat.le_of_ble_eq_true rfl, Nat.le_of_ble_eq_true rfl⟩) rfl rfl (Nat.le_of_ble_eq_true rfl) d_D_goes_3) ?_
  refine g_topi (fun r12 er12 => ?_)
  have hw := o_l hw r12 er12
  refine g_if_ne (tgt := 17) h d_D_goes_6 (by decide) (fun c13 => ?_) (fun c13 => ?_)
  · have hw := o_f c13 hw
    refine g_sub [0, 1, 2] rfl ?_
    exact w_D_goes_b17 hL h hQ  v1 v2 M hw
  · have hw := o_t c13 hw
    refine g_aload_n h d_D_goes_9 rfl rfl ?_
    refine g_iload_n h d_D_goes_10 rfl rfl ?_
    refine g_calli h (g_runV (rest := []) h (ct_D_isRef hL v1 M (p_D_isRef v1 M)) (cwV 1 h.2.2.2.2.1 (g_V m_ml_D_99 m_im_D_isRef m_se_D_isRef m_in_D m_co_D_isRef) rfl rfl rfl (by decide +kernel) ⟨Nat.le_of_ble_eq_true rfl, Nat.le_of_ble_eq_true rfl⟩) (hL.recv h rfl (by decide) ob_30) rfl rfl (Nat.le_of_ble_eq_true rfl) d_D_goes_11) ?_
    refine g_topi (fun r15 er15 => ?_)
    have hw := o_l hw r15 er15
    refine g_if_eq (tgt := 34) h d_D_goes_14 (by decide) (fun c16 => ?_) (fun c16 => ?_)
    · have hw := o_t c16 hw
      refine g_iconst (v := -1) h d_D_goes_34 (by decide) ?_
      refine g_goto (tgt := 52) h d_D_goes_35 (by decide) ?_
      exact g_iret h hQ d_D_goes_52 hw
    · have hw := o_f c16 hw
      refine g_sub [0, 1, 2] rfl ?_
      exact w_D_goes_b17 hL h hQ  v1 v2 M hw
