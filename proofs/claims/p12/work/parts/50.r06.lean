set_option maxHeartbeats 4000000 in
set_option maxRecDepth 100000 in
theorem w_D_back_b340 {Z : ZT} {X : XT} (hL : Lay Z sD) (h : Ok Z X "FlowGateModel" c_D_back ws_D_back 6 ({ frames := 6, cells := 0, slots := 0, locals := 138 })) {res : Mm} (hQ : FinV Z X res) {K64 : Int32 → Int32 → Int32 → Mm → Option (Mm)} (hK64 : ∀ (v1 : Int32) (v3 : Int32) (v4 : Int32) (M : Mm), K64 v1 v3 v4 M = some res → G Z X M 64 [(0, .ref (za Z 30 0)), (1, .int v1), (3, .int v3), (4, .int v4)] []) (v1 : Int32) (v3 : Int32) (v4 : Int32) (M : Mm)  (hw : F_D_back_b340 K64 v1 v3 v4 M = some res) : G Z X M 340 [(0, .ref (za Z 30 0)), (1, .int v1), (3, .int v3), (4, .int v4)] [] := by
  rw [F_D_back_b340] at hw
  refine g_iinc (n' := 1) (lw := fun y => [(4, .int y), (0, .ref (za Z 30 0)), (1, .int v1), (3, .int v3)]) h d_D_back_340 rfl (by decide) (by decide) (fun _ => rfl) (fun n1 en1 => ?_)
  have hw := o_l hw n1 en1
  refine g_goto (tgt := 64) h d_D_back_343 (by decide) ?_
  refine g_sub [1, 2, 3, 0] rfl ?_
  exact hK64 v1 v3 n1 M hw
set_option maxHeartbeats 4000000 in
set_option maxRecDepth 100000 in
theorem w_D_back_b194 {Z : ZT} {X : XT} (hL : Lay Z sD) (h : Ok Z X "FlowGateModel" c_D_back ws_D_back 6 ({ frames := 6, cells := 0, slots := 0, locals := 138 })) {res : Mm} (hQ : FinV Z X res) {K64 : Int32 → Int32 → Int32 → Mm → Option (Mm)} (hK64 : ∀ (v1 : Int32) (v3 : Int32) (v4 : Int32) (M : Mm), K64 v1 v3 v4 M = some res → G Z X M 64 [(0, .ref (za Z 30 0)), (1, .int v1), (3, .int v3), (4, .int v4)] []) {K119 : Int32 → Int32 → Int32 → Int32 → Mm → Option (Mm)} (hK119 : ∀ (v1 : Int32) (v3 : Int32) (v4 : Int32) (v5 : Int32) (M : Mm), K119 v1 v3 v4 v5 M = some res → G Z X M 119 [(0, .ref (za Z 30 0)), (1, .int v1), (3, .int v3), (4, .int v4), (5, .int v5)] []) (v1 : Int32) (v3 : Int32) (v4 : Int32) (v5 : Int32) (M : Mm)  (hw : F_D_back_b194 K64 K119 v1 v3 v4 v5 M = some res) : G Z X M 194 [(0, .ref (za Z 30 0)), (1, .int v1), (3, .int v3), (4, .int v4), (5, .int v5)] [] := by
  rw [F_D_back_b194] at hw
  refine g_iinc (n' := 1) (lw := fun y => [(5, .int y), (0, .ref (za Z 30 0)), (1, .int v1), (3, .int v3), (4, .int v4)]) h d_D_back_194 rfl (by decide) (by decide) (fun _ => rfl) (fun n2 en2 => ?_)
  have hw := o_l hw n2 en2
  refine g_goto (tgt := 119) h d_D_back_197 (by decide) ?_
  refine g_sub [1, 2, 3, 4, 0] rfl ?_
  exact hK119 v1 v3 v4 n2 M hw
set_option maxHeartbeats 4000000 in
set_option maxRecDepth 100000 in
theorem w_D_back_b170 {Z : ZT} {X : XT} (hL : Lay Z sD) (h : Ok Z X "FlowGateModel" c_D_back ws_D_back 6 ({ frames := 6, cells := 0, slots := 0, locals := 138 })) {res : Mm} (hQ : FinV Z X res) {K64 : Int32 → Int32 → Int32 → Mm → Option (Mm)} (hK64 : ∀ (v1 : Int32) (v3 : Int32) (v4 : Int32) (M : Mm), K64 v1 v3 v4 M = some res → G Z X M 64 [(0, .ref (za Z 30 0)), (1, .int v1), (3, .int v3), (4, .int v4)] []) {K119 : Int32 → Int32 → Int32 → Int32 → Mm → Option (Mm)} (hK119 : ∀ (v1 : Int32) (v3 : Int32) (v4 : Int32) (v5 : Int32) (M : Mm), K119 v1 v3 v4 v5 M = some res → G Z X M 119 [(0, .ref (za Z 30 0)), (1, .int v1), (3, .int v3), (4, .int v4), (5, .int v5)] []) (v1 : Int32) (v3 : Int32) (v4 : Int32) (v5 : Int32) (s1 : Int32) (s2 : Int32) (M : Mm)  (hw : F_D_back_b170 K64 K119 v1 v3 v4 v5 s1 s2 M = some res) : G Z X M 170 [(0, .ref (za Z 30 0)), (1, .int v1), (3, .int v3), (4, .int v4), (5, .int v5)] [.int s2, .int s1, .ref (za Z 52 0)] := by
  rw [F_D_back_b170] at hw
  obtain ⟨hv3, hw⟩ := o_in hw
  refine g_iast (t := 52) (i := 0) h hL rfl (by decide) rfl rfl hv3 d_D_back_170 ?_
  refine g_mem (fun M4 eM4 => ?_)
  have hw := o_l hw M4 eM4
  refine g_aload_n h d_D_back_171 rfl rfl ?_
  refine g_getR (t := 30) (i := 0) (k := 28) (C := "FlowGateModel") (T := T_D) (N := 42) h hL rfl (by decide) ob_30 (by decide) rfl (t' := 52) (i' := 0) rfl rfl (fun w hw => mc (in_D w hw)) (mc m_fl_D_79) rfl d_D_back_172 ?_
  refine g_iload h d_D_back_175 rfl ?_
  obtain ⟨hv5, hw⟩ := o_in hw
  refine g_iald (t := 52) (i := 0) h hL rfl (by decide) rfl rfl hv5 d_D_back_177 ?_
  refine g_sipush (v := 2000) h d_D_back_178 (by decide) ?_
  refine g_iload_n h d_D_back_181 rfl rfl ?_
  refine g_iadd h d_D_back_182 ?_
  refine g_icmp_ne (tgt := 194) h d_D_back_183 (by decide) (fun c6 => ?_) (fun c6 => ?_)
  · have hw := o_f c6 hw
    refine g_sub [0, 1, 2, 3, 4] rfl ?_
    exact w_D_back_b194 hL h hQ hK64 hK119 v1 v3 v4 v5 M4 hw
  · have hw := o_t c6 hw
    refine g_aload_n h d_D_back_186 rfl rfl ?_
    refine g_getR (t := 30) (i := 0) (k := 28) (C := "FlowGateModel") (T := T_D) (N := 42) h hL rfl (by decide) ob_30 (by decide) rfl (t' := 52) (i' := 0) rfl rfl (fun w hw => mc (in_D w hw)) (mc m_fl_D_79) rfl d_D_back_187 ?_
    refine g_iload h d_D_back_190 rfl ?_
    refine g_iconst (v := 0) h d_D_back_192 (by decide) ?_
    obtain ⟨hv7, hw⟩ := o_in hw
    refine g_iast (t := 52) (i := 0) h hL rfl (by decide) rfl rfl hv7 d_D_back_193 ?_
    refine g_mem (fun M8 eM8 => ?_)
    have hw := o_l hw M8 eM8
    refine g_sub [0, 1, 2, 3, 4] rfl ?_
    exact w_D_back_b194 hL h hQ hK64 hK119 v1 v3 v4 v5 M8 hw
set_option maxHeartbeats 4000000 in
set_option maxRecDepth 100000 in
theorem w_D_back_b244 {Z : ZT} {X : XT} (hL : Lay Z sD) (h : Ok Z X "FlowGateModel" c_D_back ws_D_back 6 ({ frames := 6, cells := 0, slots := 0, locals := 138 })) {res : Mm} (hQ : FinV Z X res) {K64 : Int32 → Int32 → Int32 → Mm → Option (Mm)} (hK64 : ∀ (v1 : Int32) (v3 : Int32) (v4 : Int32) (M : Mm), K64 v1 v3 v4 M = some res → G Z X M 64 [(0, .ref (za Z 30 0)), (1, .int v1), (3, .int v3), (4, .int v4)] []) {K203 : Int32 → Int32 → Int32 → Int32 → Mm → Option (Mm)} (hK203 : ∀ (v1 : Int32) (v3 : Int32) (v4 : Int32) (v5 : Int32) (M : Mm), K203 v1 v3 v4 v5 M = some res → G Z X M 203 [(0, .ref (za Z 30 0)), (1, .int v1), (3, .int v3), (4, .int v4), (5, .int v5)] []) (v1 : Int32) (v3 : Int32) (v4 : Int32) (v5 : Int32) (s1 : Int32) (s2 : Int32) (M : Mm)  (hw : F_D_back_b244 K64 K203 v1 v3 v4 v5 s1 s2 M = some res) : G Z X M 244 [(0, .ref (za Z 30 0)), (1, .int v1), (3, .int v3), (4, .int v4), (5, .int v5)] [.int s2, .int s1, .ref (za Z 53 0)] := by
  rw [F_D_back_b244] at hw
  obtain ⟨hv9, hw⟩ := o_in hw
  refine g_iast (t := 53) (i := 0) h hL rfl (by decide) rfl rfl hv9 d_D_back_244 ?_
  refine g_mem (fun M10 eM10 => ?_)
  have hw := o_l hw M10 eM10
  refine g_iinc (n' := 1) (lw := fun y => [(5, .int y), (0, .ref (za Z 30 0)), (1, .int v1), (3, .int v3), (4, .int v4)]) h d_D_back_245 rfl (by decide) (by decide) (fun _ => rfl) (fun n11 en11 => ?_)
  have hw := o_l hw n11 en11
  refine g_goto (tgt := 203) h d_D_back_248 (by decide) ?_
  refine g_sub [1, 2, 3, 4, 0] rfl ?_
  exact hK203 v1 v3 v4 n11 M10 hw
set_option maxHeartbeats 4000000 in
set_option maxRecDepth 100000 in
theorem w_D_back_b324 {Z : ZT} {X : XT} (hL : Lay Z sD) (h : Ok Z X "FlowGateModel" c_D_back ws_D_back 6 ({ frames := 6, cells := 0, slots := 0, locals := 138 })) {res : Mm} (hQ : FinV Z X res) {K64 : Int32 → Int32 → Int32 → Mm → Option (Mm)} (hK64 : ∀ (v1 : Int32) (v3 : Int32) (v4 : Int32) (M : Mm), K64 v1 v3 v4 M = some res → G Z X M 64 [(0, .ref (za Z 30 0)), (1, .int v1), (3, .int v3), (4, .int v4)] []) {K273 : Int32 → Int32 → Int32 → Int32 → Mm → Option (Mm)} (hK273 : ∀ (v1 : Int32) (v3 : Int32) (v4 : Int32) (v5 : Int32) (M : Mm), K273 v1 v3 v4 v5 M = some res → G Z X M 273 [(0, .ref (za Z 30 0)), (1, .int v1), (3, .int v3), (4, .int v4), (5, .int v5)] []) (v1 : Int32) (v3 : Int32) (v4 : Int32) (v5 : Int32) (s1 : Int32) (s2 : Int32) (M : Mm)  (hw : F_D_back_b324 K64 K273 v1 v3 v4 v5 s1 s2 M = some res) : G Z X M 324 [(0, .ref (za Z 30 0)), (1, .int v1), (3, .int v3), (4, .int v4), (5, .int v5)] [.int s2, .int s1, .ref (za Z 54 0)] := by
  rw [F_D_back_b324] at hw
  obtain ⟨hv12, hw⟩ := o_in hw
  refine g_iast (t := 54) (i := 0) h hL rfl (by decide) rfl rfl hv12 d_D_back_324 ?_
  refine g_mem (fun M13 eM13 => ?_)
  have hw := o_l hw M13 eM13
  refine g_iinc (n' := 1) (lw := fun y => [(5, .int y), (0, .ref (za Z 30 0)), (1, .int v1), (3, .int v3), (4, .int v4)]) h d_D_back_325 rfl (by decide) (by decide) (fun _ => rfl) (fun n14 en14 => ?_)
  have hw := o_l hw n14 en14
  refine g_goto (tgt := 273) h d_D_back_328 (by decide) ?_
  refine g_sub [1, 2, 3, 4, 0] rfl ?_
  exact hK273 v1 v3 v4 n14 M13 hw
set_option maxHeartbeats 4000000 in
set_option maxRecDepth 100000 in
theorem w_D_back_b273 {Z : ZT} {X : XT} (hL : Lay Z sD) (h : Ok Z X "FlowGateModel" c_D_back ws_D_back 6 ({ frames := 6, cells := 0, slots := 0, locals := 138 })) {res : Mm} (hQ : FinV Z X res) {K64 : Int32 → Int32 → Int32 → Mm → Option (Mm)} (hK64 : ∀ (v1 : Int32) (v3 : Int32) (v4 : Int32) (M : Mm), K64 v1 v3 v4 M = some res → G Z X M 64 [(0, .ref (za Z 30 0)), (1, .int v1), (3, .int v3), (4, .int v4)] []) : ∀ (n : Nat) (v1 : Int32) (v3 : Int32) (v4 : Int32) (v5 : Int32) (M : Mm), F_D_back_b273 K64 n v1 v3 v4 v5 M = some res → G Z X M 273 [(0, .ref (za Z 30 0)), (1, .int v1), (3, .int v3), (4, .int v4), (5, .int v5)] [] := by
  intro n
  induction n with
  | zero =>
    intro v1 v3 v4 v5 M hw
    cases hw
  | succ n hK273 =>
    intro v1 v3 v4 v5 M hw
    rw [F_D_back_b273] at hw
    refine g_iload h d_D_back_273 rfl ?_
    refine g_bipush (v := 48) h d_D_back_275 (by decide) ?_
    refine g_icmp_ge (tgt := 331) h d_D_back_277 (by decide) (fun c15 => ?_) (fun c15 => ?_)
    · have hw := o_t c15 hw
      refine g_aload_n h d_D_back_331 rfl rfl ?_
      refine g_iload_n h d_D_back_332 rfl rfl ?_
      refine g_iload h d_D_back_333 rfl ?_
      refine g_iconst (v := 1) h d_D_back_335 (by decide) ?_
      refine g_iadd h d_D_back_336 ?_
      obtain ⟨M17, hc16, hw⟩ := o_v hw
      refine g_callv h (g_runV (rest := []) h (ct_D_go hL v1 (v4 + 1) M hc16) (cwV 2 h.2.2.2.2.1 (g_V m_ml_D_211 m_im_D_go m_se_D_go m_in_D m_co_D_go) rfl rfl rfl (by decide +kernel) ⟨Nat.le_of_ble_eq_true rfl, Nat.le_of_ble_eq_true rfl⟩) (hL.recv h rfl (by decide) ob_30) rfl rfl (Nat.le_of_ble_eq_true rfl) d_D_back_337) ?_
      refine g_sub [0, 1, 2, 3] rfl ?_
      exact w_D_back_b340 hL h hQ hK64 v1 v3 v4 M17 hw
    · have hw := o_f c15 hw
      refine g_aload_n h d_D_back_280 rfl rfl ?_
      refine g_getR (t := 30) (i := 0) (k := 30) (C := "FlowGateModel") (T := T_D) (N := 42) h hL rfl (by decide) ob_30 (by decide) rfl (t' := 54) (i' := 0) rfl rfl (fun w hw => mc (in_D w hw)) (mc m_fl_D_85) rfl d_D_back_281 ?_
      refine g_iload h d_D_back_284 rfl ?_
      refine g_aload_n h d_D_back_286 rfl rfl ?_
      refine g_getL (t := 30) (i := 0) (k := 40) (C := "FlowGateModel") (T := T_D) (N := 42) h hL rfl (by decide) ob_30 (by decide) rfl (fun w hw => mc (in_D w hw)) (mc m_fl_D_169) rfl d_D_back_287 ?_
      refine g_iload h d_D_back_290 rfl ?_
      refine g_lshr h d_D_back_292 ?_
      refine g_lconst (v := 1) h d_D_back_293 rfl ?_
      refine g_land h d_D_back_294 ?_
      refine g_lconst (v := 1) h d_D_back_295 rfl ?_
      refine g_lcmp h d_D_back_296 ?_
      refine g_if_ne (tgt := 323) h d_D_back_297 (by decide) (fun c18 => ?_) (fun c18 => ?_)
      · have hw := o_f c18 hw
        refine g_iconst (v := 0) h d_D_back_323 (by decide) ?_
        refine g_sub [0, 1, 2, 3, 4] rfl ?_
        exact w_D_back_b324 hL h hQ hK64 hK273 v1 v3 v4 v5 v5 0 M hw
      · have hw := o_t c18 hw
        refine g_aload_n h d_D_back_300 rfl rfl ?_
        refine g_getR (t := 30) (i := 0) (k := 22) (C := "FlowGateModel") (T := T_D) (N := 42) h hL rfl (by decide) ob_30 (by decide) rfl (t' := 46) (i' := 0) rfl rfl (fun w hw => mc (in_D w hw)) (mc m_fl_D_60) rfl d_D_back_301 ?_
        refine g_bipush (v := 48) h d_D_back_304 (by decide) ?_
        refine g_iload h d_D_back_306 rfl ?_
        refine g_imul h d_D_back_308 ?_
        refine g_iload h d_D_back_309 rfl ?_
        refine g_iadd h d_D_back_311 ?_
        obtain ⟨hv19, hw⟩ := o_in hw
        refine g_iald (t := 46) (i := 0) h hL rfl (by decide) rfl rfl hv19 d_D_back_312 ?_
        refine g_aload_n h d_D_back_313 rfl rfl ?_
        refine g_getR (t := 30) (i := 0) (k := 27) (C := "FlowGateModel") (T := T_D) (N := 42) h hL rfl (by decide) ob_30 (by decide) rfl (t' := 51) (i' := 0) rfl rfl (fun w hw => mc (in_D w hw)) (mc m_fl_D_76) rfl d_D_back_314 ?_
        refine g_iload_n h d_D_back_317 rfl rfl ?_
        obtain ⟨hv20, hw⟩ := o_in hw
        refine g_iald (t := 51) (i := 0) h hL rfl (by decide) rfl rfl hv20 d_D_back_318 ?_
        refine g_ior h d_D_back_319 ?_
        refine g_goto (tgt := 324) h d_D_back_320 (by decide) ?_
        refine g_sub [0, 1, 2, 3, 4] rfl ?_
        exact w_D_back_b324 hL h hQ hK64 hK273 v1 v3 v4 v5 v5 ((M.1 46 0 ((48 : Int32) * v4 + v5 : Int32).toNatClampNeg) ||| (M.1 51 0 (v3 : Int32).toNatClampNeg)) M hw
set_option maxHeartbeats 4000000 in
set_option maxRecDepth 100000 in
theorem w_D_back_b203 {Z : ZT} {X : XT} (hL : Lay Z sD) (h : Ok Z X "FlowGateModel" c_D_back ws_D_back 6 ({ frames := 6, cells := 0, slots := 0, locals := 138 })) {res : Mm} (hQ : FinV Z X res) {K64 : Int32 → Int32 → Int32 → Mm → Option (Mm)} (hK64 : ∀ (v1 : Int32) (v3 : Int32) (v4 : Int32) (M : Mm), K64 v1 v3 v4 M = some res → G Z X M 64 [(0, .ref (za Z 30 0)), (1, .int v1), (3, .int v3), (4, .int v4)] []) : ∀ (n : Nat) (v1 : Int32) (v3 : Int32) (v4 : Int32) (v5 : Int32) (M : Mm), F_D_back_b203 K64 n v1 v3 v4 v5 M = some res → G Z X M 203 [(0, .ref (za Z 30 0)), (1, .int v1), (3, .int v3), (4, .int v4), (5, .int v5)] [] := by
  intro n
  induction n with
  | zero =>
    intro v1 v3 v4 v5 M hw
    cases hw
  | succ n hK203 =>
    intro v1 v3 v4 v5 M hw
    rw [F_D_back_b203] at hw
    refine g_iload h d_D_back_203 rfl ?_
    refine g_aload_n h d_D_back_205 rfl rfl ?_
    refine g_getI (t := 30) (i := 0) (k := 31) (C := "FlowGateModel") (T := T_D) (N := 42) h hL rfl (by decide) ob_30 (by decide) rfl (fun w hw => mc (in_D w hw)) (mc m_fl_D_183) rfl d_D_back_206 ?_
    refine g_icmp_ge (tgt := 251) h d_D_back_209 (by decide) (fun c21 => ?_) (fun c21 => ?_)
    · have hw := o_t c21 hw
      refine g_aload_n h d_D_back_251 rfl rfl ?_
      refine g_aload_n h d_D_back_252 rfl rfl ?_
      refine g_getI (t := 30) (i := 0) (k := 31) (C := "FlowGateModel") (T := T_D) (N := 42) h hL rfl (by decide) ob_30 (by decide) rfl (fun w hw => mc (in_D w hw)) (mc m_fl_D_183) rfl d_D_back_253 ?_
      refine g_putI (t := 30) (i := 0) (k := 33) (C := "FlowGateModel") (T := T_D) (N := 42) h hL rfl (by decide) ob_30 (by decide) rfl (fun w hw => mc (in_D w hw)) ty_D ty_D_ok nm_D (mc m_fl_D_166) rfl rfl rfl d_D_back_256 ?_
      refine g_mem (fun M22 eM22 => ?_)
      have hw := o_l hw M22 eM22
      refine g_aload_n h d_D_back_259 rfl rfl ?_
      refine g_aload_n h d_D_back_260 rfl rfl ?_
      refine g_getR (t := 30) (i := 0) (k := 23) (C := "FlowGateModel") (T := T_D) (N := 42) h hL rfl (by decide) ob_30 (by decide) rfl (t' := 47) (i' := 0) rfl rfl (fun w hw => mc (in_D w hw)) (mc m_fl_D_63) rfl d_D_back_261 ?_
      refine g_iload h d_D_back_264 rfl ?_
      obtain ⟨hv23, hw⟩ := o_in hw
      refine g_lald (t := 47) (i := 0) h hL rfl (by decide) rfl rfl hv23 d_D_back_266 ?_
      refine g_putL (t := 30) (i := 0) (k := 40) (C := "FlowGateModel") (T := T_D) (N := 42) h hL rfl (by decide) ob_30 (by decide) rfl (fun w hw => mc (in_D w hw)) ty_D ty_D_ok nm_D (mc m_fl_D_169) rfl rfl rfl d_D_back_267 ?_
      refine g_mem (fun M24 eM24 => ?_)
      have hw := o_l hw M24 eM24
      refine g_iconst (v := 0) h d_D_back_270 (by decide) ?_
      refine g_istore (lv' := [(5, .int 0), (0, .ref (za Z 30 0)), (1, .int v1), (3, .int v3), (4, .int v4)]) h d_D_back_271 (by decide) rfl ?_
      refine g_sub [1, 2, 3, 4, 0] rfl ?_
      exact w_D_back_b273 hL h hQ hK64 fuel v1 v3 v4 0 M24 hw
    · have hw := o_f c21 hw
      refine g_aload_n h d_D_back_212 rfl rfl ?_
      refine g_getR (t := 30) (i := 0) (k := 29) (C := "FlowGateModel") (T := T_D) (N := 42) h hL rfl (by decide) ob_30 (by decide) rfl (t' := 53) (i' := 0) rfl rfl (fun w hw => mc (in_D w hw)) (mc m_fl_D_82) rfl d_D_back_213 ?_
      refine g_iload h d_D_back_216 rfl ?_
      refine g_aload_n h d_D_back_218 rfl rfl ?_
      refine g_getR (t := 30) (i := 0) (k := 26) (C := "FlowGateModel") (T := T_D) (N := 42) h hL rfl (by decide) ob_30 (by decide) rfl (t' := 50) (i' := 0) rfl rfl (fun w hw => mc (in_D w hw)) (mc m_fl_D_73) rfl d_D_back_219 ?_
      refine g_iload h d_D_back_222 rfl ?_
      obtain ⟨hv25, hw⟩ := o_in hw
      refine g_iald (t := 50) (i := 0) h hL rfl (by decide) rfl rfl hv25 d_D_back_224 ?_
      refine g_sipush (v := 2000) h d_D_back_225 (by decide) ?_
      refine g_iload_n h d_D_back_228 rfl rfl ?_
      refine g_iadd h d_D_back_229 ?_
      refine g_icmp_ne (tgt := 237) h d_D_back_230 (by decide) (fun c26 => ?_) (fun c26 => ?_)
      · have hw := o_f c26 hw
        refine g_aload_n h d_D_back_237 rfl rfl ?_
        refine g_getR (t := 30) (i := 0) (k := 26) (C := "FlowGateModel") (T := T_D) (N := 42) h hL rfl (by decide) ob_30 (by decide) rfl (t' := 50) (i' := 0) rfl rfl (fun w hw => mc (in_D w hw)) (mc m_fl_D_73) rfl d_D_back_238 ?_
        refine g_iload h d_D_back_241 rfl ?_
        obtain ⟨hv27, hw⟩ := o_in hw
        refine g_iald (t := 50) (i := 0) h hL rfl (by decide) rfl rfl hv27 d_D_back_243 ?_
        refine g_sub [0, 1, 2, 3, 4] rfl ?_
        exact w_D_back_b244 hL h hQ hK64 hK203 v1 v3 v4 v5 v5 (M.1 50 0 (v5 : Int32).toNatClampNeg) M hw
      · have hw := o_t c26 hw
        refine g_iconst (v := 0) h d_D_back_233 (by decide) ?_
        refine g_goto (tgt := 244) h d_D_back_234 (by decide) ?_
        refine g_sub [0, 1, 2, 3, 4] rfl ?_
        exact w_D_back_b244 hL h hQ hK64 hK203 v1 v3 v4 v5 v5 0 M hw
set_option maxHeartbeats 4000000 in
set_option maxRecDepth 100000 in
theorem w_D_back_b119 {Z : ZT} {X : XT} (hL : Lay Z sD) (h : Ok Z X "FlowGateModel" c_D_back ws_D_back 6 ({ frames := 6, cells := 0, slots := 0, locals := 138 })) {res : Mm} (hQ : FinV Z X res) {K64 : Int32 → Int32 → Int32 → Mm → Option (Mm)} (hK64 : ∀ (v1 : Int32) (v3 : Int32) (v4 : Int32) (M : Mm), K64 v1 v3 v4 M = some res → G Z X M 64 [(0, .ref (za Z 30 0)), (1, .int v1), (3, .int v3), (4, .int v4)] []) : ∀ (n : Nat) (v1 : Int32) (v3 : Int32) (v4 : Int32) (v5 : Int32) (M : Mm), F_D_back_b119 K64 n v1 v3 v4 v5 M = some res → G Z X M 119 [(0, .ref (za Z 30 0)), (1, .int v1), (3, .int v3), (4, .int v4), (5, .int v5)] [] := by
  intro n
  induction n with
  | zero =>
    intro v1 v3 v4 v5 M hw
    cases hw
  | succ n hK119 =>
    intro v1 v3 v4 v5 M hw
    rw [F_D_back_b119] at hw
    refine g_iload h d_D_back_119 rfl ?_
    refine g_bipush (v := 12) h d_D_back_121 (by decide) ?_
    refine g_icmp_ge (tgt := 200) h d_D_back_123 (by decide) (fun c28 => ?_) (fun c28 => ?_)
    · have hw := o_t c28 hw
      refine g_iconst (v := 0) h d_D_back_200 (by decide) ?_
      refine g_istore (lv' := [(5, .int 0), (0, .ref (za Z 30 0)), (1, .int v1), (3, .int v3), (4, .int v4)]) h d_D_back_201 (by decide) rfl ?_
      refine g_sub [1, 2, 3, 4, 0] rfl ?_
      exact w_D_back_b203 hL h hQ hK64 fuel v1 v3 v4 0 M hw
    · have hw := o_f c28 hw
      refine g_aload_n h d_D_back_126 rfl rfl ?_
      refine g_getR (t := 30) (i := 0) (k := 28) (C := "FlowGateModel") (T := T_D) (N := 42) h hL rfl (by decide) ob_30 (by decide) rfl (t' := 52) (i' := 0) rfl rfl (fun w hw => mc (in_D w hw)) (mc m_fl_D_79) rfl d_D_back_127 ?_
      refine g_iload h d_D_back_130 rfl ?_
      refine g_aload_n h d_D_back_132 rfl rfl ?_
      refine g_getR (t := 30) (i := 0) (k := 27) (C := "FlowGateModel") (T := T_D) (N := 42) h hL rfl (by decide) ob_30 (by decide) rfl (t' := 51) (i' := 0) rfl rfl (fun w hw => mc (in_D w hw)) (mc m_fl_D_76) rfl d_D_back_133 ?_
      refine g_iload_n h d_D_back_136 rfl rfl ?_
      obtain ⟨hv29, hw⟩ := o_in hw
      refine g_iald (t := 51) (i := 0) h hL rfl (by decide) rfl rfl hv29 d_D_back_137 ?_
      refine g_iload h d_D_back_138 rfl ?_
      refine g_ishr h d_D_back_140 ?_
      refine g_iconst (v := 1) h d_D_back_141 (by decide) ?_
      refine g_iand h d_D_back_142 ?_
      refine g_iconst (v := 1) h d_D_back_143 (by decide) ?_
      refine g_icmp_ne (tgt := 157) h d_D_back_144 (by decide) (fun c30 => ?_) (fun c30 => ?_)
      · have hw := o_f c30 hw
        refine g_aload_n h d_D_back_157 rfl rfl ?_
        refine g_getR (t := 30) (i := 0) (k := 19) (C := "FlowGateModel") (T := T_D) (N := 42) h hL rfl (by decide) ob_30 (by decide) rfl (t' := 43) (i' := 0) rfl rfl (fun w hw => mc (in_D w hw)) (mc m_fl_D_51) rfl d_D_back_158 ?_
        refine g_bipush (v := 12) h d_D_back_161 (by decide) ?_
        refine g_iload h d_D_back_163 rfl ?_
        refine g_imul h d_D_back_165 ?_
        refine g_iload h d_D_back_166 rfl ?_
        refine g_iadd h d_D_back_168 ?_
        obtain ⟨hv31, hw⟩ := o_in hw
        refine g_iald (t := 43) (i := 0) h hL rfl (by decide) rfl rfl hv31 d_D_back_169 ?_
        refine g_sub [0, 1, 2, 3, 4] rfl ?_
        exact w_D_back_b170 hL h hQ hK64 hK119 v1 v3 v4 v5 v5 (M.1 43 0 ((12 : Int32) * v4 + v5 : Int32).toNatClampNeg) M hw
      · have hw := o_t c30 hw
        refine g_aload_n h d_D_back_147 rfl rfl ?_
        refine g_getR (t := 30) (i := 0) (k := 25) (C := "FlowGateModel") (T := T_D) (N := 42) h hL rfl (by decide) ob_30 (by decide) rfl (t' := 49) (i' := 0) rfl rfl (fun w hw => mc (in_D w hw)) (mc m_fl_D_70) rfl d_D_back_148 ?_
        refine g_iload h d_D_back_151 rfl ?_
        obtain ⟨hv32, hw⟩ := o_in hw
        refine g_iald (t := 49) (i := 0) h hL rfl (by decide) rfl rfl hv32 d_D_back_153 ?_
        refine g_goto (tgt := 170) h d_D_back_154 (by decide) ?_
        refine g_sub [0, 1, 2, 3, 4] rfl ?_
        exact w_D_back_b170 hL h hQ hK64 hK119 v1 v3 v4 v5 v5 (M.1 49 0 (v5 : Int32).toNatClampNeg) M hw
set_option maxHeartbeats 4000000 in
set_option maxRecDepth 100000 in
theorem w_D_back_b64 {Z : ZT} {X : XT} (hL : Lay Z sD) (h : Ok Z X "FlowGateModel" c_D_back ws_D_back 6 ({ frames := 6, cells := 0, slots := 0, locals := 138 })) {res : Mm} (hQ : FinV Z X res)  : ∀ (n : Nat) (v1 : Int32) (v3 : Int32) (v4 : Int32) (M : Mm), F_D_back_b64  n v1 v3 v4 M = some res → G Z X M 64 [(0, .ref (za Z 30 0)), (1, .int v1), (3, .int v3), (4, .int v4)] [] := by
  intro n
  induction n with
  | zero =>
    intro v1 v3 v4 M hw
    cases hw
  | succ n hK64 =>
    intro v1 v3 v4 M hw
    rw [F_D_back_b64] at hw
    refine g_iload h d_D_back_64 rfl ?_
    refine g_aload_n h d_D_back_66 rfl rfl ?_
    refine g_getI (t := 30) (i := 0) (k := 11) (C := "FlowGateModel") (T := T_D) (N := 42) h hL rfl (by decide) ob_30 (by decide) rfl (fun w hw => mc (in_D w hw)) (mc m_fl_D_118) rfl d_D_back_67 ?_
    refine g_icmp_ge (tgt := 346) h d_D_back_70 (by decide) (fun c33 => ?_) (fun c33 => ?_)
    · have hw := o_t c33 hw
      exact g_vret h hQ d_D_back_346 hw
    · have hw := o_f c33 hw
      refine g_aload_n h d_D_back_73 rfl rfl ?_
      refine g_getI (t := 30) (i := 0) (k := 34) (C := "FlowGateModel") (T := T_D) (N := 42) h hL rfl (by decide) ob_30 (by decide) rfl (fun w hw => mc (in_D w hw)) (mc m_fl_D_130) rfl d_D_back_74 ?_
      refine g_if_ne (tgt := 346) h d_D_back_77 (by decide) (fun c34 => ?_) (fun c34 => ?_)
      · have hw := o_f c34 hw
        exact g_vret h hQ d_D_back_346 hw
      · have hw := o_t c34 hw
        refine g_aload_n h d_D_back_80 rfl rfl ?_
        refine g_getR (t := 30) (i := 0) (k := 3) (C := "FlowGateModel") (T := T_D) (N := 42) h hL rfl (by decide) ob_30 (by decide) rfl (t' := 33) (i' := 0) rfl rfl (fun w hw => mc (in_D w hw)) (mc m_fl_D_21) rfl d_D_back_81 ?_
        refine g_iload h d_D_back_84 rfl ?_
        obtain ⟨hv35, hw⟩ := o_in hw
        refine g_iald (t := 33) (i := 0) h hL rfl (by decide) rfl rfl hv35 d_D_back_86 ?_
        refine g_bipush (v := 15) h d_D_back_87 (by decide) ?_
        refine g_icmp_ne (tgt := 340) h d_D_back_89 (by decide) (fun c36 => ?_) (fun c36 => ?_)
        · have hw := o_f c36 hw
          refine g_sub [0, 1, 2, 3] rfl ?_
          exact w_D_back_b340 hL h hQ hK64 v1 v3 v4 M hw
        · have hw := o_t c36 hw
          refine g_aload_n h d_D_back_92 rfl rfl ?_
          refine g_getR (t := 30) (i := 0) (k := 5) (C := "FlowGateModel") (T := T_D) (N := 42) h hL rfl (by decide) ob_30 (by decide) rfl (t' := 35) (i' := 0) rfl rfl (fun w hw => mc (in_D w hw)) (mc m_fl_D_27) rfl d_D_back_93 ?_
          refine g_iload h d_D_back_96 rfl ?_
          obtain ⟨hv37, hw⟩ := o_in hw
          refine g_iald (t := 35) (i := 0) h hL rfl (by decide) rfl rfl hv37 d_D_back_98 ?_
          refine g_iload_n h d_D_back_99 rfl rfl ?_
          refine g_icmp_ne (tgt := 340) h d_D_back_100 (by decide) (fun c38 => ?_) (fun c38 => ?_)
          · have hw := o_f c38 hw
            refine g_sub [0, 1, 2, 3] rfl ?_
            exact w_D_back_b340 hL h hQ hK64 v1 v3 v4 M hw
          · have hw := o_t c38 hw
            refine g_aload_n h d_D_back_103 rfl rfl ?_
            refine g_getR (t := 30) (i := 0) (k := 17) (C := "FlowGateModel") (T := T_D) (N := 42) h hL rfl (by decide) ob_30 (by decide) rfl (t' := 41) (i' := 0) rfl rfl (fun w hw => mc (in_D w hw)) (mc m_fl_D_45) rfl d_D_back_104 ?_
            refine g_iload h d_D_back_107 rfl ?_
            obtain ⟨hv39, hw⟩ := o_in hw
            refine g_zald (t := 41) (i := 0) h hL rfl (by decide) rfl rfl hv39 d_D_back_109 ?_
            refine g_if_ne (tgt := 116) h d_D_back_110 (by decide) (fun c40 => ?_) (fun c40 => ?_)
            · have hw := o_f c40 hw
              refine g_iconst (v := 0) h d_D_back_116 (by decide) ?_
              refine g_istore (lv' := [(5, .int 0), (0, .ref (za Z 30 0)), (1, .int v1), (3, .int v3), (4, .int v4)]) h d_D_back_117 (by decide) rfl ?_
              refine g_sub [1, 2, 3, 4, 0] rfl ?_
              exact w_D_back_b119 hL h hQ hK64 fuel v1 v3 v4 0 M hw
            · have hw := o_t c40 hw
              refine g_goto (tgt := 340) h d_D_back_113 (by decide) ?_
              refine g_sub [0, 1, 2, 3] rfl ?_
              exact w_D_back_b340 hL h hQ hK64 v1 v3 v4 M hw
set_option maxHeartbeats 4000000 in
set_option maxRecDepth 100000 in
theorem ct_D_back {Z : ZT} (hL : Lay Z sD) (v1 : Int32) (v2 : Int32) (M : Mm)  {res : Mm} (hw : F_D_back v1 v2 M = some res) : CtV Z y_D_back ws_D_back (({ frames := 6, cells := 0, slots := 0, locals := 138 })) [.ref (za Z 30 0), .int v1, .int v2] M res := by
  refine CtV.of hL (cc := c_D_back) (maxL := 6) (by decide) rfl (Nat.le_of_ble_eq_true rfl) (fun X h hQ => ?_)
  show G Z X M 0 [(0, .ref (za Z 30 0)), (1, .int v1), (2, .int v2)] []
  rw [F_D_back] at hw
  refine g_aload_n h d_D_back_0 rfl rfl ?_
  refine g_getR (t := 30) (i := 0) (k := 25) (C := "FlowGateModel") (T := T_D) (N := 42) h hL rfl (by decide) ob_30 (by decide) rfl (t' := 49) (i' := 0) rfl rfl (fun w hw => mc (in_D w hw)) (mc m_fl_D_70) rfl d_D_back_1 ?_
  refine g_iload_n h d_D_back_4 rfl rfl ?_
  obtain ⟨hv41, hw⟩ := o_in hw
  refine g_iald (t := 49) (i := 0) h hL rfl (by decide) rfl rfl hv41 d_D_back_5 ?_
  refine g_sipush (v := 2000) h d_D_back_6 (by decide) ?_
  refine g_isub h d_D_back_9 ?_
  refine g_topi (fun n42 en42 => ?_)
  have hw := o_l hw n42 en42
  refine g_istore_n (lv' := [(3, .int n42), (0, .ref (za Z 30 0)), (1, .int v1), (2, .int v2)]) h d_D_back_10 rfl (by decide) rfl ?_
  refine g_iload_n h d_D_back_11 rfl rfl ?_
  refine g_if_ge (tgt := 22) h d_D_back_12 (by decide) (fun c43 => ?_) (fun c43 => ?_)
  · have hw := o_t c43 hw
    refine g_aload_n h d_D_back_22 rfl rfl ?_
    refine g_getL (t := 30) (i := 0) (k := 39) (C := "FlowGateModel") (T := T_D) (N := 42) h hL rfl (by decide) ob_30 (by decide) rfl (fun w hw => mc (in_D w hw)) (mc m_fl_D_186) rfl d_D_back_23 ?_
    refine g_iload_n h d_D_back_26 rfl rfl ?_
    refine g_lshr h d_D_back_27 ?_
    refine g_lconst (v := 1) h d_D_back_28 rfl ?_
    refine g_land h d_D_back_29 ?_
    refine g_lconst (v := 0) h d_D_back_30 rfl ?_
    refine g_lcmp h d_D_back_31 ?_
    refine g_if_ne (tgt := 43) h d_D_back_32 (by decide) (fun c44 => ?_) (fun c44 => ?_)
    · have hw := o_f c44 hw
      refine g_aload_n h d_D_back_43 rfl rfl ?_
      refine g_iload_n h d_D_back_44 rfl rfl ?_
      refine g_iconst (v := 0) h d_D_back_45 (by decide) ?_
      obtain ⟨M46, hc45, hw⟩ := o_v hw
      refine g_callv h (g_runV (rest := []) h (ct_D_touches hL v2 0 M hc45) (cwV 2 h.2.2.2.2.1 (g_V m_ml_D_230 m_im_D_touches m_se_D_touches m_in_D m_co_D_touches) rfl rfl rfl (by decide +kernel) ⟨Nat.le_of_ble_eq_true rfl, Nat.le_of_ble_eq_true rfl⟩) (hL.recv h rfl (by decide) ob_30) rfl rfl (Nat.le_of_ble_eq_true rfl) d_D_back_46) ?_
      refine g_aload_n h d_D_back_49 rfl rfl ?_
      refine g_getR (t := 30) (i := 0) (k := 24) (C := "FlowGateModel") (T := T_D) (N := 42) h hL rfl (by decide) ob_30 (by decide) rfl (t' := 48) (i' := 0) rfl rfl (fun w hw => mc (in_D w hw)) (mc m_fl_D_67) rfl d_D_back_50 ?_
      refine g_iload_n h d_D_back_53 rfl rfl ?_
      refine g_dup2_11 h d_D_back_54 rfl rfl ?_
      obtain ⟨hv47, hw⟩ := o_in hw
      refine g_lald (t := 48) (i := 0) h hL rfl (by decide) rfl rfl hv47 d_D_back_55 ?_
      refine g_lconst (v := 1) h d_D_back_56 rfl ?_
      refine g_iload_n h d_D_back_57 rfl rfl ?_
      refine g_lshl h d_D_back_58 ?_
      refine g_lor h d_D_back_59 ?_
      obtain ⟨hv48, hw⟩ := o_in hw
      refine g_last (t := 48) (i := 0) h hL rfl (by decide) rfl rfl hv48 d_D_back_60 ?_
      refine g_mem (fun M49 eM49 => ?_)
      have hw := o_l hw M49 eM49
      refine g_iconst (v := 0) h d_D_back_61 (by decide) ?_
      refine g_istore (lv' := [(4, .int 0), (3, .int n42), (0, .ref (za Z 30 0)), (1, .int v1), (2, .int v2)]) h d_D_back_62 (by decide) rfl ?_
      refine g_sub [2, 3, 1, 0] rfl ?_
      exact w_D_back_b64 hL h hQ  fuel v1 n42 0 M49 hw
    · have hw := o_t c44 hw
      refine g_aload_n h d_D_back_35 rfl rfl ?_
      refine g_bipush (v := 7) h d_D_back_36 (by decide) ?_
      refine g_iload_n h d_D_back_38 rfl rfl ?_
      obtain ⟨M51, hc50, hw⟩ := o_v hw
      refine g_callv h (g_runV (rest := []) h (ct_D_fail hL 7 v1 M hc50) (cwV 2 h.2.2.2.2.1 (g_V m_ml_D_133 m_im_D_fail m_se_D_fail m_in_D m_co_D_fail) rfl rfl rfl (by decide +kernel) ⟨Nat.le_of_ble_eq_true rfl, Nat.le_of_ble_eq_true rfl⟩) (hL.recv h rfl (by decide) ob_30) rfl rfl (Nat.le_of_ble_eq_true rfl) d_D_back_39) ?_
      exact g_vret h hQ d_D_back_42 hw
  · have hw := o_f c43 hw
    refine g_aload_n h d_D_back_15 rfl rfl ?_
    refine g_iconst (v := 2) h d_D_back_16 (by decide) ?_
    refine g_iload_n h d_D_back_17 rfl rfl ?_
    obtain ⟨M53, hc52, hw⟩ := o_v hw
    refine g_callv h (g_runV (rest := []) h (ct_D_fail hL 2 v1 M hc52) (cwV 2 h.2.2.2.2.1 (g_V m_ml_D_133 m_im_D_fail m_se_D_fail m_in_D m_co_D_fail) rfl rfl rfl (by decide +kernel) ⟨Nat.le_of_ble_eq_true rfl, Nat.le_of_ble_eq_true rfl⟩) (hL.recv h rfl (by decide) ob_30) rfl rfl (Nat.le_of_ble_eq_true rfl) d_D_back_18) ?_
    exact g_vret h hQ d_D_back_21 hw
set_option maxHeartbeats 4000000 in
set_option maxRecDepth 100000 in
theorem ct_D_put {Z : ZT} (hL : Lay Z sD) (v1 : Int32) (M : Mm)  {res : Int32 × Mm} (hw : F_D_put v1 M = some res) : CtI Z y_D_put ws_D_put (({ frames := 1, cells := 0, slots := 0, locals := 20 })) [.ref (za Z 30 0), .int v1] M res := by
  refine CtI.of hL (cc := c_D_put) (maxL := 2) (by decide) rfl (Nat.le_of_ble_eq_true rfl) (fun X h hQ => ?_)
  show G Z X M 0 [(0, .ref (za Z 30 0)), (1, .int v1)] []
  rw [F_D_put] at hw
  refine g_aload_n h d_D_put_0 rfl rfl ?_
  refine g_getR (t := 30) (i := 0) (k := 26) (C := "FlowGateModel") (T := T_D) (N := 42) h hL rfl (by decide) ob_30 (by decide) rfl (t' := 50) (i' := 0) rfl rfl (fun w hw => mc (in_D w hw)) (mc m_fl_D_73) rfl d_D_put_1 ?_
  refine g_aload_n h d_D_put_4 rfl rfl ?_
  refine g_getI (t := 30) (i := 0) (k := 31) (C := "FlowGateModel") (T := T_D) (N := 42) h hL rfl (by decide) ob_30 (by decide) rfl (fun w hw => mc (in_D w hw)) (mc m_fl_D_183) rfl d_D_put_5 ?_
  refine g_iload_n h d_D_put_8 rfl rfl ?_
  obtain ⟨hv1, hw⟩ := o_in hw
  refine g_iast (t := 50) (i := 0) h hL rfl (by decide) rfl rfl hv1 d_D_put_9 ?_
  refine g_mem (fun M2 eM2 => ?_)
  have hw := o_l hw M2 eM2
  refine g_aload_n h d_D_put_10 rfl rfl ?_
  refine g_dup h d_D_put_11 rfl ?_
  refine g_getI (t := 30) (i := 0) (k := 31) (C := "FlowGateModel") (T := T_D) (N := 42) h hL rfl (by decide) ob_30 (by decide) rfl (fun w hw => mc (in_D w hw)) (mc m_fl_D_183) rfl d_D_put_12 ?_
  refine g_iconst (v := 1) h d_D_put_15 (by decide) ?_
  refine g_iadd h d_D_put_16 ?_
  refine g_putI (t := 30) (i := 0) (k := 31) (C := "FlowGateModel") (T := T_D) (N := 42) h hL rfl (by decide) ob_30 (by decide) rfl (fun w hw => mc (in_D w hw)) ty_D ty_D_ok nm_D (mc m_fl_D_183) rfl rfl rfl d_D_put_17 ?_
  refine g_mem (fun M3 eM3 => ?_)
  have hw := o_l hw M3 eM3
  refine g_aload_n h d_D_put_20 rfl rfl ?_
  refine g_dup h d_D_put_21 rfl ?_
  refine g_getI (t := 30) (i := 0) (k := 32) (C := "FlowGateModel") (T := T_D) (N := 42) h hL rfl (by decide) ob_30 (by decide) rfl (fun w hw => mc (in_D w hw)) (mc m_fl_D_189) rfl d_D_put_22 ?_
  refine g_iload_n h d_D_put_25 rfl rfl ?_
  refine g_calli h (g_runS (rest := [.int (M3.1 30 0 32), .ref (za Z 30 0)]) h (ct_D_isWide hL v1 M3 (p_D_isWide v1 M3)) (cwS 1 h.2.2.2.2.1 (g_S m_ml_D_140 m_st_D_isWide m_in_D m_co_D_isWide) rfl rfl rfl (by decide +kernel) ⟨Nat.le_of_ble_eq_true rfl, Nat.le_of_ble_eq_true rfl⟩) rfl rfl (Nat.le_of_ble_eq_true rfl) d_D_put_26) ?_
  refine g_topi (fun r5 er5 => ?_)
  have hw := o_l hw r5 er5
  refine g_if_eq (tgt := 36) h d_D_put_29 (by decide) (fun c6 => ?_) (fun c6 => ?_)
  · have hw := o_t c6 hw
    refine g_iconst (v := 1) h d_D_put_36 (by decide) ?_
    refine g_iadd h d_D_put_37 ?_
    refine g_putI (t := 30) (i := 0) (k := 32) (C := "FlowGateModel") (T := T_D) (N := 42) h hL rfl (by decide) ob_30 (by decide) rfl (fun w hw => mc (in_D w hw)) ty_D ty_D_ok nm_D (mc m_fl_D_189) rfl rfl rfl d_D_put_38 ?_
    refine g_mem (fun M7 eM7 => ?_)
    have hw := o_l hw M7 eM7
    refine g_iconst (v := 1) h d_D_put_41 (by decide) ?_
    exact g_zret h hQ d_D_put_42 rfl hw
  · have hw := o_f c6 hw
    refine g_iconst (v := 2) h d_D_put_32 (by decide) ?_
    refine g_goto (tgt := 37) h d_D_put_33 (by decide) ?_
    refine g_iadd h d_D_put_37 ?_
    refine g_putI (t := 30) (i := 0) (k := 32) (C := "FlowGateModel") (T := T_D) (N := 42) h hL rfl (by decide) ob_30 (by decide) rfl (fun w hw => mc (in_D w hw)) ty_D ty_D_ok nm_D (mc m_fl_D_189) rfl rfl rfl d_D_put_38 ?_
    refine g_mem (fun M8 eM8 => ?_)
    have hw := o_l hw M8 eM8
    refine g_iconst (v := 1) h d_D_put_41 (by decide) ?_
    exact g_zret h hQ d_D_put_42 rfl hw
set_option maxHeartbeats 4000000 in
set_option maxRecDepth 100000 in
theorem ct_D_top {Z : ZT} (hL : Lay Z sD) (v1 : Int32) (M : Mm)  {res : Int32 × Mm} (hw : F_D_top v1 M = some res) : CtI Z y_D_top ws_D_top (({ frames := 0, cells := 0, slots := 0, locals := 0 })) [.ref (za Z 30 0), .int v1] M res := by
  refine CtI.of hL (cc := c_D_top) (maxL := 2) (by decide) rfl (Nat.le_of_ble_eq_true rfl) (fun X h hQ => ?_)
  show G Z X M 0 [(0, .ref (za Z 30 0)), (1, .int v1)] []
  rw [F_D_top] at hw
  refine g_aload_n h d_D_top_0 rfl rfl ?_
  refine g_getI (t := 30) (i := 0) (k := 31) (C := "FlowGateModel") (T := T_D) (N := 42) h hL rfl (by decide) ob_30 (by decide) rfl (fun w hw => mc (in_D w hw)) (mc m_fl_D_183) rfl d_D_top_1 ?_
  refine g_iload_n h d_D_top_4 rfl rfl ?_
  refine g_icmp_le (tgt := 24) h d_D_top_5 (by decide) (fun c1 => ?_) (fun c1 => ?_)
  · have hw := o_t c1 hw
    refine g_iconst (v := -1) h d_D_top_24 (by decide) ?_
    exact g_iret h hQ d_D_top_25 hw
  · have hw := o_f c1 hw
    refine g_aload_n h d_D_top_8 rfl rfl ?_
    refine g_getR (t := 30) (i := 0) (k := 26) (C := "FlowGateModel") (T := T_D) (N := 42) h hL rfl (by decide) ob_30 (by decide) rfl (t' := 50) (i' := 0) rfl rfl (fun w hw => mc (in_D w hw)) (mc m_fl_D_73) rfl d_D_top_9 ?_
    refine g_aload_n h d_D_top_12 rfl rfl ?_
    refine g_getI (t := 30) (i := 0) (k := 31) (C := "FlowGateModel") (T := T_D) (N := 42) h hL rfl (by decide) ob_30 (by decide) rfl (fun w hw => mc (in_D w hw)) (mc m_fl_D_183) rfl d_D_top_13 ?_
    refine g_iconst (v := 1) h d_D_top_16 (by decide) ?_
    refine g_isub h d_D_top_17 ?_
    refine g_iload_n h d_D_top_18 rfl rfl ?_
    refine g_isub h d_D_top_19 ?_
    obtain ⟨hv2, hw⟩ := o_in hw
    refine g_iald (t := 50) (i := 0) h hL rfl (by decide) rfl rfl hv2 d_D_top_20 ?_
    refine g_goto (tgt := 25) h d_D_top_21 (by decide) ?_
    exact g_iret h hQ d_D_top_25 hw
set_option maxHeartbeats 4000000 in
set_option maxRecDepth 100000 in
theorem ct_D_drop {Z : ZT} (hL : Lay Z sD)  (M : Mm)  {res : Mm} (hw : F_D_drop M = some res) : CtV Z y_D_drop ws_D_drop (({ frames := 1, cells := 0, slots := 0, locals := 20 })) [.ref (za Z 30 0)] M res := by
  refine CtV.of hL (cc := c_D_drop) (maxL := 1) (by decide) rfl (Nat.le_of_ble_eq_true rfl) (fun X h hQ => ?_)
  show G Z X M 0 [(0, .ref (za Z 30 0))] []
  rw [F_D_drop] at hw
  refine g_aload_n h d_D_drop_0 rfl rfl ?_
  refine g_dup h d_D_drop_1 rfl ?_
  refine g_getI (t := 30) (i := 0) (k := 31) (C := "FlowGateModel") (T := T_D) (N := 42) h hL rfl (by decide) ob_30 (by decide) rfl (fun w hw => mc (in_D w hw)) (mc m_fl_D_183) rfl d_D_drop_2 ?_
  refine g_iconst (v := 1) h d_D_drop_5 (by decide) ?_
  refine g_isub h d_D_drop_6 ?_
  refine g_putI (t := 30) (i := 0) (k := 31) (C := "FlowGateModel") (T := T_D) (N := 42) h hL rfl (by decide) ob_30 (by decide) rfl (fun w hw => mc (in_D w hw)) ty_D ty_D_ok nm_D (mc m_fl_D_183) rfl rfl rfl d_D_drop_7 ?_
  refine g_mem (fun M1 eM1 => ?_)
  have hw := o_l hw M1 eM1
  refine g_aload_n h d_D_drop_10 rfl rfl ?_
  refine g_dup h d_D_drop_11 rfl ?_
  refine g_getI (t := 30) (i := 0) (k := 32) (C := "FlowGateModel") (T := T_D) (N := 42) h hL rfl (by decide) ob_30 (by decide) rfl (fun w hw => mc (in_D w hw)) (mc m_fl_D_189) rfl d_D_drop_12 ?_
  refine g_aload_n h d_D_drop_15 rfl rfl ?_
  refine g_getR (t := 30) (i := 0) (k := 26) (C := "FlowGateModel") (T := T_D) (N := 42) h hL rfl (by decide) ob_30 (by decide) rfl (t' := 50) (i' := 0) rfl rfl (fun w hw => mc (in_D w hw)) (mc m_fl_D_73) rfl d_D_drop_16 ?_
  refine g_aload_n h d_D_drop_19 rfl rfl ?_
  refine g_getI (t := 30) (i := 0) (k := 31) (C := "FlowGateModel") (T := T_D) (N := 42) h hL rfl (by decide) ob_30 (by decide) rfl (fun w hw => mc (in_D w hw)) (mc m_fl_D_183) rfl d_D_drop_20 ?_
  obtain ⟨hv2, hw⟩ := o_in hw
  refine g_iald (t := 50) (i := 0) h hL rfl (by decide) rfl rfl hv2 d_D_drop_23 ?_
  refine g_calli h (g_runS (rest := [.int (M1.1 30 0 32), .ref (za Z 30 0)]) h (ct_D_isWide hL (M1.1 50 0 (M1.1 30 0 31 : Int32).toNatClampNeg) M1 (p_D_isWide (M1.1 50 0 (M1.1 30 0 31 : Int32).toNatClampNeg) M1)) (cwS 1 h.2.2.2.2.1 (g_S m_ml_D_140 m_st_D_isWide m_in_D m_co_D_isWide) rfl rfl rfl (by decide +kernel) ⟨Nat.le_of_ble_eq_true rfl, Nat.le_of_ble_eq_true rfl⟩) rfl rfl (Nat.le_of_ble_eq_true rfl) d_D_drop_24) ?_
  refine g_topi (fun r4 er4 => ?_)
  have hw := o_l hw r4 er4
  refine g_if_eq (tgt := 34) h d_D_drop_27 (by decide) (fun c5 => ?_) (fun c5 => ?_)
  · have hw := o_t c5 hw
    refine g_iconst (v := 1) h d_D_drop_34 (by decide) ?_
    refine g_isub h d_D_drop_35 ?_
    refine g_putI (t := 30) (i := 0) (k := 32) (C := "FlowGateModel") (T := T_D) (N := 42) h hL rfl (by decide) ob_30 (by decide) rfl (fun w hw => mc (in_D w hw)) ty_D ty_D_ok nm_D (mc m_fl_D_189) rfl rfl rfl d_D_drop_36 ?_
    refine g_mem (fun M6 eM6 => ?_)
    have hw := o_l hw M6 eM6
    exact g_vret h hQ d_D_drop_39 hw
  · have hw := o_f c5 hw
    refine g_iconst (v := 2) h d_D_drop_30 (by decide) ?_
    refine g_goto (tgt := 35) h d_D_drop_31 (by decide) ?_
    refine g_isub h d_D_drop_35 ?_
    refine g_putI (t := 30) (i := 0) (k := 32) (C := "FlowGateModel") (T := T_D) (N := 42) h hL rfl (by decide) ob_30 (by decide) rfl (fun w hw => mc (in_D w hw)) ty_D ty_D_ok nm_D (mc m_fl_D_189) rfl rfl rfl d_D_drop_36 ?_
    refine g_mem (fun M7 eM7 => ?_)
    have hw := o_l hw M7 eM7
    exact g_vret h hQ d_D_drop_39 hw
set_option maxHeartbeats 4000000 in
set_option maxRecDepth 100000 in
theorem ct_D_single {Z : ZT} (hL : Lay Z sD) (v1 : Int32) (M : Mm)  {res : Int32 × Mm} (hw : F_D_single v1 M = some res) : CtI Z y_D_single ws_D_single (({ frames := 1, cells := 0, slots := 0, locals := 20 })) [.ref (za Z 30 0), .int v1] M res := by
  refine CtI.of hL (cc := c_D_single) (maxL := 2) (by decide) rfl (Nat.le_of_ble_eq_true rfl) (fun X h hQ => ?_)
  show G Z X M 0 [(0, .ref (za Z 30 0)), (1, .int v1)] []
  rw [F_D_single] at hw
  refine g_aload_n h d_D_single_0 rfl rfl ?_
  refine g_getI (t := 30) (i := 0) (k := 31) (C := "FlowGateModel") (T := T_D) (N := 42) h hL rfl (by decide) ob_30 (by decide) rfl (fun w hw => mc (in_D w hw)) (mc m_fl_D_183) rfl d_D_single_1 ?_
  refine g_iload_n h d_D_single_4 rfl rfl ?_
  refine g_icmp_le (tgt := 31) h d_D_single_5 (by decide) (fun c1 => ?_) (fun c1 => ?_)
  · have hw := o_t c1 hw
    refine g_iconst (v := 0) h d_D_single_31 (by decide) ?_
    exact g_zret h hQ d_D_single_32 rfl hw
  · have hw := o_f c1 hw
    refine g_aload_n h d_D_single_8 rfl rfl ?_
    refine g_getR (t := 30) (i := 0) (k := 26) (C := "FlowGateModel") (T := T_D) (N := 42) h hL rfl (by decide) ob_30 (by decide) rfl (t' := 50) (i' := 0) rfl rfl (fun w hw => mc (in_D w hw)) (mc m_fl_D_73) rfl d_D_single_9 ?_
    refine g_aload_n h d_D_single_12 rfl rfl ?_
    refine g_getI (t := 30) (i := 0) (k := 31) (C := "FlowGateModel") (T := T_D) (N := 42) h hL rfl (by decide) ob_30 (by decide) rfl (fun w hw => mc (in_D w hw)) (mc m_fl_D_183) rfl d_D_single_13 ?_
    refine g_iconst (v := 1) h d_D_single_16 (by decide) ?_
    refine g_isub h d_D_single_17 ?_
    refine g_iload_n h d_D_single_18 rfl rfl ?_
    refine g_isub h d_D_single_19 ?_
    obtain ⟨hv2, hw⟩ := o_in hw
    refine g_iald (t := 50) (i := 0) h hL rfl (by decide) rfl rfl hv2 d_D_single_20 ?_
    refine g_calli h (g_runS (rest := []) h (ct_D_isWide hL (M.1 50 0 ((M.1 30 0 31) - 1 - v1 : Int32).toNatClampNeg) M (p_D_isWide (M.1 50 0 ((M.1 30 0 31) - 1 - v1 : Int32).toNatClampNeg) M)) (cwS 1 h.2.2.2.2.1 (g_S m_ml_D_140 m_st_D_isWide m_in_D m_co_D_isWide) rfl rfl rfl (by decide +kernel) ⟨Nat.le_of_ble_eq_true rfl, Nat.le_of_ble_eq_true rfl⟩) rfl rfl (Nat.le_of_ble_eq_true rfl) d_D_single_21) ?_
    refine g_topi (fun r4 er4 => ?_)
    have hw := o_l hw r4 er4
    refine g_if_ne (tgt := 31) h d_D_single_24 (by decide) (fun c5 => ?_) (fun c5 => ?_)
    · have hw := o_f c5 hw
      refine g_iconst (v := 0) h d_D_single_31 (by decide) ?_
      exact g_zret h hQ d_D_single_32 rfl hw
    · have hw := o_t c5 hw
      refine g_iconst (v := 1) h d_D_single_27 (by decide) ?_
      refine g_goto (tgt := 32) h d_D_single_28 (by decide) ?_
      exact g_zret h hQ d_D_single_32 rfl hw
