set_option maxHeartbeats 4000000 in
set_option maxRecDepth 100000 in
theorem w_D_meet_b109 {Z : ZT} {X : XT} (hL : Lay Z sD) (h : Ok Z X "FlowGateModel" c_D_meet ws_D_meet 5 ({ frames := 4, cells := 0, slots := 0, locals := 92 })) {res : Mm} (hQ : FinV Z X res)  : ∀ (n : Nat) (v1 : Int32) (v2 : Int32) (M : Mm), F_D_meet_b109  n v1 v2 M = some res → G Z X M 109 [(0, .ref (za Z 30 0)), (1, .int v1), (2, .int v2)] [] := by
  intro n
  induction n with
  | zero =>
    intro v1 v2 M hw
    cases hw
  | succ n hK109 =>
    intro v1 v2 M hw
    rw [F_D_meet_b109] at hw
    refine g_iload_n h d_D_meet_109 rfl rfl ?_
    refine g_bipush (v := 48) h d_D_meet_110 (by decide) ?_
    refine g_icmp_ge (tgt := 138) h d_D_meet_112 (by decide) (fun c1 => ?_) (fun c1 => ?_)
    · have hw := o_t c1 hw
      exact g_vret h hQ d_D_meet_138 hw
    · have hw := o_f c1 hw
      refine g_aload_n h d_D_meet_115 rfl rfl ?_
      refine g_getR (t := 30) (i := 0) (k := 22) (C := "FlowGateModel") (T := T_D) (N := 42) h hL rfl (by decide) ob_30 (by decide) rfl (t' := 46) (i' := 0) rfl rfl (fun w hw => mc (in_D w hw)) (mc m_fl_D_60) rfl d_D_meet_116 ?_
      refine g_bipush (v := 48) h d_D_meet_119 (by decide) ?_
      refine g_iload_n h d_D_meet_121 rfl rfl ?_
      refine g_imul h d_D_meet_122 ?_
      refine g_iload_n h d_D_meet_123 rfl rfl ?_
      refine g_iadd h d_D_meet_124 ?_
      refine g_aload_n h d_D_meet_125 rfl rfl ?_
      refine g_getR (t := 30) (i := 0) (k := 30) (C := "FlowGateModel") (T := T_D) (N := 42) h hL rfl (by decide) ob_30 (by decide) rfl (t' := 54) (i' := 0) rfl rfl (fun w hw => mc (in_D w hw)) (mc m_fl_D_85) rfl d_D_meet_126 ?_
      refine g_iload_n h d_D_meet_129 rfl rfl ?_
      obtain ⟨hv2, hw⟩ := o_in hw
      refine g_iald (t := 54) (i := 0) h hL rfl (by decide) rfl rfl hv2 d_D_meet_130 ?_
      obtain ⟨hv3, hw⟩ := o_in hw
      refine g_iast (t := 46) (i := 0) h hL rfl (by decide) rfl rfl hv3 d_D_meet_131 ?_
      refine g_mem (fun M4 eM4 => ?_)
      have hw := o_l hw M4 eM4
      refine g_iinc (n' := 1) (lw := fun y => [(2, .int y), (0, .ref (za Z 30 0)), (1, .int v1)]) h d_D_meet_132 rfl (by decide) (by decide) (fun _ => rfl) (fun n5 en5 => ?_)
      have hw := o_l hw n5 en5
      refine g_goto (tgt := 109) h d_D_meet_135 (by decide) ?_
      refine g_sub [1, 2, 0] rfl ?_
      exact hK109 v1 n5 M4 hw
set_option maxHeartbeats 4000000 in
set_option maxRecDepth 100000 in
theorem w_D_meet_b76 {Z : ZT} {X : XT} (hL : Lay Z sD) (h : Ok Z X "FlowGateModel" c_D_meet ws_D_meet 5 ({ frames := 4, cells := 0, slots := 0, locals := 92 })) {res : Mm} (hQ : FinV Z X res)  : ∀ (n : Nat) (v1 : Int32) (v2 : Int32) (M : Mm), F_D_meet_b76  n v1 v2 M = some res → G Z X M 76 [(0, .ref (za Z 30 0)), (1, .int v1), (2, .int v2)] [] := by
  intro n
  induction n with
  | zero =>
    intro v1 v2 M hw
    cases hw
  | succ n hK76 =>
    intro v1 v2 M hw
    rw [F_D_meet_b76] at hw
    refine g_iload_n h d_D_meet_76 rfl rfl ?_
    refine g_aload_n h d_D_meet_77 rfl rfl ?_
    refine g_getI (t := 30) (i := 0) (k := 33) (C := "FlowGateModel") (T := T_D) (N := 42) h hL rfl (by decide) ob_30 (by decide) rfl (fun w hw => mc (in_D w hw)) (mc m_fl_D_166) rfl d_D_meet_78 ?_
    refine g_icmp_ge (tgt := 107) h d_D_meet_81 (by decide) (fun c6 => ?_) (fun c6 => ?_)
    · have hw := o_t c6 hw
      refine g_iconst (v := 0) h d_D_meet_107 (by decide) ?_
      refine g_istore_n (lv' := [(2, .int 0), (0, .ref (za Z 30 0)), (1, .int v1)]) h d_D_meet_108 rfl (by decide) rfl ?_
      refine g_sub [1, 2, 0] rfl ?_
      exact w_D_meet_b109 hL h hQ  fuel v1 0 M hw
    · have hw := o_f c6 hw
      refine g_aload_n h d_D_meet_84 rfl rfl ?_
      refine g_getR (t := 30) (i := 0) (k := 20) (C := "FlowGateModel") (T := T_D) (N := 42) h hL rfl (by decide) ob_30 (by decide) rfl (t' := 44) (i' := 0) rfl rfl (fun w hw => mc (in_D w hw)) (mc m_fl_D_54) rfl d_D_meet_85 ?_
      refine g_bipush (v := 12) h d_D_meet_88 (by decide) ?_
      refine g_iload_n h d_D_meet_90 rfl rfl ?_
      refine g_imul h d_D_meet_91 ?_
      refine g_iload_n h d_D_meet_92 rfl rfl ?_
      refine g_iadd h d_D_meet_93 ?_
      refine g_aload_n h d_D_meet_94 rfl rfl ?_
      refine g_getR (t := 30) (i := 0) (k := 29) (C := "FlowGateModel") (T := T_D) (N := 42) h hL rfl (by decide) ob_30 (by decide) rfl (t' := 53) (i' := 0) rfl rfl (fun w hw => mc (in_D w hw)) (mc m_fl_D_82) rfl d_D_meet_95 ?_
      refine g_iload_n h d_D_meet_98 rfl rfl ?_
      obtain ⟨hv7, hw⟩ := o_in hw
      refine g_iald (t := 53) (i := 0) h hL rfl (by decide) rfl rfl hv7 d_D_meet_99 ?_
      obtain ⟨hv8, hw⟩ := o_in hw
      refine g_iast (t := 44) (i := 0) h hL rfl (by decide) rfl rfl hv8 d_D_meet_100 ?_
      refine g_mem (fun M9 eM9 => ?_)
      have hw := o_l hw M9 eM9
      refine g_iinc (n' := 1) (lw := fun y => [(2, .int y), (0, .ref (za Z 30 0)), (1, .int v1)]) h d_D_meet_101 rfl (by decide) (by decide) (fun _ => rfl) (fun n10 en10 => ?_)
      have hw := o_l hw n10 en10
      refine g_goto (tgt := 76) h d_D_meet_104 (by decide) ?_
      refine g_sub [1, 2, 0] rfl ?_
      exact hK76 v1 n10 M9 hw
set_option maxHeartbeats 4000000 in
set_option maxRecDepth 100000 in
theorem w_D_meet_b45 {Z : ZT} {X : XT} (hL : Lay Z sD) (h : Ok Z X "FlowGateModel" c_D_meet ws_D_meet 5 ({ frames := 4, cells := 0, slots := 0, locals := 92 })) {res : Mm} (hQ : FinV Z X res)  : ∀ (n : Nat) (v1 : Int32) (v2 : Int32) (M : Mm), F_D_meet_b45  n v1 v2 M = some res → G Z X M 45 [(0, .ref (za Z 30 0)), (1, .int v1), (2, .int v2)] [] := by
  intro n
  induction n with
  | zero =>
    intro v1 v2 M hw
    cases hw
  | succ n hK45 =>
    intro v1 v2 M hw
    rw [F_D_meet_b45] at hw
    refine g_iload_n h d_D_meet_45 rfl rfl ?_
    refine g_bipush (v := 12) h d_D_meet_46 (by decide) ?_
    refine g_icmp_ge (tgt := 74) h d_D_meet_48 (by decide) (fun c11 => ?_) (fun c11 => ?_)
    · have hw := o_t c11 hw
      refine g_iconst (v := 0) h d_D_meet_74 (by decide) ?_
      refine g_istore_n (lv' := [(2, .int 0), (0, .ref (za Z 30 0)), (1, .int v1)]) h d_D_meet_75 rfl (by decide) rfl ?_
      refine g_sub [1, 2, 0] rfl ?_
      exact w_D_meet_b76 hL h hQ  fuel v1 0 M hw
    · have hw := o_f c11 hw
      refine g_aload_n h d_D_meet_51 rfl rfl ?_
      refine g_getR (t := 30) (i := 0) (k := 19) (C := "FlowGateModel") (T := T_D) (N := 42) h hL rfl (by decide) ob_30 (by decide) rfl (t' := 43) (i' := 0) rfl rfl (fun w hw => mc (in_D w hw)) (mc m_fl_D_51) rfl d_D_meet_52 ?_
      refine g_bipush (v := 12) h d_D_meet_55 (by decide) ?_
      refine g_iload_n h d_D_meet_57 rfl rfl ?_
      refine g_imul h d_D_meet_58 ?_
      refine g_iload_n h d_D_meet_59 rfl rfl ?_
      refine g_iadd h d_D_meet_60 ?_
      refine g_aload_n h d_D_meet_61 rfl rfl ?_
      refine g_getR (t := 30) (i := 0) (k := 28) (C := "FlowGateModel") (T := T_D) (N := 42) h hL rfl (by decide) ob_30 (by decide) rfl (t' := 52) (i' := 0) rfl rfl (fun w hw => mc (in_D w hw)) (mc m_fl_D_79) rfl d_D_meet_62 ?_
      refine g_iload_n h d_D_meet_65 rfl rfl ?_
      obtain ⟨hv12, hw⟩ := o_in hw
      refine g_iald (t := 52) (i := 0) h hL rfl (by decide) rfl rfl hv12 d_D_meet_66 ?_
      obtain ⟨hv13, hw⟩ := o_in hw
      refine g_iast (t := 43) (i := 0) h hL rfl (by decide) rfl rfl hv13 d_D_meet_67 ?_
      refine g_mem (fun M14 eM14 => ?_)
      have hw := o_l hw M14 eM14
      refine g_iinc (n' := 1) (lw := fun y => [(2, .int y), (0, .ref (za Z 30 0)), (1, .int v1)]) h d_D_meet_68 rfl (by decide) (by decide) (fun _ => rfl) (fun n15 en15 => ?_)
      have hw := o_l hw n15 en15
      refine g_goto (tgt := 45) h d_D_meet_71 (by decide) ?_
      refine g_sub [1, 2, 0] rfl ?_
      exact hK45 v1 n15 M14 hw
set_option maxHeartbeats 4000000 in
set_option maxRecDepth 100000 in
theorem w_D_meet_b252 {Z : ZT} {X : XT} (hL : Lay Z sD) (h : Ok Z X "FlowGateModel" c_D_meet ws_D_meet 5 ({ frames := 4, cells := 0, slots := 0, locals := 92 })) {res : Mm} (hQ : FinV Z X res) {K201 : Int32 → Int32 → Int32 → Mm → Option (Mm)} (hK201 : ∀ (v1 : Int32) (v2 : Int32) (v3 : Int32) (M : Mm), K201 v1 v2 v3 M = some res → G Z X M 201 [(0, .ref (za Z 30 0)), (1, .int v1), (2, .int v2), (3, .int v3)] []) (v1 : Int32) (v3 : Int32) (v4 : Int32) (s0 : Int32) (s1 : Int32) (M : Mm)  (hw : F_D_meet_b252 K201 v1 v3 v4 s0 s1 M = some res) : G Z X M 252 [(0, .ref (za Z 30 0)), (1, .int v1), (3, .int v3), (4, .int v4)] [.int s1, .int s0] := by
  rw [F_D_meet_b252] at hw
  refine g_ior h d_D_meet_252 ?_
  refine g_topi (fun n16 en16 => ?_)
  have hw := o_l hw n16 en16
  refine g_istore_n (lv' := [(2, .int n16), (0, .ref (za Z 30 0)), (1, .int v1), (3, .int v3), (4, .int v4)]) h d_D_meet_253 rfl (by decide) rfl ?_
  refine g_aload_n h d_D_meet_254 rfl rfl ?_
  refine g_getR (t := 30) (i := 0) (k := 19) (C := "FlowGateModel") (T := T_D) (N := 42) h hL rfl (by decide) ob_30 (by decide) rfl (t' := 43) (i' := 0) rfl rfl (fun w hw => mc (in_D w hw)) (mc m_fl_D_51) rfl d_D_meet_255 ?_
  refine g_bipush (v := 12) h d_D_meet_258 (by decide) ?_
  refine g_iload_n h d_D_meet_260 rfl rfl ?_
  refine g_imul h d_D_meet_261 ?_
  refine g_iload_n h d_D_meet_262 rfl rfl ?_
  refine g_iadd h d_D_meet_263 ?_
  refine g_iload h d_D_meet_264 rfl ?_
  obtain ⟨hv17, hw⟩ := o_in hw
  refine g_iast (t := 43) (i := 0) h hL rfl (by decide) rfl rfl hv17 d_D_meet_266 ?_
  refine g_mem (fun M18 eM18 => ?_)
  have hw := o_l hw M18 eM18
  refine g_iinc (n' := 1) (lw := fun y => [(3, .int y), (2, .int n16), (0, .ref (za Z 30 0)), (1, .int v1), (4, .int v4)]) h d_D_meet_267 rfl (by decide) (by decide) (fun _ => rfl) (fun n19 en19 => ?_)
  have hw := o_l hw n19 en19
  refine g_goto (tgt := 201) h d_D_meet_270 (by decide) ?_
  refine g_sub [2, 3, 1, 0] rfl ?_
  exact hK201 v1 n16 n19 M18 hw
set_option maxHeartbeats 4000000 in
set_option maxRecDepth 100000 in
theorem w_D_meet_b328 {Z : ZT} {X : XT} (hL : Lay Z sD) (h : Ok Z X "FlowGateModel" c_D_meet ws_D_meet 5 ({ frames := 4, cells := 0, slots := 0, locals := 92 })) {res : Mm} (hQ : FinV Z X res) {K275 : Int32 → Int32 → Int32 → Mm → Option (Mm)} (hK275 : ∀ (v1 : Int32) (v2 : Int32) (v3 : Int32) (M : Mm), K275 v1 v2 v3 M = some res → G Z X M 275 [(0, .ref (za Z 30 0)), (1, .int v1), (2, .int v2), (3, .int v3)] []) (v1 : Int32) (v3 : Int32) (v4 : Int32) (s0 : Int32) (s1 : Int32) (M : Mm)  (hw : F_D_meet_b328 K275 v1 v3 v4 s0 s1 M = some res) : G Z X M 328 [(0, .ref (za Z 30 0)), (1, .int v1), (3, .int v3), (4, .int v4)] [.int s1, .int s0] := by
  rw [F_D_meet_b328] at hw
  refine g_ior h d_D_meet_328 ?_
  refine g_topi (fun n20 en20 => ?_)
  have hw := o_l hw n20 en20
  refine g_istore_n (lv' := [(2, .int n20), (0, .ref (za Z 30 0)), (1, .int v1), (3, .int v3), (4, .int v4)]) h d_D_meet_329 rfl (by decide) rfl ?_
  refine g_aload_n h d_D_meet_330 rfl rfl ?_
  refine g_getR (t := 30) (i := 0) (k := 20) (C := "FlowGateModel") (T := T_D) (N := 42) h hL rfl (by decide) ob_30 (by decide) rfl (t' := 44) (i' := 0) rfl rfl (fun w hw => mc (in_D w hw)) (mc m_fl_D_54) rfl d_D_meet_331 ?_
  refine g_bipush (v := 12) h d_D_meet_334 (by decide) ?_
  refine g_iload_n h d_D_meet_336 rfl rfl ?_
  refine g_imul h d_D_meet_337 ?_
  refine g_iload_n h d_D_meet_338 rfl rfl ?_
  refine g_iadd h d_D_meet_339 ?_
  refine g_iload h d_D_meet_340 rfl ?_
  obtain ⟨hv21, hw⟩ := o_in hw
  refine g_iast (t := 44) (i := 0) h hL rfl (by decide) rfl rfl hv21 d_D_meet_342 ?_
  refine g_mem (fun M22 eM22 => ?_)
  have hw := o_l hw M22 eM22
  refine g_iinc (n' := 1) (lw := fun y => [(3, .int y), (2, .int n20), (0, .ref (za Z 30 0)), (1, .int v1), (4, .int v4)]) h d_D_meet_343 rfl (by decide) (by decide) (fun _ => rfl) (fun n23 en23 => ?_)
  have hw := o_l hw n23 en23
  refine g_goto (tgt := 275) h d_D_meet_346 (by decide) ?_
  refine g_sub [2, 3, 1, 0] rfl ?_
  exact hK275 v1 n20 n23 M22 hw
set_option maxHeartbeats 4000000 in
set_option maxRecDepth 100000 in
theorem w_D_meet_b432 {Z : ZT} {X : XT} (hL : Lay Z sD) (h : Ok Z X "FlowGateModel" c_D_meet ws_D_meet 5 ({ frames := 4, cells := 0, slots := 0, locals := 92 })) {res : Mm} (hQ : FinV Z X res) {K351 : Int32 → Int32 → Int32 → Mm → Option (Mm)} (hK351 : ∀ (v1 : Int32) (v2 : Int32) (v3 : Int32) (M : Mm), K351 v1 v2 v3 M = some res → G Z X M 351 [(0, .ref (za Z 30 0)), (1, .int v1), (2, .int v2), (3, .int v3)] []) (v1 : Int32) (v2 : Int32) (v3 : Int32) (M : Mm)  (hw : F_D_meet_b432 K351 v1 v2 v3 M = some res) : G Z X M 432 [(0, .ref (za Z 30 0)), (1, .int v1), (2, .int v2), (3, .int v3)] [] := by
  rw [F_D_meet_b432] at hw
  refine g_iinc (n' := 1) (lw := fun y => [(3, .int y), (0, .ref (za Z 30 0)), (1, .int v1), (2, .int v2)]) h d_D_meet_432 rfl (by decide) (by decide) (fun _ => rfl) (fun n24 en24 => ?_)
  have hw := o_l hw n24 en24
  refine g_goto (tgt := 351) h d_D_meet_435 (by decide) ?_
  refine g_sub [1, 2, 3, 0] rfl ?_
  exact hK351 v1 v2 n24 M hw
set_option maxHeartbeats 4000000 in
set_option maxRecDepth 100000 in
theorem w_D_meet_b417 {Z : ZT} {X : XT} (hL : Lay Z sD) (h : Ok Z X "FlowGateModel" c_D_meet ws_D_meet 5 ({ frames := 4, cells := 0, slots := 0, locals := 92 })) {res : Mm} (hQ : FinV Z X res) {K351 : Int32 → Int32 → Int32 → Mm → Option (Mm)} (hK351 : ∀ (v1 : Int32) (v2 : Int32) (v3 : Int32) (M : Mm), K351 v1 v2 v3 M = some res → G Z X M 351 [(0, .ref (za Z 30 0)), (1, .int v1), (2, .int v2), (3, .int v3)] []) (v1 : Int32) (v3 : Int32) (v4 : Int32) (s0 : Int32) (s1 : Int32) (M : Mm)  (hw : F_D_meet_b417 K351 v1 v3 v4 s0 s1 M = some res) : G Z X M 417 [(0, .ref (za Z 30 0)), (1, .int v1), (3, .int v3), (4, .int v4)] [.int s1, .int s0] := by
  rw [F_D_meet_b417] at hw
  refine g_ior h d_D_meet_417 ?_
  refine g_topi (fun n25 en25 => ?_)
  have hw := o_l hw n25 en25
  refine g_istore_n (lv' := [(2, .int n25), (0, .ref (za Z 30 0)), (1, .int v1), (3, .int v3), (4, .int v4)]) h d_D_meet_418 rfl (by decide) rfl ?_
  refine g_aload_n h d_D_meet_419 rfl rfl ?_
  refine g_getR (t := 30) (i := 0) (k := 22) (C := "FlowGateModel") (T := T_D) (N := 42) h hL rfl (by decide) ob_30 (by decide) rfl (t' := 46) (i' := 0) rfl rfl (fun w hw => mc (in_D w hw)) (mc m_fl_D_60) rfl d_D_meet_420 ?_
  refine g_bipush (v := 48) h d_D_meet_423 (by decide) ?_
  refine g_iload_n h d_D_meet_425 rfl rfl ?_
  refine g_imul h d_D_meet_426 ?_
  refine g_iload_n h d_D_meet_427 rfl rfl ?_
  refine g_iadd h d_D_meet_428 ?_
  refine g_iload h d_D_meet_429 rfl ?_
  obtain ⟨hv26, hw⟩ := o_in hw
  refine g_iast (t := 46) (i := 0) h hL rfl (by decide) rfl rfl hv26 d_D_meet_431 ?_
  refine g_mem (fun M27 eM27 => ?_)
  have hw := o_l hw M27 eM27
  refine g_sub [1, 2, 0, 3] rfl ?_
  exact w_D_meet_b432 hL h hQ hK351 v1 n25 v3 M27 hw
set_option maxHeartbeats 4000000 in
set_option maxRecDepth 100000 in
theorem w_D_meet_b351 {Z : ZT} {X : XT} (hL : Lay Z sD) (h : Ok Z X "FlowGateModel" c_D_meet ws_D_meet 5 ({ frames := 4, cells := 0, slots := 0, locals := 92 })) {res : Mm} (hQ : FinV Z X res)  : ∀ (n : Nat) (v1 : Int32) (v2 : Int32) (v3 : Int32) (M : Mm), F_D_meet_b351  n v1 v2 v3 M = some res → G Z X M 351 [(0, .ref (za Z 30 0)), (1, .int v1), (2, .int v2), (3, .int v3)] [] := by
  intro n
  induction n with
  | zero =>
    intro v1 v2 v3 M hw
    cases hw
  | succ n hK351 =>
    intro v1 v2 v3 M hw
    rw [F_D_meet_b351] at hw
    refine g_iload_n h d_D_meet_351 rfl rfl ?_
    refine g_bipush (v := 48) h d_D_meet_352 (by decide) ?_
    refine g_icmp_ge (tgt := 438) h d_D_meet_354 (by decide) (fun c28 => ?_) (fun c28 => ?_)
    · have hw := o_t c28 hw
      refine g_iload_n h d_D_meet_438 rfl rfl ?_
      refine g_if_eq (tgt := 449) h d_D_meet_439 (by decide) (fun c29 => ?_) (fun c29 => ?_)
      · have hw := o_t c29 hw
        exact g_vret h hQ d_D_meet_449 hw
      · have hw := o_f c29 hw
        refine g_aload_n h d_D_meet_442 rfl rfl ?_
        refine g_getR (t := 30) (i := 0) (k := 18) (C := "FlowGateModel") (T := T_D) (N := 42) h hL rfl (by decide) ob_30 (by decide) rfl (t' := 42) (i' := 0) rfl rfl (fun w hw => mc (in_D w hw)) (mc m_fl_D_48) rfl d_D_meet_443 ?_
        refine g_iload_n h d_D_meet_446 rfl rfl ?_
        refine g_iconst (v := 1) h d_D_meet_447 (by decide) ?_
        obtain ⟨hv30, hw⟩ := o_in hw
        refine g_zast (t := 42) (i := 0) h hL rfl (by decide) rfl rfl hv30 d_D_meet_448 ?_
        refine g_mem (fun M31 eM31 => ?_)
        have hw := o_l hw M31 eM31
        exact g_vret h hQ d_D_meet_449 hw
    · have hw := o_f c28 hw
      refine g_aload_n h d_D_meet_357 rfl rfl ?_
      refine g_getR (t := 30) (i := 0) (k := 23) (C := "FlowGateModel") (T := T_D) (N := 42) h hL rfl (by decide) ob_30 (by decide) rfl (t' := 47) (i' := 0) rfl rfl (fun w hw => mc (in_D w hw)) (mc m_fl_D_63) rfl d_D_meet_358 ?_
      refine g_iload_n h d_D_meet_361 rfl rfl ?_
      obtain ⟨hv32, hw⟩ := o_in hw
      refine g_lald (t := 47) (i := 0) h hL rfl (by decide) rfl rfl hv32 d_D_meet_362 ?_
      refine g_iload_n h d_D_meet_363 rfl rfl ?_
      refine g_lshr h d_D_meet_364 ?_
      refine g_lconst (v := 1) h d_D_meet_365 rfl ?_
      refine g_land h d_D_meet_366 ?_
      refine g_lconst (v := 0) h d_D_meet_367 rfl ?_
      refine g_lcmp h d_D_meet_368 ?_
      refine g_if_ne (tgt := 375) h d_D_meet_369 (by decide) (fun c33 => ?_) (fun c33 => ?_)
      · have hw := o_f c33 hw
        refine g_aload_n h d_D_meet_375 rfl rfl ?_
        refine g_getR (t := 30) (i := 0) (k := 22) (C := "FlowGateModel") (T := T_D) (N := 42) h hL rfl (by decide) ob_30 (by decide) rfl (t' := 46) (i' := 0) rfl rfl (fun w hw => mc (in_D w hw)) (mc m_fl_D_60) rfl d_D_meet_376 ?_
        refine g_bipush (v := 48) h d_D_meet_379 (by decide) ?_
        refine g_iload_n h d_D_meet_381 rfl rfl ?_
        refine g_imul h d_D_meet_382 ?_
        refine g_iload_n h d_D_meet_383 rfl rfl ?_
        refine g_iadd h d_D_meet_384 ?_
        obtain ⟨hv34, hw⟩ := o_in hw
        refine g_iald (t := 46) (i := 0) h hL rfl (by decide) rfl rfl hv34 d_D_meet_385 ?_
        refine g_aload_n h d_D_meet_386 rfl rfl ?_
        refine g_getR (t := 30) (i := 0) (k := 30) (C := "FlowGateModel") (T := T_D) (N := 42) h hL rfl (by decide) ob_30 (by decide) rfl (t' := 54) (i' := 0) rfl rfl (fun w hw => mc (in_D w hw)) (mc m_fl_D_85) rfl d_D_meet_387 ?_
        refine g_iload_n h d_D_meet_390 rfl rfl ?_
        obtain ⟨hv35, hw⟩ := o_in hw
        refine g_iald (t := 54) (i := 0) h hL rfl (by decide) rfl rfl hv35 d_D_meet_391 ?_
        refine g_ior h d_D_meet_392 ?_
        refine g_topi (fun n36 en36 => ?_)
        have hw := o_l hw n36 en36
        refine g_istore (lv' := [(4, .int n36), (0, .ref (za Z 30 0)), (1, .int v1), (2, .int v2), (3, .int v3)]) h d_D_meet_393 (by decide) rfl ?_
        refine g_iload_n h d_D_meet_395 rfl rfl ?_
        refine g_iload h d_D_meet_396 rfl ?_
        refine g_aload_n h d_D_meet_398 rfl rfl ?_
        refine g_getR (t := 30) (i := 0) (k := 22) (C := "FlowGateModel") (T := T_D) (N := 42) h hL rfl (by decide) ob_30 (by decide) rfl (t' := 46) (i' := 0) rfl rfl (fun w hw => mc (in_D w hw)) (mc m_fl_D_60) rfl d_D_meet_399 ?_
        refine g_bipush (v := 48) h d_D_meet_402 (by decide) ?_
        refine g_iload_n h d_D_meet_404 rfl rfl ?_
        refine g_imul h d_D_meet_405 ?_
        refine g_iload_n h d_D_meet_406 rfl rfl ?_
        refine g_iadd h d_D_meet_407 ?_
        obtain ⟨hv37, hw⟩ := o_in hw
        refine g_iald (t := 46) (i := 0) h hL rfl (by decide) rfl rfl hv37 d_D_meet_408 ?_
        refine g_icmp_eq (tgt := 416) h d_D_meet_409 (by decide) (fun c38 => ?_) (fun c38 => ?_)
        · have hw := o_t c38 hw
          refine g_iconst (v := 0) h d_D_meet_416 (by decide) ?_
          refine g_sub [1, 2, 4, 0] rfl ?_
          exact w_D_meet_b417 hL h hQ hK351 v1 v3 n36 v2 0 M hw
        · have hw := o_f c38 hw
          refine g_iconst (v := 1) h d_D_meet_412 (by decide) ?_
          refine g_goto (tgt := 417) h d_D_meet_413 (by decide) ?_
          refine g_sub [1, 2, 4, 0] rfl ?_
          exact w_D_meet_b417 hL h hQ hK351 v1 v3 n36 v2 1 M hw
      · have hw := o_t c33 hw
        refine g_goto (tgt := 432) h d_D_meet_372 (by decide) ?_
        refine g_sub [0, 1, 2, 3] rfl ?_
        exact w_D_meet_b432 hL h hQ hK351 v1 v2 v3 M hw
set_option maxHeartbeats 4000000 in
set_option maxRecDepth 100000 in
theorem w_D_meet_b275 {Z : ZT} {X : XT} (hL : Lay Z sD) (h : Ok Z X "FlowGateModel" c_D_meet ws_D_meet 5 ({ frames := 4, cells := 0, slots := 0, locals := 92 })) {res : Mm} (hQ : FinV Z X res)  : ∀ (n : Nat) (v1 : Int32) (v2 : Int32) (v3 : Int32) (M : Mm), F_D_meet_b275  n v1 v2 v3 M = some res → G Z X M 275 [(0, .ref (za Z 30 0)), (1, .int v1), (2, .int v2), (3, .int v3)] [] := by
  intro n
  induction n with
  | zero =>
    intro v1 v2 v3 M hw
    cases hw
  | succ n hK275 =>
    intro v1 v2 v3 M hw
    rw [F_D_meet_b275] at hw
    refine g_iload_n h d_D_meet_275 rfl rfl ?_
    refine g_aload_n h d_D_meet_276 rfl rfl ?_
    refine g_getI (t := 30) (i := 0) (k := 33) (C := "FlowGateModel") (T := T_D) (N := 42) h hL rfl (by decide) ob_30 (by decide) rfl (fun w hw => mc (in_D w hw)) (mc m_fl_D_166) rfl d_D_meet_277 ?_
    refine g_icmp_ge (tgt := 349) h d_D_meet_280 (by decide) (fun c39 => ?_) (fun c39 => ?_)
    · have hw := o_t c39 hw
      refine g_iconst (v := 0) h d_D_meet_349 (by decide) ?_
      refine g_istore_n (lv' := [(3, .int 0), (0, .ref (za Z 30 0)), (1, .int v1), (2, .int v2)]) h d_D_meet_350 rfl (by decide) rfl ?_
      refine g_sub [1, 2, 3, 0] rfl ?_
      exact w_D_meet_b351 hL h hQ  fuel v1 v2 0 M hw
    · have hw := o_f c39 hw
      refine g_aload_n h d_D_meet_283 rfl rfl ?_
      refine g_aload_n h d_D_meet_284 rfl rfl ?_
      refine g_getR (t := 30) (i := 0) (k := 20) (C := "FlowGateModel") (T := T_D) (N := 42) h hL rfl (by decide) ob_30 (by decide) rfl (t' := 44) (i' := 0) rfl rfl (fun w hw => mc (in_D w hw)) (mc m_fl_D_54) rfl d_D_meet_285 ?_
      refine g_bipush (v := 12) h d_D_meet_288 (by decide) ?_
      refine g_iload_n h d_D_meet_290 rfl rfl ?_
      refine g_imul h d_D_meet_291 ?_
      refine g_iload_n h d_D_meet_292 rfl rfl ?_
      refine g_iadd h d_D_meet_293 ?_
      obtain ⟨hv40, hw⟩ := o_in hw
      refine g_iald (t := 44) (i := 0) h hL rfl (by decide) rfl rfl hv40 d_D_meet_294 ?_
      refine g_aload_n h d_D_meet_295 rfl rfl ?_
      refine g_getR (t := 30) (i := 0) (k := 29) (C := "FlowGateModel") (T := T_D) (N := 42) h hL rfl (by decide) ob_30 (by decide) rfl (t' := 53) (i' := 0) rfl rfl (fun w hw => mc (in_D w hw)) (mc m_fl_D_82) rfl d_D_meet_296 ?_
      refine g_iload_n h d_D_meet_299 rfl rfl ?_
      obtain ⟨hv41, hw⟩ := o_in hw
      refine g_iald (t := 53) (i := 0) h hL rfl (by decide) rfl rfl hv41 d_D_meet_300 ?_
      obtain ⟨r44, M43, hc42, hw⟩ := o_b hw
      refine g_calli h (g_runV (rest := []) h (ct_D_joined hL (M.1 44 0 ((12 : Int32) * v1 + v3 : Int32).toNatClampNeg) (M.1 53 0 (v3 : Int32).toNatClampNeg) M hc42) (cwV 2 h.2.2.2.2.1 (g_V m_ml_D_175 m_im_D_joined m_se_D_joined m_in_D m_co_D_joined) rfl rfl rfl (by decide +kernel) ⟨Nat.le_of_ble_eq_true rfl, Nat.le_of_ble_eq_true rfl⟩) (hL.recv h rfl (by decide) ob_30) rfl rfl (Nat.le_of_ble_eq_true rfl) d_D_meet_301) ?_
      refine g_istore (lv' := [(4, .int r44), (0, .ref (za Z 30 0)), (1, .int v1), (2, .int v2), (3, .int v3)]) h d_D_meet_304 (by decide) rfl ?_
      refine g_iload_n h d_D_meet_306 rfl rfl ?_
      refine g_iload h d_D_meet_307 rfl ?_
      refine g_aload_n h d_D_meet_309 rfl rfl ?_
      refine g_getR (t := 30) (i := 0) (k := 20) (C := "FlowGateModel") (T := T_D) (N := 42) h hL rfl (by decide) ob_30 (by decide) rfl (t' := 44) (i' := 0) rfl rfl (fun w hw => mc (in_D w hw)) (mc m_fl_D_54) rfl d_D_meet_310 ?_
      refine g_bipush (v := 12) h d_D_meet_313 (by decide) ?_
      refine g_iload_n h d_D_meet_315 rfl rfl ?_
      refine g_imul h d_D_meet_316 ?_
      refine g_iload_n h d_D_meet_317 rfl rfl ?_
      refine g_iadd h d_D_meet_318 ?_
      obtain ⟨hv45, hw⟩ := o_in hw
      refine g_iald (t := 44) (i := 0) h hL rfl (by decide) rfl rfl hv45 d_D_meet_319 ?_
      refine g_icmp_eq (tgt := 327) h d_D_meet_320 (by decide) (fun c46 => ?_) (fun c46 => ?_)
      · have hw := o_t c46 hw
        refine g_iconst (v := 0) h d_D_meet_327 (by decide) ?_
        refine g_sub [1, 2, 4, 0] rfl ?_
        exact w_D_meet_b328 hL h hQ hK275 v1 v3 r44 v2 0 M43 hw
      · have hw := o_f c46 hw
        refine g_iconst (v := 1) h d_D_meet_323 (by decide) ?_
        refine g_goto (tgt := 328) h d_D_meet_324 (by decide) ?_
        refine g_sub [1, 2, 4, 0] rfl ?_
        exact w_D_meet_b328 hL h hQ hK275 v1 v3 r44 v2 1 M43 hw
set_option maxHeartbeats 4000000 in
set_option maxRecDepth 100000 in
theorem w_D_meet_b201 {Z : ZT} {X : XT} (hL : Lay Z sD) (h : Ok Z X "FlowGateModel" c_D_meet ws_D_meet 5 ({ frames := 4, cells := 0, slots := 0, locals := 92 })) {res : Mm} (hQ : FinV Z X res)  : ∀ (n : Nat) (v1 : Int32) (v2 : Int32) (v3 : Int32) (M : Mm), F_D_meet_b201  n v1 v2 v3 M = some res → G Z X M 201 [(0, .ref (za Z 30 0)), (1, .int v1), (2, .int v2), (3, .int v3)] [] := by
  intro n
  induction n with
  | zero =>
    intro v1 v2 v3 M hw
    cases hw
  | succ n hK201 =>
    intro v1 v2 v3 M hw
    rw [F_D_meet_b201] at hw
    refine g_iload_n h d_D_meet_201 rfl rfl ?_
    refine g_bipush (v := 12) h d_D_meet_202 (by decide) ?_
    refine g_icmp_ge (tgt := 273) h d_D_meet_204 (by decide) (fun c47 => ?_) (fun c47 => ?_)
    · have hw := o_t c47 hw
      refine g_iconst (v := 0) h d_D_meet_273 (by decide) ?_
      refine g_istore_n (lv' := [(3, .int 0), (0, .ref (za Z 30 0)), (1, .int v1), (2, .int v2)]) h d_D_meet_274 rfl (by decide) rfl ?_
      refine g_sub [1, 2, 3, 0] rfl ?_
      exact w_D_meet_b275 hL h hQ  fuel v1 v2 0 M hw
    · have hw := o_f c47 hw
      refine g_aload_n h d_D_meet_207 rfl rfl ?_
      refine g_aload_n h d_D_meet_208 rfl rfl ?_
      refine g_getR (t := 30) (i := 0) (k := 19) (C := "FlowGateModel") (T := T_D) (N := 42) h hL rfl (by decide) ob_30 (by decide) rfl (t' := 43) (i' := 0) rfl rfl (fun w hw => mc (in_D w hw)) (mc m_fl_D_51) rfl d_D_meet_209 ?_
      refine g_bipush (v := 12) h d_D_meet_212 (by decide) ?_
      refine g_iload_n h d_D_meet_214 rfl rfl ?_
      refine g_imul h d_D_meet_215 ?_
      refine g_iload_n h d_D_meet_216 rfl rfl ?_
      refine g_iadd h d_D_meet_217 ?_
      obtain ⟨hv48, hw⟩ := o_in hw
      refine g_iald (t := 43) (i := 0) h hL rfl (by decide) rfl rfl hv48 d_D_meet_218 ?_
      refine g_aload_n h d_D_meet_219 rfl rfl ?_
      refine g_getR (t := 30) (i := 0) (k := 28) (C := "FlowGateModel") (T := T_D) (N := 42) h hL rfl (by decide) ob_30 (by decide) rfl (t' := 52) (i' := 0) rfl rfl (fun w hw => mc (in_D w hw)) (mc m_fl_D_79) rfl d_D_meet_220 ?_
      refine g_iload_n h d_D_meet_223 rfl rfl ?_
      obtain ⟨hv49, hw⟩ := o_in hw
      refine g_iald (t := 52) (i := 0) h hL rfl (by decide) rfl rfl hv49 d_D_meet_224 ?_
      obtain ⟨r52, M51, hc50, hw⟩ := o_b hw
      refine g_calli h (g_runV (rest := []) h (ct_D_joined hL (M.1 43 0 ((12 : Int32) * v1 + v3 : Int32).toNatClampNeg) (M.1 52 0 (v3 : Int32).toNatClampNeg) M hc50) (cwV 2 h.2.2.2.2.1 (g_V m_ml_D_175 m_im_D_joined m_se_D_joined m_in_D m_co_D_joined) rfl rfl rfl (by decide +kernel) ⟨Nat.le_of_ble_eq_true rfl, Nat.le_of_ble_eq_true rfl⟩) (hL.recv h rfl (by decide) ob_30) rfl rfl (Nat.le_of_ble_eq_true rfl) d_D_meet_225) ?_
      refine g_istore (lv' := [(4, .int r52), (0, .ref (za Z 30 0)), (1, .int v1), (2, .int v2), (3, .int v3)]) h d_D_meet_228 (by decide) rfl ?_
      refine g_iload_n h d_D_meet_230 rfl rfl ?_
      refine g_iload h d_D_meet_231 rfl ?_
      refine g_aload_n h d_D_meet_233 rfl rfl ?_
      refine g_getR (t := 30) (i := 0) (k := 19) (C := "FlowGateModel") (T := T_D) (N := 42) h hL rfl (by decide) ob_30 (by decide) rfl (t' := 43) (i' := 0) rfl rfl (fun w hw => mc (in_D w hw)) (mc m_fl_D_51) rfl d_D_meet_234 ?_
      refine g_bipush (v := 12) h d_D_meet_237 (by decide) ?_
      refine g_iload_n h d_D_meet_239 rfl rfl ?_
      refine g_imul h d_D_meet_240 ?_
      refine g_iload_n h d_D_meet_241 rfl rfl ?_
      refine g_iadd h d_D_meet_242 ?_
      obtain ⟨hv53, hw⟩ := o_in hw
      refine g_iald (t := 43) (i := 0) h hL rfl (by decide) rfl rfl hv53 d_D_meet_243 ?_
      refine g_icmp_eq (tgt := 251) h d_D_meet_244 (by decide) (fun c54 => ?_) (fun c54 => ?_)
      · have hw := o_t c54 hw
        refine g_iconst (v := 0) h d_D_meet_251 (by decide) ?_
        refine g_sub [1, 2, 4, 0] rfl ?_
        exact w_D_meet_b252 hL h hQ hK201 v1 v3 r52 v2 0 M51 hw
      · have hw := o_f c54 hw
        refine g_iconst (v := 1) h d_D_meet_247 (by decide) ?_
        refine g_goto (tgt := 252) h d_D_meet_248 (by decide) ?_
        refine g_sub [1, 2, 4, 0] rfl ?_
        exact w_D_meet_b252 hL h hQ hK201 v1 v3 r52 v2 1 M51 hw
set_option maxHeartbeats 4000000 in
set_option maxRecDepth 100000 in
theorem w_D_meet_b185 {Z : ZT} {X : XT} (hL : Lay Z sD) (h : Ok Z X "FlowGateModel" c_D_meet ws_D_meet 5 ({ frames := 4, cells := 0, slots := 0, locals := 92 })) {res : Mm} (hQ : FinV Z X res)  (v1 : Int32) (s0 : Int32) (M : Mm)  (hw : F_D_meet_b185 v1 s0 M = some res) : G Z X M 185 [(0, .ref (za Z 30 0)), (1, .int v1)] [.int s0] := by
  rw [F_D_meet_b185] at hw
  refine g_istore_n (lv' := [(2, .int s0), (0, .ref (za Z 30 0)), (1, .int v1)]) h d_D_meet_185 rfl (by decide) rfl ?_
  refine g_aload_n h d_D_meet_186 rfl rfl ?_
  refine g_getR (t := 30) (i := 0) (k := 23) (C := "FlowGateModel") (T := T_D) (N := 42) h hL rfl (by decide) ob_30 (by decide) rfl (t' := 47) (i' := 0) rfl rfl (fun w hw => mc (in_D w hw)) (mc m_fl_D_63) rfl d_D_meet_187 ?_
  refine g_iload_n h d_D_meet_190 rfl rfl ?_
  refine g_dup2_11 h d_D_meet_191 rfl rfl ?_
  obtain ⟨hv55, hw⟩ := o_in hw
  refine g_lald (t := 47) (i := 0) h hL rfl (by decide) rfl rfl hv55 d_D_meet_192 ?_
  refine g_aload_n h d_D_meet_193 rfl rfl ?_
  refine g_getL (t := 30) (i := 0) (k := 40) (C := "FlowGateModel") (T := T_D) (N := 42) h hL rfl (by decide) ob_30 (by decide) rfl (fun w hw => mc (in_D w hw)) (mc m_fl_D_169) rfl d_D_meet_194 ?_
  refine g_land h d_D_meet_197 ?_
  obtain ⟨hv56, hw⟩ := o_in hw
  refine g_last (t := 47) (i := 0) h hL rfl (by decide) rfl rfl hv56 d_D_meet_198 ?_
  refine g_mem (fun M57 eM57 => ?_)
  have hw := o_l hw M57 eM57
  refine g_iconst (v := 0) h d_D_meet_199 (by decide) ?_
  refine g_istore_n (lv' := [(3, .int 0), (2, .int s0), (0, .ref (za Z 30 0)), (1, .int v1)]) h d_D_meet_200 rfl (by decide) rfl ?_
  refine g_sub [2, 3, 1, 0] rfl ?_
  exact w_D_meet_b201 hL h hQ  fuel v1 s0 0 M57 hw
set_option maxHeartbeats 4000000 in
set_option maxRecDepth 100000 in
theorem ct_D_meet {Z : ZT} (hL : Lay Z sD) (v1 : Int32) (M : Mm)  {res : Mm} (hw : F_D_meet v1 M = some res) : CtV Z y_D_meet ws_D_meet (({ frames := 4, cells := 0, slots := 0, locals := 92 })) [.ref (za Z 30 0), .int v1] M res := by
  refine CtV.of hL (cc := c_D_meet) (maxL := 5) (by decide) rfl (Nat.le_of_ble_eq_true rfl) (fun X h hQ => ?_)
  show G Z X M 0 [(0, .ref (za Z 30 0)), (1, .int v1)] []
  rw [F_D_meet] at hw
  refine g_aload_n h d_D_meet_0 rfl rfl ?_
  refine g_getR (t := 30) (i := 0) (k := 17) (C := "FlowGateModel") (T := T_D) (N := 42) h hL rfl (by decide) ob_30 (by decide) rfl (t' := 41) (i' := 0) rfl rfl (fun w hw => mc (in_D w hw)) (mc m_fl_D_45) rfl d_D_meet_1 ?_
  refine g_iload_n h d_D_meet_4 rfl rfl ?_
  obtain ⟨hv58, hw⟩ := o_in hw
  refine g_zald (t := 41) (i := 0) h hL rfl (by decide) rfl rfl hv58 d_D_meet_5 ?_
  refine g_if_ne (tgt := 139) h d_D_meet_6 (by decide) (fun c59 => ?_) (fun c59 => ?_)
  · have hw := o_f c59 hw
    refine g_aload_n h d_D_meet_139 rfl rfl ?_
    refine g_getR (t := 30) (i := 0) (k := 21) (C := "FlowGateModel") (T := T_D) (N := 42) h hL rfl (by decide) ob_30 (by decide) rfl (t' := 45) (i' := 0) rfl rfl (fun w hw => mc (in_D w hw)) (mc m_fl_D_57) rfl d_D_meet_140 ?_
    refine g_iload_n h d_D_meet_143 rfl rfl ?_
    obtain ⟨hv60, hw⟩ := o_in hw
    refine g_iald (t := 45) (i := 0) h hL rfl (by decide) rfl rfl hv60 d_D_meet_144 ?_
    refine g_aload_n h d_D_meet_145 rfl rfl ?_
    refine g_getI (t := 30) (i := 0) (k := 33) (C := "FlowGateModel") (T := T_D) (N := 42) h hL rfl (by decide) ob_30 (by decide) rfl (fun w hw => mc (in_D w hw)) (mc m_fl_D_166) rfl d_D_meet_146 ?_
    refine g_icmp_eq (tgt := 159) h d_D_meet_149 (by decide) (fun c61 => ?_) (fun c61 => ?_)
    · have hw := o_t c61 hw
      refine g_aload_n h d_D_meet_159 rfl rfl ?_
      refine g_getR (t := 30) (i := 0) (k := 23) (C := "FlowGateModel") (T := T_D) (N := 42) h hL rfl (by decide) ob_30 (by decide) rfl (t' := 47) (i' := 0) rfl rfl (fun w hw => mc (in_D w hw)) (mc m_fl_D_63) rfl d_D_meet_160 ?_
      refine g_iload_n h d_D_meet_163 rfl rfl ?_
      obtain ⟨hv62, hw⟩ := o_in hw
      refine g_lald (t := 47) (i := 0) h hL rfl (by decide) rfl rfl hv62 d_D_meet_164 ?_
      refine g_aload_n h d_D_meet_165 rfl rfl ?_
      refine g_getL (t := 30) (i := 0) (k := 40) (C := "FlowGateModel") (T := T_D) (N := 42) h hL rfl (by decide) ob_30 (by decide) rfl (fun w hw => mc (in_D w hw)) (mc m_fl_D_169) rfl d_D_meet_166 ?_
      refine g_land h d_D_meet_169 ?_
      refine g_aload_n h d_D_meet_170 rfl rfl ?_
      refine g_getR (t := 30) (i := 0) (k := 23) (C := "FlowGateModel") (T := T_D) (N := 42) h hL rfl (by decide) ob_30 (by decide) rfl (t' := 47) (i' := 0) rfl rfl (fun w hw => mc (in_D w hw)) (mc m_fl_D_63) rfl d_D_meet_171 ?_
      refine g_iload_n h d_D_meet_174 rfl rfl ?_
      obtain ⟨hv63, hw⟩ := o_in hw
      refine g_lald (t := 47) (i := 0) h hL rfl (by decide) rfl rfl hv63 d_D_meet_175 ?_
      refine g_lcmp h d_D_meet_176 ?_
      refine g_if_eq (tgt := 184) h d_D_meet_177 (by decide) (fun c64 => ?_) (fun c64 => ?_)
      · have hw := o_t c64 hw
        refine g_iconst (v := 0) h d_D_meet_184 (by decide) ?_
        refine g_sub [0, 1] rfl ?_
        exact w_D_meet_b185 hL h hQ  v1 0 M hw
      · have hw := o_f c64 hw
        refine g_iconst (v := 1) h d_D_meet_180 (by decide) ?_
        refine g_goto (tgt := 185) h d_D_meet_181 (by decide) ?_
        refine g_sub [0, 1] rfl ?_
        exact w_D_meet_b185 hL h hQ  v1 1 M hw
    · have hw := o_f c61 hw
      refine g_aload_n h d_D_meet_152 rfl rfl ?_
      refine g_iconst (v := 4) h d_D_meet_153 (by decide) ?_
      refine g_iload_n h d_D_meet_154 rfl rfl ?_
      obtain ⟨M66, hc65, hw⟩ := o_v hw
      refine g_callv h (g_runV (rest := []) h (ct_D_fail hL 4 v1 M hc65) (cwV 2 h.2.2.2.2.1 (g_V m_ml_D_133 m_im_D_fail m_se_D_fail m_in_D m_co_D_fail) rfl rfl rfl (by decide +kernel) ⟨Nat.le_of_ble_eq_true rfl, Nat.le_of_ble_eq_true rfl⟩) (hL.recv h rfl (by decide) ob_30) rfl rfl (Nat.le_of_ble_eq_true rfl) d_D_meet_155) ?_
      exact g_vret h hQ d_D_meet_158 hw
  · have hw := o_t c59 hw
    refine g_aload_n h d_D_meet_9 rfl rfl ?_
    refine g_getR (t := 30) (i := 0) (k := 17) (C := "FlowGateModel") (T := T_D) (N := 42) h hL rfl (by decide) ob_30 (by decide) rfl (t' := 41) (i' := 0) rfl rfl (fun w hw => mc (in_D w hw)) (mc m_fl_D_45) rfl d_D_meet_10 ?_
    refine g_iload_n h d_D_meet_13 rfl rfl ?_
    refine g_iconst (v := 1) h d_D_meet_14 (by decide) ?_
    obtain ⟨hv67, hw⟩ := o_in hw
    refine g_zast (t := 41) (i := 0) h hL rfl (by decide) rfl rfl hv67 d_D_meet_15 ?_
    refine g_mem (fun M68 eM68 => ?_)
    have hw := o_l hw M68 eM68
    refine g_aload_n h d_D_meet_16 rfl rfl ?_
    refine g_getR (t := 30) (i := 0) (k := 18) (C := "FlowGateModel") (T := T_D) (N := 42) h hL rfl (by decide) ob_30 (by decide) rfl (t' := 42) (i' := 0) rfl rfl (fun w hw => mc (in_D w hw)) (mc m_fl_D_48) rfl d_D_meet_17 ?_
    refine g_iload_n h d_D_meet_20 rfl rfl ?_
    refine g_iconst (v := 1) h d_D_meet_21 (by decide) ?_
    obtain ⟨hv69, hw⟩ := o_in hw
    refine g_zast (t := 42) (i := 0) h hL rfl (by decide) rfl rfl hv69 d_D_meet_22 ?_
    refine g_mem (fun M70 eM70 => ?_)
    have hw := o_l hw M70 eM70
    refine g_aload_n h d_D_meet_23 rfl rfl ?_
    refine g_getR (t := 30) (i := 0) (k := 21) (C := "FlowGateModel") (T := T_D) (N := 42) h hL rfl (by decide) ob_30 (by decide) rfl (t' := 45) (i' := 0) rfl rfl (fun w hw => mc (in_D w hw)) (mc m_fl_D_57) rfl d_D_meet_24 ?_
    refine g_iload_n h d_D_meet_27 rfl rfl ?_
    refine g_aload_n h d_D_meet_28 rfl rfl ?_
    refine g_getI (t := 30) (i := 0) (k := 33) (C := "FlowGateModel") (T := T_D) (N := 42) h hL rfl (by decide) ob_30 (by decide) rfl (fun w hw => mc (in_D w hw)) (mc m_fl_D_166) rfl d_D_meet_29 ?_
    obtain ⟨hv71, hw⟩ := o_in hw
    refine g_iast (t := 45) (i := 0) h hL rfl (by decide) rfl rfl hv71 d_D_meet_32 ?_
    refine g_mem (fun M72 eM72 => ?_)
    have hw := o_l hw M72 eM72
    refine g_aload_n h d_D_meet_33 rfl rfl ?_
    refine g_getR (t := 30) (i := 0) (k := 23) (C := "FlowGateModel") (T := T_D) (N := 42) h hL rfl (by decide) ob_30 (by decide) rfl (t' := 47) (i' := 0) rfl rfl (fun w hw => mc (in_D w hw)) (mc m_fl_D_63) rfl d_D_meet_34 ?_
    refine g_iload_n h d_D_meet_37 rfl rfl ?_
    refine g_aload_n h d_D_meet_38 rfl rfl ?_
    refine g_getL (t := 30) (i := 0) (k := 40) (C := "FlowGateModel") (T := T_D) (N := 42) h hL rfl (by decide) ob_30 (by decide) rfl (fun w hw => mc (in_D w hw)) (mc m_fl_D_169) rfl d_D_meet_39 ?_
    obtain ⟨hv73, hw⟩ := o_in hw
    refine g_last (t := 47) (i := 0) h hL rfl (by decide) rfl rfl hv73 d_D_meet_42 ?_
    refine g_mem (fun M74 eM74 => ?_)
    have hw := o_l hw M74 eM74
    refine g_iconst (v := 0) h d_D_meet_43 (by decide) ?_
    refine g_istore_n (lv' := [(2, .int 0), (0, .ref (za Z 30 0)), (1, .int v1)]) h d_D_meet_44 rfl (by decide) rfl ?_
    refine g_sub [1, 2, 0] rfl ?_
    exact w_D_meet_b45 hL h hQ  fuel v1 0 M74 hw
set_option maxHeartbeats 4000000 in
set_option maxRecDepth 100000 in
theorem w_D_begins_b63 {Z : ZT} {X : XT} (hL : Lay Z sD) (h : Ok Z X "FlowGateModel" c_D_begins ws_D_begins 3 ({ frames := 5, cells := 0, slots := 0, locals := 116 })) {res : Mm} (hQ : FinV Z X res) {K25 : Int32 → Int32 → Mm → Option (Mm)} (hK25 : ∀ (v1 : Int32) (v2 : Int32) (M : Mm), K25 v1 v2 M = some res → G Z X M 25 [(0, .ref (za Z 30 0)), (1, .int v1), (2, .int v2)] []) (v2 : Int32) (s0 : Int32) (s1 : Int32) (M : Mm)  (hw : F_D_begins_b63 K25 v2 s0 s1 M = some res) : G Z X M 63 [(0, .ref (za Z 30 0)), (2, .int v2)] [.int s1, .int s0] := by
  rw [F_D_begins_b63] at hw
  refine g_iadd h d_D_begins_63 ?_
  refine g_topi (fun n1 en1 => ?_)
  have hw := o_l hw n1 en1
  refine g_istore_n (lv' := [(1, .int n1), (0, .ref (za Z 30 0)), (2, .int v2)]) h d_D_begins_64 rfl (by decide) rfl ?_
  refine g_iinc (n' := 1) (lw := fun y => [(2, .int y), (1, .int n1), (0, .ref (za Z 30 0))]) h d_D_begins_65 rfl (by decide) (by decide) (fun _ => rfl) (fun n2 en2 => ?_)
  have hw := o_l hw n2 en2
  refine g_goto (tgt := 25) h d_D_begins_68 (by decide) ?_
  refine g_sub [2, 1, 0] rfl ?_
  exact hK25 n1 n2 M hw
set_option maxHeartbeats 4000000 in
set_option maxRecDepth 100000 in
theorem w_D_begins_b25 {Z : ZT} {X : XT} (hL : Lay Z sD) (h : Ok Z X "FlowGateModel" c_D_begins ws_D_begins 3 ({ frames := 5, cells := 0, slots := 0, locals := 116 })) {res : Mm} (hQ : FinV Z X res)  : ∀ (n : Nat) (v1 : Int32) (v2 : Int32) (M : Mm), F_D_begins_b25  n v1 v2 M = some res → G Z X M 25 [(0, .ref (za Z 30 0)), (1, .int v1), (2, .int v2)] [] := by
  intro n
  induction n with
  | zero =>
    intro v1 v2 M hw
    cases hw
  | succ n hK25 =>
    intro v1 v2 M hw
    rw [F_D_begins_b25] at hw
    refine g_iload_n h d_D_begins_25 rfl rfl ?_
    refine g_aload_n h d_D_begins_26 rfl rfl ?_
    refine g_getI (t := 30) (i := 0) (k := 13) (C := "FlowGateModel") (T := T_D) (N := 42) h hL rfl (by decide) ob_30 (by decide) rfl (fun w hw => mc (in_D w hw)) (mc m_fl_D_124) rfl d_D_begins_27 ?_
    refine g_icmp_ge (tgt := 71) h d_D_begins_30 (by decide) (fun c3 => ?_) (fun c3 => ?_)
    · have hw := o_t c3 hw
      refine g_aload_n h d_D_begins_71 rfl rfl ?_
      refine g_iconst (v := 0) h d_D_begins_72 (by decide) ?_
      refine g_putI (t := 30) (i := 0) (k := 33) (C := "FlowGateModel") (T := T_D) (N := 42) h hL rfl (by decide) ob_30 (by decide) rfl (fun w hw => mc (in_D w hw)) ty_D ty_D_ok nm_D (mc m_fl_D_166) rfl rfl rfl d_D_begins_73 ?_
      refine g_mem (fun M4 eM4 => ?_)
      have hw := o_l hw M4 eM4
      refine g_aload_n h d_D_begins_76 rfl rfl ?_
      refine g_lconst (v := 0) h d_D_begins_77 rfl ?_
      refine g_putL (t := 30) (i := 0) (k := 40) (C := "FlowGateModel") (T := T_D) (N := 42) h hL rfl (by decide) ob_30 (by decide) rfl (fun w hw => mc (in_D w hw)) ty_D ty_D_ok nm_D (mc m_fl_D_169) rfl rfl rfl d_D_begins_78 ?_
      refine g_mem (fun M5 eM5 => ?_)
      have hw := o_l hw M5 eM5
      refine g_aload_n h d_D_begins_81 rfl rfl ?_
      refine g_iconst (v := 0) h d_D_begins_82 (by decide) ?_
      obtain ⟨M7, hc6, hw⟩ := o_v hw
      refine g_callv h (g_runV (rest := []) h (ct_D_meet hL 0 M5 hc6) (cwV 1 h.2.2.2.2.1 (g_V m_ml_D_172 m_im_D_meet m_se_D_meet m_in_D m_co_D_meet) rfl rfl rfl (by decide +kernel) ⟨Nat.le_of_ble_eq_true rfl, Nat.le_of_ble_eq_true rfl⟩) (hL.recv h rfl (by decide) ob_30) rfl rfl (Nat.le_of_ble_eq_true rfl) d_D_begins_83) ?_
      exact g_vret h hQ d_D_begins_86 hw
    · have hw := o_f c3 hw
      refine g_aload_n h d_D_begins_33 rfl rfl ?_
      refine g_getR (t := 30) (i := 0) (k := 28) (C := "FlowGateModel") (T := T_D) (N := 42) h hL rfl (by decide) ob_30 (by decide) rfl (t' := 52) (i' := 0) rfl rfl (fun w hw => mc (in_D w hw)) (mc m_fl_D_79) rfl d_D_begins_34 ?_
      refine g_iload_n h d_D_begins_37 rfl rfl ?_
      refine g_aload_n h d_D_begins_38 rfl rfl ?_
      refine g_getR (t := 30) (i := 0) (k := 10) (C := "FlowGateModel") (T := T_D) (N := 42) h hL rfl (by decide) ob_30 (by decide) rfl (t' := 40) (i' := 0) rfl rfl (fun w hw => mc (in_D w hw)) (mc m_fl_D_42) rfl d_D_begins_39 ?_
      refine g_iload_n h d_D_begins_42 rfl rfl ?_
      obtain ⟨hv8, hw⟩ := o_in hw
      refine g_iald (t := 40) (i := 0) h hL rfl (by decide) rfl rfl hv8 d_D_begins_43 ?_
      obtain ⟨hv9, hw⟩ := o_in hw
      refine g_iast (t := 52) (i := 0) h hL rfl (by decide) rfl rfl hv9 d_D_begins_44 ?_
      refine g_mem (fun M10 eM10 => ?_)
      have hw := o_l hw M10 eM10
      refine g_iload_n h d_D_begins_45 rfl rfl ?_
      refine g_aload_n h d_D_begins_46 rfl rfl ?_
      refine g_getR (t := 30) (i := 0) (k := 10) (C := "FlowGateModel") (T := T_D) (N := 42) h hL rfl (by decide) ob_30 (by decide) rfl (t' := 40) (i' := 0) rfl rfl (fun w hw => mc (in_D w hw)) (mc m_fl_D_42) rfl d_D_begins_47 ?_
      refine g_iload_n h d_D_begins_50 rfl rfl ?_
      obtain ⟨hv11, hw⟩ := o_in hw
      refine g_iald (t := 40) (i := 0) h hL rfl (by decide) rfl rfl hv11 d_D_begins_51 ?_
      refine g_calli h (g_runS (rest := [.int v1]) h (ct_D_isWide hL (M10.1 40 0 (v2 : Int32).toNatClampNeg) M10 (p_D_isWide (M10.1 40 0 (v2 : Int32).toNatClampNeg) M10)) (cwS 1 h.2.2.2.2.1 (g_S m_ml_D_140 m_st_D_isWide m_in_D m_co_D_isWide) rfl rfl rfl (by decide +kernel) ⟨Nat.le_of_ble_eq_true rfl, Nat.le_of_ble_eq_true rfl⟩) rfl rfl (Nat.le_of_ble_eq_true rfl) d_D_begins_52) ?_
      refine g_topi (fun r13 er13 => ?_)
      have hw := o_l hw r13 er13
      refine g_if_eq (tgt := 62) h d_D_begins_55 (by decide) (fun c14 => ?_) (fun c14 => ?_)
      · have hw := o_t c14 hw
        refine g_iconst (v := 1) h d_D_begins_62 (by decide) ?_
        refine g_sub [0, 2] rfl ?_
        exact w_D_begins_b63 hL h hQ hK25 v2 v1 1 M10 hw
      · have hw := o_f c14 hw
        refine g_iconst (v := 2) h d_D_begins_58 (by decide) ?_
        refine g_goto (tgt := 63) h d_D_begins_59 (by decide) ?_
        refine g_sub [0, 2] rfl ?_
        exact w_D_begins_b63 hL h hQ hK25 v2 v1 2 M10 hw
set_option maxHeartbeats 4000000 in
set_option maxRecDepth 100000 in
theorem w_D_begins_b4 {Z : ZT} {X : XT} (hL : Lay Z sD) (h : Ok Z X "FlowGateModel" c_D_begins ws_D_begins 3 ({ frames := 5, cells := 0, slots := 0, locals := 116 })) {res : Mm} (hQ : FinV Z X res)  : ∀ (n : Nat) (v1 : Int32) (v2 : Int32) (M : Mm), F_D_begins_b4  n v1 v2 M = some res → G Z X M 4 [(0, .ref (za Z 30 0)), (1, .int v1), (2, .int v2)] [] := by
  intro n
  induction n with
  | zero =>
    intro v1 v2 M hw
    cases hw
  | succ n hK4 =>
    intro v1 v2 M hw
    rw [F_D_begins_b4] at hw
    refine g_iload_n h d_D_begins_4 rfl rfl ?_
    refine g_bipush (v := 12) h d_D_begins_5 (by decide) ?_
    refine g_icmp_ge (tgt := 23) h d_D_begins_7 (by decide) (fun c15 => ?_) (fun c15 => ?_)
    · have hw := o_t c15 hw
      refine g_iconst (v := 0) h d_D_begins_23 (by decide) ?_
      refine g_istore_n (lv' := [(2, .int 0), (0, .ref (za Z 30 0)), (1, .int v1)]) h d_D_begins_24 rfl (by decide) rfl ?_
      refine g_sub [1, 2, 0] rfl ?_
      exact w_D_begins_b25 hL h hQ  fuel v1 0 M hw
    · have hw := o_f c15 hw
      refine g_aload_n h d_D_begins_10 rfl rfl ?_
      refine g_getR (t := 30) (i := 0) (k := 28) (C := "FlowGateModel") (T := T_D) (N := 42) h hL rfl (by decide) ob_30 (by decide) rfl (t' := 52) (i' := 0) rfl rfl (fun w hw => mc (in_D w hw)) (mc m_fl_D_79) rfl d_D_begins_11 ?_
      refine g_iload_n h d_D_begins_14 rfl rfl ?_
      refine g_iconst (v := 0) h d_D_begins_15 (by decide) ?_
      obtain ⟨hv16, hw⟩ := o_in hw
      refine g_iast (t := 52) (i := 0) h hL rfl (by decide) rfl rfl hv16 d_D_begins_16 ?_
      refine g_mem (fun M17 eM17 => ?_)
      have hw := o_l hw M17 eM17
      refine g_iinc (n' := 1) (lw := fun y => [(2, .int y), (0, .ref (za Z 30 0)), (1, .int v1)]) h d_D_begins_17 rfl (by decide) (by decide) (fun _ => rfl) (fun n18 en18 => ?_)
      have hw := o_l hw n18 en18
      refine g_goto (tgt := 4) h d_D_begins_20 (by decide) ?_
      refine g_sub [1, 2, 0] rfl ?_
      exact hK4 v1 n18 M17 hw
set_option maxHeartbeats 4000000 in
set_option maxRecDepth 100000 in
theorem ct_D_begins {Z : ZT} (hL : Lay Z sD)  (M : Mm)  {res : Mm} (hw : F_D_begins M = some res) : CtV Z y_D_begins ws_D_begins (({ frames := 5, cells := 0, slots := 0, locals := 116 })) [.ref (za Z 30 0)] M res := by
  refine CtV.of hL (cc := c_D_begins) (maxL := 3) (by decide) rfl (Nat.le_of_ble_eq_true rfl) (fun X h hQ => ?_)
  show G Z X M 0 [(0, .ref (za Z 30 0))] []
  rw [F_D_begins] at hw
  refine g_iconst (v := 0) h d_D_begins_0 (by decide) ?_
  refine g_istore_n (lv' := [(1, .int 0), (0, .ref (za Z 30 0))]) h d_D_begins_1 rfl (by decide) rfl ?_
  refine g_iconst (v := 0) h d_D_begins_2 (by decide) ?_
  refine g_istore_n (lv' := [(2, .int 0), (1, .int 0), (0, .ref (za Z 30 0))]) h d_D_begins_3 rfl (by decide) rfl ?_
  refine g_sub [2, 1, 0] rfl ?_
  exact w_D_begins_b4 hL h hQ  fuel 0 0 M hw
