set_option maxHeartbeats 4000000 in
set_option maxRecDepth 100000 in
theorem w_D_form_b56 {Z : ZT} {X : XT} (hL : Lay Z sD) (h : Ok Z X "FlowGateModel" c_D_form ws_D_form 3 ({ frames := 5, cells := 0, slots := 0, locals := 108 })) {res : Mm} (hQ : FinV Z X res) {K15 : Int32 → Mm → Option (Mm)} (hK15 : ∀ (v1 : Int32) (M : Mm), K15 v1 M = some res → G Z X M 15 [(0, .ref (za Z 30 0)), (1, .int v1)] []) (v1 : Int32) (M : Mm)  (hw : F_D_form_b56 K15 v1 M = some res) : G Z X M 56 [(0, .ref (za Z 30 0)), (1, .int v1)] [] := by
  rw [F_D_form_b56] at hw
  refine g_iinc (n' := 1) (lw := fun y => [(1, .int y), (0, .ref (za Z 30 0))]) h d_D_form_56 rfl (by decide) (by decide) (fun _ => rfl) (fun n1 en1 => ?_)
  have hw := o_l hw n1 en1
  refine g_goto (tgt := 15) h d_D_form_59 (by decide) ?_
  refine g_sub [1, 0] rfl ?_
  exact hK15 n1 M hw
set_option maxHeartbeats 4000000 in
set_option maxRecDepth 100000 in
theorem w_D_form_b164 {Z : ZT} {X : XT} (hL : Lay Z sD) (h : Ok Z X "FlowGateModel" c_D_form ws_D_form 3 ({ frames := 5, cells := 0, slots := 0, locals := 108 })) {res : Mm} (hQ : FinV Z X res) {K64 : Int32 → Mm → Option (Mm)} (hK64 : ∀ (v1 : Int32) (M : Mm), K64 v1 M = some res → G Z X M 64 [(0, .ref (za Z 30 0)), (1, .int v1)] []) (v1 : Int32) (M : Mm)  (hw : F_D_form_b164 K64 v1 M = some res) : G Z X M 164 [(0, .ref (za Z 30 0)), (1, .int v1)] [] := by
  rw [F_D_form_b164] at hw
  refine g_iinc (n' := 1) (lw := fun y => [(1, .int y), (0, .ref (za Z 30 0))]) h d_D_form_164 rfl (by decide) (by decide) (fun _ => rfl) (fun n2 en2 => ?_)
  have hw := o_l hw n2 en2
  refine g_goto (tgt := 64) h d_D_form_167 (by decide) ?_
  refine g_sub [1, 0] rfl ?_
  exact hK64 n2 M hw
set_option maxHeartbeats 4000000 in
set_option maxRecDepth 100000 in
theorem w_D_form_b155 {Z : ZT} {X : XT} (hL : Lay Z sD) (h : Ok Z X "FlowGateModel" c_D_form ws_D_form 3 ({ frames := 5, cells := 0, slots := 0, locals := 108 })) {res : Mm} (hQ : FinV Z X res) {K64 : Int32 → Mm → Option (Mm)} (hK64 : ∀ (v1 : Int32) (M : Mm), K64 v1 M = some res → G Z X M 64 [(0, .ref (za Z 30 0)), (1, .int v1)] []) (v1 : Int32) (M : Mm)  (hw : F_D_form_b155 K64 v1 M = some res) : G Z X M 155 [(0, .ref (za Z 30 0)), (1, .int v1)] [] := by
  rw [F_D_form_b155] at hw
  refine g_aload_n h d_D_form_155 rfl rfl ?_
  refine g_iconst (v := 1) h d_D_form_156 (by decide) ?_
  refine g_bipush (v := 100) h d_D_form_157 (by decide) ?_
  refine g_iload_n h d_D_form_159 rfl rfl ?_
  refine g_iadd h d_D_form_160 ?_
  obtain ⟨M4, hc3, hw⟩ := o_v hw
  refine g_callv h (g_runV (rest := []) h (ct_D_fail hL 1 ((100 : Int32) + v1) M hc3) (cwV 2 h.2.2.2.2.1 (g_V m_ml_D_133 m_im_D_fail m_se_D_fail m_in_D m_co_D_fail) rfl rfl rfl (by decide +kernel) ⟨Nat.le_of_ble_eq_true rfl, Nat.le_of_ble_eq_true rfl⟩) (hL.recv h rfl (by decide) ob_30) rfl rfl (Nat.le_of_ble_eq_true rfl) d_D_form_161) ?_
  refine g_sub [0, 1] rfl ?_
  exact w_D_form_b164 hL h hQ hK64 v1 M4 hw
set_option maxHeartbeats 4000000 in
set_option maxRecDepth 100000 in
theorem w_D_form_b200 {Z : ZT} {X : XT} (hL : Lay Z sD) (h : Ok Z X "FlowGateModel" c_D_form ws_D_form 3 ({ frames := 5, cells := 0, slots := 0, locals := 108 })) {res : Mm} (hQ : FinV Z X res) {K174 : Int32 → Int32 → Mm → Option (Mm)} (hK174 : ∀ (v1 : Int32) (v2 : Int32) (M : Mm), K174 v1 v2 M = some res → G Z X M 174 [(0, .ref (za Z 30 0)), (1, .int v1), (2, .int v2)] []) (v2 : Int32) (s0 : Int32) (s1 : Int32) (M : Mm)  (hw : F_D_form_b200 K174 v2 s0 s1 M = some res) : G Z X M 200 [(0, .ref (za Z 30 0)), (2, .int v2)] [.int s1, .int s0] := by
  rw [F_D_form_b200] at hw
  refine g_iadd h d_D_form_200 ?_
  refine g_topi (fun n5 en5 => ?_)
  have hw := o_l hw n5 en5
  refine g_istore_n (lv' := [(1, .int n5), (0, .ref (za Z 30 0)), (2, .int v2)]) h d_D_form_201 rfl (by decide) rfl ?_
  refine g_iinc (n' := 1) (lw := fun y => [(2, .int y), (1, .int n5), (0, .ref (za Z 30 0))]) h d_D_form_202 rfl (by decide) (by decide) (fun _ => rfl) (fun n6 en6 => ?_)
  have hw := o_l hw n6 en6
  refine g_goto (tgt := 174) h d_D_form_205 (by decide) ?_
  refine g_sub [2, 1, 0] rfl ?_
  exact hK174 n5 n6 M hw
set_option maxHeartbeats 4000000 in
set_option maxRecDepth 100000 in
theorem w_D_form_b174 {Z : ZT} {X : XT} (hL : Lay Z sD) (h : Ok Z X "FlowGateModel" c_D_form ws_D_form 3 ({ frames := 5, cells := 0, slots := 0, locals := 108 })) {res : Mm} (hQ : FinV Z X res)  : ∀ (n : Nat) (v1 : Int32) (v2 : Int32) (M : Mm), F_D_form_b174  n v1 v2 M = some res → G Z X M 174 [(0, .ref (za Z 30 0)), (1, .int v1), (2, .int v2)] [] := by
  intro n
  induction n with
  | zero =>
    intro v1 v2 M hw
    cases hw
  | succ n hK174 =>
    intro v1 v2 M hw
    rw [F_D_form_b174] at hw
    refine g_iload_n h d_D_form_174 rfl rfl ?_
    refine g_aload_n h d_D_form_175 rfl rfl ?_
    refine g_getI (t := 30) (i := 0) (k := 13) (C := "FlowGateModel") (T := T_D) (N := 42) h hL rfl (by decide) ob_30 (by decide) rfl (fun w hw => mc (in_D w hw)) (mc m_fl_D_124) rfl d_D_form_176 ?_
    refine g_icmp_ge (tgt := 208) h d_D_form_179 (by decide) (fun c7 => ?_) (fun c7 => ?_)
    · have hw := o_t c7 hw
      refine g_iload_n h d_D_form_208 rfl rfl ?_
      refine g_aload_n h d_D_form_209 rfl rfl ?_
      refine g_getI (t := 30) (i := 0) (k := 15) (C := "FlowGateModel") (T := T_D) (N := 42) h hL rfl (by decide) ob_30 (by decide) rfl (fun w hw => mc (in_D w hw)) (mc m_fl_D_112) rfl d_D_form_210 ?_
      refine g_icmp_le (tgt := 224) h d_D_form_213 (by decide) (fun c8 => ?_) (fun c8 => ?_)
      · have hw := o_t c8 hw
        exact g_vret h hQ d_D_form_224 hw
      · have hw := o_f c8 hw
        refine g_aload_n h d_D_form_216 rfl rfl ?_
        refine g_iconst (v := 1) h d_D_form_217 (by decide) ?_
        refine g_sipush (v := 200) h d_D_form_218 (by decide) ?_
        obtain ⟨M10, hc9, hw⟩ := o_v hw
        refine g_callv h (g_runV (rest := []) h (ct_D_fail hL 1 200 M hc9) (cwV 2 h.2.2.2.2.1 (g_V m_ml_D_133 m_im_D_fail m_se_D_fail m_in_D m_co_D_fail) rfl rfl rfl (by decide +kernel) ⟨Nat.le_of_ble_eq_true rfl, Nat.le_of_ble_eq_true rfl⟩) (hL.recv h rfl (by decide) ob_30) rfl rfl (Nat.le_of_ble_eq_true rfl) d_D_form_221) ?_
        exact g_vret h hQ d_D_form_224 hw
    · have hw := o_f c7 hw
      refine g_iload_n h d_D_form_182 rfl rfl ?_
      refine g_aload_n h d_D_form_183 rfl rfl ?_
      refine g_getR (t := 30) (i := 0) (k := 10) (C := "FlowGateModel") (T := T_D) (N := 42) h hL rfl (by decide) ob_30 (by decide) rfl (t' := 40) (i' := 0) rfl rfl (fun w hw => mc (in_D w hw)) (mc m_fl_D_42) rfl d_D_form_184 ?_
      refine g_iload_n h d_D_form_187 rfl rfl ?_
      obtain ⟨hv11, hw⟩ := o_in hw
      refine g_iald (t := 40) (i := 0) h hL rfl (by decide) rfl rfl hv11 d_D_form_188 ?_
      refine g_calli h (g_runS (rest := [.int v1]) h (ct_D_isWide hL (M.1 40 0 (v2 : Int32).toNatClampNeg) M (p_D_isWide (M.1 40 0 (v2 : Int32).toNatClampNeg) M)) (cwS 1 h.2.2.2.2.1 (g_S m_ml_D_140 m_st_D_isWide m_in_D m_co_D_isWide) rfl rfl rfl (by decide +kernel) ⟨Nat.le_of_ble_eq_true rfl, Nat.le_of_ble_eq_true rfl⟩) rfl rfl (Nat.le_of_ble_eq_true rfl) d_D_form_189) ?_
      refine g_topi (fun r13 er13 => ?_)
      have hw := o_l hw r13 er13
      refine g_if_eq (tgt := 199) h d_D_form_192 (by decide) (fun c14 => ?_) (fun c14 => ?_)
      · have hw := o_t c14 hw
        refine g_iconst (v := 1) h d_D_form_199 (by decide) ?_
        refine g_sub [0, 2] rfl ?_
        exact w_D_form_b200 hL h hQ hK174 v2 v1 1 M hw
      · have hw := o_f c14 hw
        refine g_iconst (v := 2) h d_D_form_195 (by decide) ?_
        refine g_goto (tgt := 200) h d_D_form_196 (by decide) ?_
        refine g_sub [0, 2] rfl ?_
        exact w_D_form_b200 hL h hQ hK174 v2 v1 2 M hw
set_option maxHeartbeats 4000000 in
set_option maxRecDepth 100000 in
theorem w_D_form_b64 {Z : ZT} {X : XT} (hL : Lay Z sD) (h : Ok Z X "FlowGateModel" c_D_form ws_D_form 3 ({ frames := 5, cells := 0, slots := 0, locals := 108 })) {res : Mm} (hQ : FinV Z X res)  : ∀ (n : Nat) (v1 : Int32) (M : Mm), F_D_form_b64  n v1 M = some res → G Z X M 64 [(0, .ref (za Z 30 0)), (1, .int v1)] [] := by
  intro n
  induction n with
  | zero =>
    intro v1 M hw
    cases hw
  | succ n hK64 =>
    intro v1 M hw
    rw [F_D_form_b64] at hw
    refine g_iload_n h d_D_form_64 rfl rfl ?_
    refine g_aload_n h d_D_form_65 rfl rfl ?_
    refine g_getI (t := 30) (i := 0) (k := 12) (C := "FlowGateModel") (T := T_D) (N := 42) h hL rfl (by decide) ob_30 (by decide) rfl (fun w hw => mc (in_D w hw)) (mc m_fl_D_121) rfl d_D_form_66 ?_
    refine g_icmp_ge (tgt := 170) h d_D_form_69 (by decide) (fun c15 => ?_) (fun c15 => ?_)
    · have hw := o_t c15 hw
      refine g_iconst (v := 0) h d_D_form_170 (by decide) ?_
      refine g_istore_n (lv' := [(1, .int 0), (0, .ref (za Z 30 0))]) h d_D_form_171 rfl (by decide) rfl ?_
      refine g_iconst (v := 0) h d_D_form_172 (by decide) ?_
      refine g_istore_n (lv' := [(2, .int 0), (1, .int 0), (0, .ref (za Z 30 0))]) h d_D_form_173 rfl (by decide) rfl ?_
      refine g_sub [2, 1, 0] rfl ?_
      exact w_D_form_b174 hL h hQ  fuel 0 0 M hw
    · have hw := o_f c15 hw
      refine g_aload_n h d_D_form_72 rfl rfl ?_
      refine g_getR (t := 30) (i := 0) (k := 6) (C := "FlowGateModel") (T := T_D) (N := 42) h hL rfl (by decide) ob_30 (by decide) rfl (t' := 36) (i' := 0) rfl rfl (fun w hw => mc (in_D w hw)) (mc m_fl_D_30) rfl d_D_form_73 ?_
      refine g_iload_n h d_D_form_76 rfl rfl ?_
      obtain ⟨hv16, hw⟩ := o_in hw
      refine g_iald (t := 36) (i := 0) h hL rfl (by decide) rfl rfl hv16 d_D_form_77 ?_
      refine g_if_lt (tgt := 155) h d_D_form_78 (by decide) (fun c17 => ?_) (fun c17 => ?_)
      · have hw := o_t c17 hw
        refine g_sub [0, 1] rfl ?_
        exact w_D_form_b155 hL h hQ hK64 v1 M hw
      · have hw := o_f c17 hw
        refine g_aload_n h d_D_form_81 rfl rfl ?_
        refine g_getR (t := 30) (i := 0) (k := 6) (C := "FlowGateModel") (T := T_D) (N := 42) h hL rfl (by decide) ob_30 (by decide) rfl (t' := 36) (i' := 0) rfl rfl (fun w hw => mc (in_D w hw)) (mc m_fl_D_30) rfl d_D_form_82 ?_
        refine g_iload_n h d_D_form_85 rfl rfl ?_
        obtain ⟨hv18, hw⟩ := o_in hw
        refine g_iald (t := 36) (i := 0) h hL rfl (by decide) rfl rfl hv18 d_D_form_86 ?_
        refine g_aload_n h d_D_form_87 rfl rfl ?_
        refine g_getR (t := 30) (i := 0) (k := 7) (C := "FlowGateModel") (T := T_D) (N := 42) h hL rfl (by decide) ob_30 (by decide) rfl (t' := 37) (i' := 0) rfl rfl (fun w hw => mc (in_D w hw)) (mc m_fl_D_33) rfl d_D_form_88 ?_
        refine g_iload_n h d_D_form_91 rfl rfl ?_
        obtain ⟨hv19, hw⟩ := o_in hw
        refine g_iald (t := 37) (i := 0) h hL rfl (by decide) rfl rfl hv19 d_D_form_92 ?_
        refine g_icmp_ge (tgt := 155) h d_D_form_93 (by decide) (fun c20 => ?_) (fun c20 => ?_)
        · have hw := o_t c20 hw
          refine g_sub [0, 1] rfl ?_
          exact w_D_form_b155 hL h hQ hK64 v1 M hw
        · have hw := o_f c20 hw
          refine g_aload_n h d_D_form_96 rfl rfl ?_
          refine g_getR (t := 30) (i := 0) (k := 7) (C := "FlowGateModel") (T := T_D) (N := 42) h hL rfl (by decide) ob_30 (by decide) rfl (t' := 37) (i' := 0) rfl rfl (fun w hw => mc (in_D w hw)) (mc m_fl_D_33) rfl d_D_form_97 ?_
          refine g_iload_n h d_D_form_100 rfl rfl ?_
          obtain ⟨hv21, hw⟩ := o_in hw
          refine g_iald (t := 37) (i := 0) h hL rfl (by decide) rfl rfl hv21 d_D_form_101 ?_
          refine g_aload_n h d_D_form_102 rfl rfl ?_
          refine g_getI (t := 30) (i := 0) (k := 11) (C := "FlowGateModel") (T := T_D) (N := 42) h hL rfl (by decide) ob_30 (by decide) rfl (fun w hw => mc (in_D w hw)) (mc m_fl_D_118) rfl d_D_form_103 ?_
          refine g_icmp_gt (tgt := 155) h d_D_form_106 (by decide) (fun c22 => ?_) (fun c22 => ?_)
          · have hw := o_t c22 hw
            refine g_sub [0, 1] rfl ?_
            exact w_D_form_b155 hL h hQ hK64 v1 M hw
          · have hw := o_f c22 hw
            refine g_aload_n h d_D_form_109 rfl rfl ?_
            refine g_aload_n h d_D_form_110 rfl rfl ?_
            refine g_getR (t := 30) (i := 0) (k := 8) (C := "FlowGateModel") (T := T_D) (N := 42) h hL rfl (by decide) ob_30 (by decide) rfl (t' := 38) (i' := 0) rfl rfl (fun w hw => mc (in_D w hw)) (mc m_fl_D_36) rfl d_D_form_111 ?_
            refine g_iload_n h d_D_form_114 rfl rfl ?_
            obtain ⟨hv23, hw⟩ := o_in hw
            refine g_iald (t := 38) (i := 0) h hL rfl (by decide) rfl rfl hv23 d_D_form_115 ?_
            refine g_calli h (g_runV (rest := []) h (ct_D_isGoal hL (M.1 38 0 (v1 : Int32).toNatClampNeg) M (p_D_isGoal (M.1 38 0 (v1 : Int32).toNatClampNeg) M)) (cwV 1 h.2.2.2.2.1 (g_V m_ml_D_127 m_im_D_isGoal m_se_D_isGoal m_in_D m_co_D_isGoal) rfl rfl rfl (by decide +kernel) ⟨Nat.le_of_ble_eq_true rfl, Nat.le_of_ble_eq_true rfl⟩) (hL.recv h rfl (by decide) ob_30) rfl rfl (Nat.le_of_ble_eq_true rfl) d_D_form_116) ?_
            refine g_topi (fun r25 er25 => ?_)
            have hw := o_l hw r25 er25
            refine g_if_eq (tgt := 155) h d_D_form_119 (by decide) (fun c26 => ?_) (fun c26 => ?_)
            · have hw := o_t c26 hw
              refine g_sub [0, 1] rfl ?_
              exact w_D_form_b155 hL h hQ hK64 v1 M hw
            · have hw := o_f c26 hw
              refine g_aload_n h d_D_form_122 rfl rfl ?_
              refine g_getR (t := 30) (i := 0) (k := 9) (C := "FlowGateModel") (T := T_D) (N := 42) h hL rfl (by decide) ob_30 (by decide) rfl (t' := 39) (i' := 0) rfl rfl (fun w hw => mc (in_D w hw)) (mc m_fl_D_39) rfl d_D_form_123 ?_
              refine g_iload_n h d_D_form_126 rfl rfl ?_
              obtain ⟨hv27, hw⟩ := o_in hw
              refine g_iald (t := 39) (i := 0) h hL rfl (by decide) rfl rfl hv27 d_D_form_127 ?_
              refine g_iconst (v := 0) h d_D_form_128 (by decide) ?_
              refine g_aload_n h d_D_form_129 rfl rfl ?_
              refine g_getI (t := 30) (i := 0) (k := 2) (C := "FlowGateModel") (T := T_D) (N := 42) h hL rfl (by decide) ob_30 (by decide) rfl (fun w hw => mc (in_D w hw)) (mc m_fl_D_17) rfl d_D_form_130 ?_
              refine g_iconst (v := 1) h d_D_form_133 (by decide) ?_
              refine g_isub h d_D_form_134 ?_
              refine g_calli h (g_runS (rest := []) h (ct_D_in hL (M.1 39 0 (v1 : Int32).toNatClampNeg) 0 ((M.1 30 0 2) - 1) M (p_D_in (M.1 39 0 (v1 : Int32).toNatClampNeg) 0 ((M.1 30 0 2) - 1) M)) (cwS 3 h.2.2.2.2.1 (g_S m_ml_D_91 m_st_D_in m_in_D m_co_D_in) rfl rfl rfl (by decide +kernel) ⟨Nat.le_of_ble_eq_true rfl, Nat.le_of_ble_eq_true rfl⟩) rfl rfl (Nat.le_of_ble_eq_true rfl) d_D_form_135) ?_
              refine g_topi (fun r29 er29 => ?_)
              have hw := o_l hw r29 er29
              refine g_if_eq (tgt := 155) h d_D_form_138 (by decide) (fun c30 => ?_) (fun c30 => ?_)
              · have hw := o_t c30 hw
                refine g_sub [0, 1] rfl ?_
                exact w_D_form_b155 hL h hQ hK64 v1 M hw
              · have hw := o_f c30 hw
                refine g_aload_n h d_D_form_141 rfl rfl ?_
                refine g_aload_n h d_D_form_142 rfl rfl ?_
                refine g_getR (t := 30) (i := 0) (k := 9) (C := "FlowGateModel") (T := T_D) (N := 42) h hL rfl (by decide) ob_30 (by decide) rfl (t' := 39) (i' := 0) rfl rfl (fun w hw => mc (in_D w hw)) (mc m_fl_D_39) rfl d_D_form_143 ?_
                refine g_iload_n h d_D_form_146 rfl rfl ?_
                obtain ⟨hv31, hw⟩ := o_in hw
                refine g_iald (t := 39) (i := 0) h hL rfl (by decide) rfl rfl hv31 d_D_form_147 ?_
                refine g_iconst (v := 1) h d_D_form_148 (by decide) ?_
                obtain ⟨r34, M33, hc32, hw⟩ := o_b hw
                refine g_calli h (g_runV (rest := []) h (ct_D_isBelow hL (M.1 39 0 (v1 : Int32).toNatClampNeg) 1 M hc32) (cwV 2 h.2.2.2.2.1 (g_V m_ml_D_102 m_im_D_isBelow m_se_D_isBelow m_in_D m_co_D_isBelow) rfl rfl rfl (by decide +kernel) ⟨Nat.le_of_ble_eq_true rfl, Nat.le_of_ble_eq_true rfl⟩) (hL.recv h rfl (by decide) ob_30) rfl rfl (Nat.le_of_ble_eq_true rfl) d_D_form_149) ?_
                refine g_if_ne (tgt := 164) h d_D_form_152 (by decide) (fun c35 => ?_) (fun c35 => ?_)
                · have hw := o_f c35 hw
                  refine g_sub [0, 1] rfl ?_
                  exact w_D_form_b164 hL h hQ hK64 v1 M33 hw
                · have hw := o_t c35 hw
                  refine g_sub [0, 1] rfl ?_
                  exact w_D_form_b155 hL h hQ hK64 v1 M33 hw
set_option maxHeartbeats 4000000 in
set_option maxRecDepth 100000 in
theorem w_D_form_b15 {Z : ZT} {X : XT} (hL : Lay Z sD) (h : Ok Z X "FlowGateModel" c_D_form ws_D_form 3 ({ frames := 5, cells := 0, slots := 0, locals := 108 })) {res : Mm} (hQ : FinV Z X res)  : ∀ (n : Nat) (v1 : Int32) (M : Mm), F_D_form_b15  n v1 M = some res → G Z X M 15 [(0, .ref (za Z 30 0)), (1, .int v1)] [] := by
  intro n
  induction n with
  | zero =>
    intro v1 M hw
    cases hw
  | succ n hK15 =>
    intro v1 M hw
    rw [F_D_form_b15] at hw
    refine g_iload_n h d_D_form_15 rfl rfl ?_
    refine g_aload_n h d_D_form_16 rfl rfl ?_
    refine g_getI (t := 30) (i := 0) (k := 11) (C := "FlowGateModel") (T := T_D) (N := 42) h hL rfl (by decide) ob_30 (by decide) rfl (fun w hw => mc (in_D w hw)) (mc m_fl_D_118) rfl d_D_form_17 ?_
    refine g_icmp_ge (tgt := 62) h d_D_form_20 (by decide) (fun c36 => ?_) (fun c36 => ?_)
    · have hw := o_t c36 hw
      refine g_iconst (v := 0) h d_D_form_62 (by decide) ?_
      refine g_istore_n (lv' := [(1, .int 0), (0, .ref (za Z 30 0))]) h d_D_form_63 rfl (by decide) rfl ?_
      refine g_sub [1, 0] rfl ?_
      exact w_D_form_b64 hL h hQ  fuel 0 M hw
    · have hw := o_f c36 hw
      refine g_aload_n h d_D_form_23 rfl rfl ?_
      refine g_aload_n h d_D_form_24 rfl rfl ?_
      refine g_getR (t := 30) (i := 0) (k := 3) (C := "FlowGateModel") (T := T_D) (N := 42) h hL rfl (by decide) ob_30 (by decide) rfl (t' := 33) (i' := 0) rfl rfl (fun w hw => mc (in_D w hw)) (mc m_fl_D_21) rfl d_D_form_25 ?_
      refine g_iload_n h d_D_form_28 rfl rfl ?_
      obtain ⟨hv37, hw⟩ := o_in hw
      refine g_iald (t := 33) (i := 0) h hL rfl (by decide) rfl rfl hv37 d_D_form_29 ?_
      refine g_aload_n h d_D_form_30 rfl rfl ?_
      refine g_getR (t := 30) (i := 0) (k := 4) (C := "FlowGateModel") (T := T_D) (N := 42) h hL rfl (by decide) ob_30 (by decide) rfl (t' := 34) (i' := 0) rfl rfl (fun w hw => mc (in_D w hw)) (mc m_fl_D_24) rfl d_D_form_31 ?_
      refine g_iload_n h d_D_form_34 rfl rfl ?_
      obtain ⟨hv38, hw⟩ := o_in hw
      refine g_iald (t := 34) (i := 0) h hL rfl (by decide) rfl rfl hv38 d_D_form_35 ?_
      refine g_aload_n h d_D_form_36 rfl rfl ?_
      refine g_getR (t := 30) (i := 0) (k := 5) (C := "FlowGateModel") (T := T_D) (N := 42) h hL rfl (by decide) ob_30 (by decide) rfl (t' := 35) (i' := 0) rfl rfl (fun w hw => mc (in_D w hw)) (mc m_fl_D_27) rfl d_D_form_37 ?_
      refine g_iload_n h d_D_form_40 rfl rfl ?_
      obtain ⟨hv39, hw⟩ := o_in hw
      refine g_iald (t := 35) (i := 0) h hL rfl (by decide) rfl rfl hv39 d_D_form_41 ?_
      refine g_calli h (g_runV (rest := []) h (ct_D_isFormed hL (M.1 33 0 (v1 : Int32).toNatClampNeg) (M.1 34 0 (v1 : Int32).toNatClampNeg) (M.1 35 0 (v1 : Int32).toNatClampNeg) M (p_D_isFormed (M.1 33 0 (v1 : Int32).toNatClampNeg) (M.1 34 0 (v1 : Int32).toNatClampNeg) (M.1 35 0 (v1 : Int32).toNatClampNeg) M)) (cwV 3 h.2.2.2.2.1 (g_V m_ml_D_137 m_im_D_isFormed m_se_D_isFormed m_in_D m_co_D_isFormed) rfl rfl rfl (by decide +kernel) ⟨Nat.le_of_ble_eq_true rfl, Nat.le_of_ble_eq_true rfl⟩) (hL.recv h rfl (by decide) ob_30) rfl rfl (Nat.le_of_ble_eq_true rfl) d_D_form_42) ?_
      refine g_topi (fun r41 er41 => ?_)
      have hw := o_l hw r41 er41
      refine g_istore_n (lv' := [(2, .int r41), (0, .ref (za Z 30 0)), (1, .int v1)]) h d_D_form_45 rfl (by decide) rfl ?_
      refine g_iload_n h d_D_form_46 rfl rfl ?_
      refine g_if_ne (tgt := 56) h d_D_form_47 (by decide) (fun c42 => ?_) (fun c42 => ?_)
      · have hw := o_f c42 hw
        refine g_sub [1, 2] rfl ?_
        exact w_D_form_b56 hL h hQ hK15 v1 M hw
      · have hw := o_t c42 hw
        refine g_aload_n h d_D_form_50 rfl rfl ?_
        refine g_iconst (v := 1) h d_D_form_51 (by decide) ?_
        refine g_iload_n h d_D_form_52 rfl rfl ?_
        obtain ⟨M44, hc43, hw⟩ := o_v hw
        refine g_callv h (g_runV (rest := []) h (ct_D_fail hL 1 v1 M hc43) (cwV 2 h.2.2.2.2.1 (g_V m_ml_D_133 m_im_D_fail m_se_D_fail m_in_D m_co_D_fail) rfl rfl rfl (by decide +kernel) ⟨Nat.le_of_ble_eq_true rfl, Nat.le_of_ble_eq_true rfl⟩) (hL.recv h rfl (by decide) ob_30) rfl rfl (Nat.le_of_ble_eq_true rfl) d_D_form_53) ?_
        refine g_sub [1, 2] rfl ?_
        exact w_D_form_b56 hL h hQ hK15 v1 M44 hw
set_option maxHeartbeats 4000000 in
set_option maxRecDepth 100000 in
theorem w_D_form_b13 {Z : ZT} {X : XT} (hL : Lay Z sD) (h : Ok Z X "FlowGateModel" c_D_form ws_D_form 3 ({ frames := 5, cells := 0, slots := 0, locals := 108 })) {res : Mm} (hQ : FinV Z X res)   (M : Mm)  (hw : F_D_form_b13 M = some res) : G Z X M 13 [(0, .ref (za Z 30 0))] [] := by
  rw [F_D_form_b13] at hw
  refine g_iconst (v := 0) h d_D_form_13 (by decide) ?_
  refine g_istore_n (lv' := [(1, .int 0), (0, .ref (za Z 30 0))]) h d_D_form_14 rfl (by decide) rfl ?_
  refine g_sub [1, 0] rfl ?_
  exact w_D_form_b15 hL h hQ  fuel 0 M hw
set_option maxHeartbeats 4000000 in
set_option maxRecDepth 100000 in
theorem ct_D_form {Z : ZT} (hL : Lay Z sD)  (M : Mm)  {res : Mm} (hw : F_D_form M = some res) : CtV Z y_D_form ws_D_form (({ frames := 5, cells := 0, slots := 0, locals := 108 })) [.ref (za Z 30 0)] M res := by
  refine CtV.of hL (cc := c_D_form) (maxL := 3) (by decide) rfl (Nat.le_of_ble_eq_true rfl) (fun X h hQ => ?_)
  show G Z X M 0 [(0, .ref (za Z 30 0))] []
  rw [F_D_form] at hw
  refine g_aload_n h d_D_form_0 rfl rfl ?_
  refine g_getI (t := 30) (i := 0) (k := 11) (C := "FlowGateModel") (T := T_D) (N := 42) h hL rfl (by decide) ob_30 (by decide) rfl (fun w hw => mc (in_D w hw)) (mc m_fl_D_118) rfl d_D_form_1 ?_
  refine g_if_ne (tgt := 13) h d_D_form_4 (by decide) (fun c45 => ?_) (fun c45 => ?_)
  · have hw := o_f c45 hw
    refine g_sub [0] rfl ?_
    exact w_D_form_b13 hL h hQ  M hw
  · have hw := o_t c45 hw
    refine g_aload_n h d_D_form_7 rfl rfl ?_
    refine g_iconst (v := 1) h d_D_form_8 (by decide) ?_
    refine g_iconst (v := 0) h d_D_form_9 (by decide) ?_
    obtain ⟨M47, hc46, hw⟩ := o_v hw
    refine g_callv h (g_runV (rest := []) h (ct_D_fail hL 1 0 M hc46) (cwV 2 h.2.2.2.2.1 (g_V m_ml_D_133 m_im_D_fail m_se_D_fail m_in_D m_co_D_fail) rfl rfl rfl (by decide +kernel) ⟨Nat.le_of_ble_eq_true rfl, Nat.le_of_ble_eq_true rfl⟩) (hL.recv h rfl (by decide) ob_30) rfl rfl (Nat.le_of_ble_eq_true rfl) d_D_form_10) ?_
    refine g_sub [0] rfl ?_
    exact w_D_form_b13 hL h hQ  M47 hw
