set_option maxHeartbeats 4000000 in
set_option maxRecDepth 100000 in
theorem w_W_shuffle_b38 {Z : ZT} {X : XT} (hL : Lay Z sC) (h : Ok Z X "FlowGate$Flow" c_W_shuffle ws_W_shuffle 5 ({ frames := 3, cells := 0, slots := 0, locals := 67 })) {res : Int32 × Mm} (hQ : FinI Z X .int res)  (v1 : Int32) (v2 : Int32) (M : Mm)  (hw : F_W_shuffle_b38 v1 v2 M = some res) : G Z X M 38 [(0, .ref (za Z 14 0)), (1, .int v1), (2, .int v2)] [] := by
  rw [F_W_shuffle_b38] at hw
  refine g_aload_n h d_W_shuffle_38 rfl rfl ?_
  refine g_getR (t := 14) (i := 0) (k := 6) (C := "FlowGate$Flow") (T := T_W) (N := 12) h hL rfl (by decide) ob_14 (by decide) rfl (t' := 19) (i' := 0) rfl rfl (fun w hw => mc (in_W w hw)) (mc m_fl_W_29) rfl d_W_shuffle_39 ?_
  refine g_iconst (v := 0) h d_W_shuffle_42 (by decide) ?_
  obtain ⟨r3, M2, hc1, hw⟩ := o_b hw
  refine g_calli h (g_runV (rest := []) h (ct_R_hasNarrow hL 0 0 M (by decide) hc1) (cwV 1 h.2.2.2.2.1 (g_V m_ml_W_233 m_im_R_hasNarrow m_se_R_hasNarrow m_in_R m_co_R_hasNarrow) rfl rfl rfl (by decide +kernel) ⟨Nat.le_of_ble_eq_true rfl, Nat.le_of_ble_eq_true rfl⟩) (hL.recv h rfl (by decide) ob_19) rfl rfl (Nat.le_of_ble_eq_true rfl) d_W_shuffle_43) ?_
  refine g_if_ne (tgt := 51) h d_W_shuffle_46 (by decide) (fun c4 => ?_) (fun c4 => ?_)
  · have hw := o_f c4 hw
    refine g_iload_n h d_W_shuffle_51 rfl rfl ?_
    refine g_iconst (v := 4) h d_W_shuffle_52 (by decide) ?_
    refine g_icmp_ne (tgt := 63) h d_W_shuffle_53 (by decide) (fun c5 => ?_) (fun c5 => ?_)
    · have hw := o_f c5 hw
      refine g_iload_n h d_W_shuffle_63 rfl rfl ?_
      refine g_iconst (v := 5) h d_W_shuffle_64 (by decide) ?_
      refine g_icmp_ne (tgt := 84) h d_W_shuffle_65 (by decide) (fun c6 => ?_) (fun c6 => ?_)
      · have hw := o_f c6 hw
        refine g_aload_n h d_W_shuffle_84 rfl rfl ?_
        refine g_getR (t := 14) (i := 0) (k := 6) (C := "FlowGate$Flow") (T := T_W) (N := 12) h hL rfl (by decide) ob_14 (by decide) rfl (t' := 19) (i' := 0) rfl rfl (fun w hw => mc (in_W w hw)) (mc m_fl_W_29) rfl d_W_shuffle_85 ?_
        refine g_iconst (v := 1) h d_W_shuffle_88 (by decide) ?_
        obtain ⟨r9, M8, hc7, hw⟩ := o_b hw
        refine g_calli h (g_runV (rest := []) h (ct_R_hasNarrow hL 0 1 M2 (by decide) hc7) (cwV 1 h.2.2.2.2.1 (g_V m_ml_W_233 m_im_R_hasNarrow m_se_R_hasNarrow m_in_R m_co_R_hasNarrow) rfl rfl rfl (by decide +kernel) ⟨Nat.le_of_ble_eq_true rfl, Nat.le_of_ble_eq_true rfl⟩) (hL.recv h rfl (by decide) ob_19) rfl rfl (Nat.le_of_ble_eq_true rfl) d_W_shuffle_89) ?_
        refine g_if_ne (tgt := 97) h d_W_shuffle_92 (by decide) (fun c10 => ?_) (fun c10 => ?_)
        · have hw := o_f c10 hw
          refine g_aload_n h d_W_shuffle_97 rfl rfl ?_
          refine g_getR (t := 14) (i := 0) (k := 6) (C := "FlowGate$Flow") (T := T_W) (N := 12) h hL rfl (by decide) ob_14 (by decide) rfl (t' := 19) (i' := 0) rfl rfl (fun w hw => mc (in_W w hw)) (mc m_fl_W_29) rfl d_W_shuffle_98 ?_
          refine g_iconst (v := 1) h d_W_shuffle_101 (by decide) ?_
          obtain ⟨r13, M12, hc11, hw⟩ := o_b hw
          refine g_calli h (g_runV (rest := []) h (ct_R_top hL 0 1 M8 (by decide) hc11) (cwV 1 h.2.2.2.2.1 (g_V m_ml_W_219 m_im_R_top m_se_R_top m_in_R m_co_R_top) rfl rfl rfl (by decide +kernel) ⟨Nat.le_of_ble_eq_true rfl, Nat.le_of_ble_eq_true rfl⟩) (hL.recv h rfl (by decide) ob_19) rfl rfl (Nat.le_of_ble_eq_true rfl) d_W_shuffle_102) ?_
          refine g_istore_n (lv' := [(3, .int r13), (0, .ref (za Z 14 0)), (1, .int v1), (2, .int v2)]) h d_W_shuffle_105 rfl (by decide) rfl ?_
          refine g_iload_n h d_W_shuffle_106 rfl rfl ?_
          refine g_bipush (v := 8) h d_W_shuffle_107 (by decide) ?_
          refine g_icmp_ne (tgt := 119) h d_W_shuffle_109 (by decide) (fun c14 => ?_) (fun c14 => ?_)
          · have hw := o_f c14 hw
            refine g_aload_n h d_W_shuffle_119 rfl rfl ?_
            refine g_getR (t := 14) (i := 0) (k := 6) (C := "FlowGate$Flow") (T := T_W) (N := 12) h hL rfl (by decide) ob_14 (by decide) rfl (t' := 19) (i' := 0) rfl rfl (fun w hw => mc (in_W w hw)) (mc m_fl_W_29) rfl d_W_shuffle_120 ?_
            refine g_iconst (v := 2) h d_W_shuffle_123 (by decide) ?_
            obtain ⟨M16, hc15, hw⟩ := o_v hw
            refine g_callv h (g_runV (rest := []) h (ct_R_drop hL 0 2 M12 (by decide) hc15) (cwV 1 h.2.2.2.2.1 (g_V m_ml_W_197 m_im_R_drop m_se_R_drop m_in_R m_co_R_drop) rfl rfl rfl (by decide +kernel) ⟨Nat.le_of_ble_eq_true rfl, Nat.le_of_ble_eq_true rfl⟩) (hL.recv h rfl (by decide) ob_19) rfl rfl (Nat.le_of_ble_eq_true rfl) d_W_shuffle_124) ?_
            refine g_aload_n h d_W_shuffle_127 rfl rfl ?_
            refine g_iload_n h d_W_shuffle_128 rfl rfl ?_
            refine g_iload_n h d_W_shuffle_129 rfl rfl ?_
            obtain ⟨r19, M18, hc17, hw⟩ := o_b hw
            refine g_calli h (g_runV (rest := []) h (ct_W_pushBoth hL v2 r13 M16 hc17) (cwV 2 h.2.2.2.2.1 (g_V m_ml_W_240 m_im_W_pushBoth m_se_W_pushBoth m_in_W m_co_W_pushBoth) rfl rfl rfl (by decide +kernel) ⟨Nat.le_of_ble_eq_true rfl, Nat.le_of_ble_eq_true rfl⟩) (hL.recv h rfl (by decide) ob_14) rfl rfl (Nat.le_of_ble_eq_true rfl) d_W_shuffle_130) ?_
            refine g_istore (lv' := [(4, .int r19), (3, .int r13), (0, .ref (za Z 14 0)), (1, .int v1), (2, .int v2)]) h d_W_shuffle_133 (by decide) rfl ?_
            refine g_iload h d_W_shuffle_135 rfl ?_
            refine g_if_ne (tgt := 164) h d_W_shuffle_137 (by decide) (fun c20 => ?_) (fun c20 => ?_)
            · have hw := o_f c20 hw
              refine g_iload h d_W_shuffle_164 rfl ?_
              exact g_iret h hQ d_W_shuffle_166 hw
            · have hw := o_t c20 hw
              refine g_iload_n h d_W_shuffle_140 rfl rfl ?_
              refine g_bipush (v := 6) h d_W_shuffle_141 (by decide) ?_
              refine g_icmp_ne (tgt := 164) h d_W_shuffle_143 (by decide) (fun c21 => ?_) (fun c21 => ?_)
              · have hw := o_f c21 hw
                refine g_iload h d_W_shuffle_164 rfl ?_
                exact g_iret h hQ d_W_shuffle_166 hw
              · have hw := o_t c21 hw
                refine g_aload_n h d_W_shuffle_146 rfl rfl ?_
                refine g_getR (t := 14) (i := 0) (k := 6) (C := "FlowGate$Flow") (T := T_W) (N := 12) h hL rfl (by decide) ob_14 (by decide) rfl (t' := 19) (i' := 0) rfl rfl (fun w hw => mc (in_W w hw)) (mc m_fl_W_29) rfl d_W_shuffle_147 ?_
                refine g_iload_n h d_W_shuffle_150 rfl rfl ?_
                refine g_aload_n h d_W_shuffle_151 rfl rfl ?_
                refine g_getR (t := 14) (i := 0) (k := 1) (C := "FlowGate$Flow") (T := T_W) (N := 12) h hL rfl (by decide) ob_14 (by decide) rfl (t' := 4) (i' := 0) rfl rfl (fun w hw => mc (in_W w hw)) (mc m_fl_W_40) rfl d_W_shuffle_152 ?_
                refine g_getI (t := 4) (i := 0) (k := 13) (C := "FlowGate$Method") (T := T_M) (N := 14) h hL rfl (by decide) ob_4 (by decide) rfl (fun w hw => mc (in_M w hw)) (mc m_fl_W_116) rfl d_W_shuffle_155 ?_
                obtain ⟨r24, M23, hc22, hw⟩ := o_b hw
                refine g_calli h (g_runV (rest := []) h (ct_R_push hL 0 v2 (M18.1 4 0 13) M18 (by decide) hc22) (cwV 2 h.2.2.2.2.1 (g_V m_ml_W_200 m_im_R_push m_se_R_push m_in_R m_co_R_push) rfl rfl rfl (by decide +kernel) ⟨Nat.le_of_ble_eq_true rfl, Nat.le_of_ble_eq_true rfl⟩) (hL.recv h rfl (by decide) ob_19) rfl rfl (Nat.le_of_ble_eq_true rfl) d_W_shuffle_158) ?_
                refine g_goto (tgt := 166) h d_W_shuffle_161 (by decide) ?_
                exact g_iret h hQ d_W_shuffle_166 hw
          · have hw := o_t c14 hw
            refine g_aload_n h d_W_shuffle_112 rfl rfl ?_
            refine g_iload_n h d_W_shuffle_113 rfl rfl ?_
            refine g_iload_n h d_W_shuffle_114 rfl rfl ?_
            obtain ⟨r27, M26, hc25, hw⟩ := o_b hw
            refine g_calli h (g_runV (rest := []) h (ct_W_pushBoth hL r13 v2 M12 hc25) (cwV 2 h.2.2.2.2.1 (g_V m_ml_W_240 m_im_W_pushBoth m_se_W_pushBoth m_in_W m_co_W_pushBoth) rfl rfl rfl (by decide +kernel) ⟨Nat.le_of_ble_eq_true rfl, Nat.le_of_ble_eq_true rfl⟩) (hL.recv h rfl (by decide) ob_14) rfl rfl (Nat.le_of_ble_eq_true rfl) d_W_shuffle_115) ?_
            exact g_iret h hQ d_W_shuffle_118 hw
        · have hw := o_t c10 hw
          refine g_iconst (v := 2) h d_W_shuffle_95 (by decide) ?_
          exact g_iret h hQ d_W_shuffle_96 hw
      · have hw := o_t c6 hw
        refine g_aload_n h d_W_shuffle_68 rfl rfl ?_
        refine g_getR (t := 14) (i := 0) (k := 6) (C := "FlowGate$Flow") (T := T_W) (N := 12) h hL rfl (by decide) ob_14 (by decide) rfl (t' := 19) (i' := 0) rfl rfl (fun w hw => mc (in_W w hw)) (mc m_fl_W_29) rfl d_W_shuffle_69 ?_
        refine g_iload_n h d_W_shuffle_72 rfl rfl ?_
        refine g_aload_n h d_W_shuffle_73 rfl rfl ?_
        refine g_getR (t := 14) (i := 0) (k := 1) (C := "FlowGate$Flow") (T := T_W) (N := 12) h hL rfl (by decide) ob_14 (by decide) rfl (t' := 4) (i' := 0) rfl rfl (fun w hw => mc (in_W w hw)) (mc m_fl_W_40) rfl d_W_shuffle_74 ?_
        refine g_getI (t := 4) (i := 0) (k := 13) (C := "FlowGate$Method") (T := T_M) (N := 14) h hL rfl (by decide) ob_4 (by decide) rfl (fun w hw => mc (in_M w hw)) (mc m_fl_W_116) rfl d_W_shuffle_77 ?_
        obtain ⟨r30, M29, hc28, hw⟩ := o_b hw
        refine g_calli h (g_runV (rest := []) h (ct_R_push hL 0 v2 (M2.1 4 0 13) M2 (by decide) hc28) (cwV 2 h.2.2.2.2.1 (g_V m_ml_W_200 m_im_R_push m_se_R_push m_in_R m_co_R_push) rfl rfl rfl (by decide +kernel) ⟨Nat.le_of_ble_eq_true rfl, Nat.le_of_ble_eq_true rfl⟩) (hL.recv h rfl (by decide) ob_19) rfl rfl (Nat.le_of_ble_eq_true rfl) d_W_shuffle_80) ?_
        exact g_iret h hQ d_W_shuffle_83 hw
    · have hw := o_t c5 hw
      refine g_aload_n h d_W_shuffle_56 rfl rfl ?_
      refine g_iconst (v := 1) h d_W_shuffle_57 (by decide) ?_
      refine g_iconst (v := 1) h d_W_shuffle_58 (by decide) ?_
      obtain ⟨r33, M32, hc31, hw⟩ := o_b hw
      refine g_calli h (g_runV (rest := []) h (ct_W_takeIf hL 1 1 M2 hc31) (cwV 2 h.2.2.2.2.1 (g_V m_ml_W_236 m_im_W_takeIf m_se_W_takeIf m_in_W m_co_W_takeIf) rfl rfl rfl (by decide +kernel) ⟨Nat.le_of_ble_eq_true rfl, Nat.le_of_ble_eq_true rfl⟩) (hL.recv h rfl (by decide) ob_14) rfl rfl (Nat.le_of_ble_eq_true rfl) d_W_shuffle_59) ?_
      exact g_iret h hQ d_W_shuffle_62 hw
  · have hw := o_t c4 hw
    refine g_iconst (v := 2) h d_W_shuffle_49 (by decide) ?_
    exact g_iret h hQ d_W_shuffle_50 hw
set_option maxHeartbeats 4000000 in
set_option maxRecDepth 100000 in
theorem ct_W_shuffle {Z : ZT} (hL : Lay Z sC) (v1 : Int32) (M : Mm)  {res : Int32 × Mm} (hw : F_W_shuffle v1 M = some res) : CtI Z y_W_shuffle ws_W_shuffle (({ frames := 3, cells := 0, slots := 0, locals := 67 })) [.ref (za Z 14 0), .int v1] M res := by
  refine CtI.of hL (cc := c_W_shuffle) (maxL := 5) (by decide) rfl (Nat.le_of_ble_eq_true rfl) (fun X h hQ => ?_)
  show G Z X M 0 [(0, .ref (za Z 14 0)), (1, .int v1)] []
  rw [F_W_shuffle] at hw
  refine g_aload_n h d_W_shuffle_0 rfl rfl ?_
  refine g_getR (t := 14) (i := 0) (k := 6) (C := "FlowGate$Flow") (T := T_W) (N := 12) h hL rfl (by decide) ob_14 (by decide) rfl (t' := 19) (i' := 0) rfl rfl (fun w hw => mc (in_W w hw)) (mc m_fl_W_29) rfl d_W_shuffle_1 ?_
  refine g_iconst (v := 0) h d_W_shuffle_4 (by decide) ?_
  obtain ⟨r36, M35, hc34, hw⟩ := o_b hw
  refine g_calli h (g_runV (rest := []) h (ct_R_top hL 0 0 M (by decide) hc34) (cwV 1 h.2.2.2.2.1 (g_V m_ml_W_219 m_im_R_top m_se_R_top m_in_R m_co_R_top) rfl rfl rfl (by decide +kernel) ⟨Nat.le_of_ble_eq_true rfl, Nat.le_of_ble_eq_true rfl⟩) (hL.recv h rfl (by decide) ob_19) rfl rfl (Nat.le_of_ble_eq_true rfl) d_W_shuffle_5) ?_
  refine g_istore_n (lv' := [(2, .int r36), (0, .ref (za Z 14 0)), (1, .int v1)]) h d_W_shuffle_8 rfl (by decide) rfl ?_
  refine g_iload_n h d_W_shuffle_9 rfl rfl ?_
  refine g_bipush (v := 8) h d_W_shuffle_10 (by decide) ?_
  refine g_icmp_ne (tgt := 38) h d_W_shuffle_12 (by decide) (fun c37 => ?_) (fun c37 => ?_)
  · have hw := o_f c37 hw
    refine g_sub [1, 2, 0] rfl ?_
    exact w_W_shuffle_b38 hL h hQ  v1 r36 M35 hw
  · have hw := o_t c37 hw
    refine g_iload_n h d_W_shuffle_15 rfl rfl ?_
    refine g_calli h (g_runSN (rest := []) h (ct_G_isWide hL r36 M35 (p_G_isWide r36 M35)) ⟨va_cnB 1 h.2.2.2.2.1 (g_C m_co_G_isWide) rfl rfl rfl (h.2.2.2.2.2.2.2.2.2.2.1 ("FlowGate$Flow", 230, y_G_isWide, "FlowGate") (by decide +kernel)) (h.2.2.2.2.1 _ (mc m_in_G)) (by decide +kernel) ⟨Nat.le_of_ble_eq_true rfl, Nat.le_of_ble_eq_true rfl⟩, h.2.2.2.2.1 _ (mc m_st_G_isWide), trivial⟩ rfl rfl (Nat.le_of_ble_eq_true rfl) d_W_shuffle_16) ?_
    refine g_topi (fun r39 er39 => ?_)
    have hw := o_l hw r39 er39
    refine g_if_eq (tgt := 38) h d_W_shuffle_19 (by decide) (fun c40 => ?_) (fun c40 => ?_)
    · have hw := o_t c40 hw
      refine g_sub [1, 2, 0] rfl ?_
      exact w_W_shuffle_b38 hL h hQ  v1 r36 M35 hw
    · have hw := o_f c40 hw
      refine g_aload_n h d_W_shuffle_22 rfl rfl ?_
      refine g_getR (t := 14) (i := 0) (k := 6) (C := "FlowGate$Flow") (T := T_W) (N := 12) h hL rfl (by decide) ob_14 (by decide) rfl (t' := 19) (i' := 0) rfl rfl (fun w hw => mc (in_W w hw)) (mc m_fl_W_29) rfl d_W_shuffle_23 ?_
      refine g_iload_n h d_W_shuffle_26 rfl rfl ?_
      refine g_aload_n h d_W_shuffle_27 rfl rfl ?_
      refine g_getR (t := 14) (i := 0) (k := 1) (C := "FlowGate$Flow") (T := T_W) (N := 12) h hL rfl (by decide) ob_14 (by decide) rfl (t' := 4) (i' := 0) rfl rfl (fun w hw => mc (in_W w hw)) (mc m_fl_W_40) rfl d_W_shuffle_28 ?_
      refine g_getI (t := 4) (i := 0) (k := 13) (C := "FlowGate$Method") (T := T_M) (N := 14) h hL rfl (by decide) ob_4 (by decide) rfl (fun w hw => mc (in_M w hw)) (mc m_fl_W_116) rfl d_W_shuffle_31 ?_
      obtain ⟨r43, M42, hc41, hw⟩ := o_b hw
      refine g_calli h (g_runV (rest := []) h (ct_R_push hL 0 r36 (M35.1 4 0 13) M35 (by decide) hc41) (cwV 2 h.2.2.2.2.1 (g_V m_ml_W_200 m_im_R_push m_se_R_push m_in_R m_co_R_push) rfl rfl rfl (by decide +kernel) ⟨Nat.le_of_ble_eq_true rfl, Nat.le_of_ble_eq_true rfl⟩) (hL.recv h rfl (by decide) ob_19) rfl rfl (Nat.le_of_ble_eq_true rfl) d_W_shuffle_34) ?_
      exact g_iret h hQ d_W_shuffle_37 hw
set_option maxHeartbeats 4000000 in
set_option maxRecDepth 100000 in
theorem ct_W_exchangeIf {Z : ZT} (hL : Lay Z sC) (v1 : Int32) (v2 : Int32) (v3 : Int32) (M : Mm)  {res : Int32 × Mm} (hw : F_W_exchangeIf v1 v2 v3 M = some res) : CtI Z y_W_exchangeIf ws_W_exchangeIf (({ frames := 2, cells := 0, slots := 0, locals := 44 })) [.ref (za Z 14 0), .int v1, .int v2, .int v3] M res := by
  refine CtI.of hL (cc := c_W_exchangeIf) (maxL := 4) (by decide) rfl (Nat.le_of_ble_eq_true rfl) (fun X h hQ => ?_)
  show G Z X M 0 [(0, .ref (za Z 14 0)), (1, .int v1), (2, .int v2), (3, .int v3)] []
  rw [F_W_exchangeIf] at hw
  refine g_iload_n h d_W_exchangeIf_0 rfl rfl ?_
  refine g_if_ne (tgt := 6) h d_W_exchangeIf_1 (by decide) (fun c1 => ?_) (fun c1 => ?_)
  · have hw := o_f c1 hw
    refine g_aload_n h d_W_exchangeIf_6 rfl rfl ?_
    refine g_getR (t := 14) (i := 0) (k := 6) (C := "FlowGate$Flow") (T := T_W) (N := 12) h hL rfl (by decide) ob_14 (by decide) rfl (t' := 19) (i' := 0) rfl rfl (fun w hw => mc (in_W w hw)) (mc m_fl_W_29) rfl d_W_exchangeIf_7 ?_
    refine g_iload_n h d_W_exchangeIf_10 rfl rfl ?_
    obtain ⟨M3, hc2, hw⟩ := o_v hw
    refine g_callv h (g_runV (rest := []) h (ct_R_drop hL 0 v2 M (by decide) hc2) (cwV 1 h.2.2.2.2.1 (g_V m_ml_W_197 m_im_R_drop m_se_R_drop m_in_R m_co_R_drop) rfl rfl rfl (by decide +kernel) ⟨Nat.le_of_ble_eq_true rfl, Nat.le_of_ble_eq_true rfl⟩) (hL.recv h rfl (by decide) ob_19) rfl rfl (Nat.le_of_ble_eq_true rfl) d_W_exchangeIf_11) ?_
    refine g_aload_n h d_W_exchangeIf_14 rfl rfl ?_
    refine g_getR (t := 14) (i := 0) (k := 6) (C := "FlowGate$Flow") (T := T_W) (N := 12) h hL rfl (by decide) ob_14 (by decide) rfl (t' := 19) (i' := 0) rfl rfl (fun w hw => mc (in_W w hw)) (mc m_fl_W_29) rfl d_W_exchangeIf_15 ?_
    refine g_iload_n h d_W_exchangeIf_18 rfl rfl ?_
    refine g_aload_n h d_W_exchangeIf_19 rfl rfl ?_
    refine g_getR (t := 14) (i := 0) (k := 1) (C := "FlowGate$Flow") (T := T_W) (N := 12) h hL rfl (by decide) ob_14 (by decide) rfl (t' := 4) (i' := 0) rfl rfl (fun w hw => mc (in_W w hw)) (mc m_fl_W_40) rfl d_W_exchangeIf_20 ?_
    refine g_getI (t := 4) (i := 0) (k := 13) (C := "FlowGate$Method") (T := T_M) (N := 14) h hL rfl (by decide) ob_4 (by decide) rfl (fun w hw => mc (in_M w hw)) (mc m_fl_W_116) rfl d_W_exchangeIf_23 ?_
    obtain ⟨r6, M5, hc4, hw⟩ := o_b hw
    refine g_calli h (g_runV (rest := []) h (ct_R_push hL 0 v3 (M3.1 4 0 13) M3 (by decide) hc4) (cwV 2 h.2.2.2.2.1 (g_V m_ml_W_200 m_im_R_push m_se_R_push m_in_R m_co_R_push) rfl rfl rfl (by decide +kernel) ⟨Nat.le_of_ble_eq_true rfl, Nat.le_of_ble_eq_true rfl⟩) (hL.recv h rfl (by decide) ob_19) rfl rfl (Nat.le_of_ble_eq_true rfl) d_W_exchangeIf_26) ?_
    exact g_iret h hQ d_W_exchangeIf_29 hw
  · have hw := o_t c1 hw
    refine g_iconst (v := 2) h d_W_exchangeIf_4 (by decide) ?_
    exact g_iret h hQ d_W_exchangeIf_5 hw
set_option maxHeartbeats 4000000 in
set_option maxRecDepth 100000 in
theorem w_W_calculate_b90 {Z : ZT} {X : XT} (hL : Lay Z sC) (h : Ok Z X "FlowGate$Flow" c_W_calculate ws_W_calculate 5 ({ frames := 3, cells := 0, slots := 0, locals := 67 })) {res : Int32 × Mm} (hQ : FinI Z X .int res)  (s1 : Int32) (s2 : Int32) (s3 : Int32) (M : Mm)  (hw : F_W_calculate_b90 s1 s2 s3 M = some res) : G Z X M 90 [] [.int s3, .int s2, .int s1, .ref (za Z 14 0)] := by
  rw [F_W_calculate_b90] at hw
  obtain ⟨r3, M2, hc1, hw⟩ := o_b hw
  refine g_calli h (g_runV (rest := []) h (ct_W_exchangeIf hL s1 s2 s3 M hc1) (cwV 3 h.2.2.2.2.1 (g_V m_ml_W_243 m_im_W_exchangeIf m_se_W_exchangeIf m_in_W m_co_W_exchangeIf) rfl rfl rfl (by decide +kernel) ⟨Nat.le_of_ble_eq_true rfl, Nat.le_of_ble_eq_true rfl⟩) (hL.recv h rfl (by decide) ob_14) rfl rfl (Nat.le_of_ble_eq_true rfl) d_W_calculate_90) ?_
  exact g_iret h hQ d_W_calculate_93 hw
set_option maxHeartbeats 4000000 in
set_option maxRecDepth 100000 in
theorem w_W_calculate_b78 {Z : ZT} {X : XT} (hL : Lay Z sC) (h : Ok Z X "FlowGate$Flow" c_W_calculate ws_W_calculate 5 ({ frames := 3, cells := 0, slots := 0, locals := 67 })) {res : Int32 × Mm} (hQ : FinI Z X .int res)  (v1 : Int32) (v2 : Int32) (s1 : Int32) (M : Mm)  (hw : F_W_calculate_b78 v1 v2 s1 M = some res) : G Z X M 78 [(1, .int v1), (2, .int v2)] [.int s1, .ref (za Z 14 0)] := by
  rw [F_W_calculate_b78] at hw
  refine g_iconst (v := 2) h d_W_calculate_78 (by decide) ?_
  refine g_iload_n h d_W_calculate_79 rfl rfl ?_
  refine g_bipush (v := 9) h d_W_calculate_80 (by decide) ?_
  refine g_icmp_ne (tgt := 89) h d_W_calculate_82 (by decide) (fun c4 => ?_) (fun c4 => ?_)
  · have hw := o_f c4 hw
    refine g_iconst (v := 1) h d_W_calculate_89 (by decide) ?_
    refine g_sub [] rfl ?_
    exact w_W_calculate_b90 hL h hQ  s1 2 1 M hw
  · have hw := o_t c4 hw
    refine g_iload_n h d_W_calculate_85 rfl rfl ?_
    refine g_goto (tgt := 90) h d_W_calculate_86 (by decide) ?_
    refine g_sub [] rfl ?_
    exact w_W_calculate_b90 hL h hQ  s1 2 v2 M hw
set_option maxHeartbeats 4000000 in
set_option maxRecDepth 100000 in
theorem w_W_calculate_b77 {Z : ZT} {X : XT} (hL : Lay Z sC) (h : Ok Z X "FlowGate$Flow" c_W_calculate ws_W_calculate 5 ({ frames := 3, cells := 0, slots := 0, locals := 67 })) {res : Int32 × Mm} (hQ : FinI Z X .int res)  (v1 : Int32) (v2 : Int32) (M : Mm)  (hw : F_W_calculate_b77 v1 v2 M = some res) : G Z X M 77 [(1, .int v1), (2, .int v2)] [.ref (za Z 14 0)] := by
  rw [F_W_calculate_b77] at hw
  refine g_iconst (v := 0) h d_W_calculate_77 (by decide) ?_
  refine g_sub [0, 1] rfl ?_
  exact w_W_calculate_b78 hL h hQ  v1 v2 0 M hw
set_option maxHeartbeats 4000000 in
set_option maxRecDepth 100000 in
theorem w_W_calculate_b38 {Z : ZT} {X : XT} (hL : Lay Z sC) (h : Ok Z X "FlowGate$Flow" c_W_calculate ws_W_calculate 5 ({ frames := 3, cells := 0, slots := 0, locals := 67 })) {res : Int32 × Mm} (hQ : FinI Z X .int res)  (v1 : Int32) (v2 : Int32) (v3 : Int32) (s0 : Int32) (M : Mm)  (hw : F_W_calculate_b38 v1 v2 v3 s0 M = some res) : G Z X M 38 [(0, .ref (za Z 14 0)), (1, .int v1), (2, .int v2), (3, .int v3)] [.int s0] := by
  rw [F_W_calculate_b38] at hw
  refine g_istore (lv' := [(4, .int s0), (0, .ref (za Z 14 0)), (1, .int v1), (2, .int v2), (3, .int v3)]) h d_W_calculate_38 (by decide) rfl ?_
  refine g_iload_n h d_W_calculate_40 rfl rfl ?_
  refine g_bipush (v := 10) h d_W_calculate_41 (by decide) ?_
  refine g_icmp_ne (tgt := 55) h d_W_calculate_43 (by decide) (fun c5 => ?_) (fun c5 => ?_)
  · have hw := o_f c5 hw
    refine g_aload_n h d_W_calculate_55 rfl rfl ?_
    refine g_iload h d_W_calculate_56 rfl ?_
    refine g_if_eq (tgt := 77) h d_W_calculate_58 (by decide) (fun c6 => ?_) (fun c6 => ?_)
    · have hw := o_t c6 hw
      refine g_sub [2, 3] rfl ?_
      exact w_W_calculate_b77 hL h hQ  v1 v2 M hw
    · have hw := o_f c6 hw
      refine g_aload_n h d_W_calculate_61 rfl rfl ?_
      refine g_getR (t := 14) (i := 0) (k := 6) (C := "FlowGate$Flow") (T := T_W) (N := 12) h hL rfl (by decide) ob_14 (by decide) rfl (t' := 19) (i' := 0) rfl rfl (fun w hw => mc (in_W w hw)) (mc m_fl_W_29) rfl d_W_calculate_62 ?_
      refine g_iconst (v := 1) h d_W_calculate_65 (by decide) ?_
      obtain ⟨r9, M8, hc7, hw⟩ := o_b hw
      refine g_calli h (g_runV (rest := [.ref (za Z 14 0)]) h (ct_R_top hL 0 1 M (by decide) hc7) (cwV 1 h.2.2.2.2.1 (g_V m_ml_W_219 m_im_R_top m_se_R_top m_in_R m_co_R_top) rfl rfl rfl (by decide +kernel) ⟨Nat.le_of_ble_eq_true rfl, Nat.le_of_ble_eq_true rfl⟩) (hL.recv h rfl (by decide) ob_19) rfl rfl (Nat.le_of_ble_eq_true rfl) d_W_calculate_66) ?_
      refine g_iload_n h d_W_calculate_69 rfl rfl ?_
      refine g_icmp_ne (tgt := 77) h d_W_calculate_70 (by decide) (fun c10 => ?_) (fun c10 => ?_)
      · have hw := o_f c10 hw
        refine g_sub [2, 3] rfl ?_
        exact w_W_calculate_b77 hL h hQ  v1 v2 M8 hw
      · have hw := o_t c10 hw
        refine g_iconst (v := 1) h d_W_calculate_73 (by decide) ?_
        refine g_goto (tgt := 78) h d_W_calculate_74 (by decide) ?_
        refine g_sub [2, 3] rfl ?_
        exact w_W_calculate_b78 hL h hQ  v1 v2 1 M8 hw
  · have hw := o_t c5 hw
    refine g_aload_n h d_W_calculate_46 rfl rfl ?_
    refine g_iload h d_W_calculate_47 rfl ?_
    refine g_iconst (v := 1) h d_W_calculate_49 (by decide) ?_
    refine g_iload_n h d_W_calculate_50 rfl rfl ?_
    obtain ⟨r13, M12, hc11, hw⟩ := o_b hw
    refine g_calli h (g_runV (rest := []) h (ct_W_exchangeIf hL s0 1 v3 M hc11) (cwV 3 h.2.2.2.2.1 (g_V m_ml_W_243 m_im_W_exchangeIf m_se_W_exchangeIf m_in_W m_co_W_exchangeIf) rfl rfl rfl (by decide +kernel) ⟨Nat.le_of_ble_eq_true rfl, Nat.le_of_ble_eq_true rfl⟩) (hL.recv h rfl (by decide) ob_14) rfl rfl (Nat.le_of_ble_eq_true rfl) d_W_calculate_51) ?_
    exact g_iret h hQ d_W_calculate_54 hw
set_option maxHeartbeats 4000000 in
set_option maxRecDepth 100000 in
theorem ct_W_calculate {Z : ZT} (hL : Lay Z sC) (v1 : Int32) (v2 : Int32) (v3 : Int32) (M : Mm)  {res : Int32 × Mm} (hw : F_W_calculate v1 v2 v3 M = some res) : CtI Z y_W_calculate ws_W_calculate (({ frames := 3, cells := 0, slots := 0, locals := 67 })) [.ref (za Z 14 0), .int v1, .int v2, .int v3] M res := by
  refine CtI.of hL (cc := c_W_calculate) (maxL := 5) (by decide) rfl (Nat.le_of_ble_eq_true rfl) (fun X h hQ => ?_)
  show G Z X M 0 [(0, .ref (za Z 14 0)), (1, .int v1), (2, .int v2), (3, .int v3)] []
  rw [F_W_calculate] at hw
  refine g_iload_n h d_W_calculate_0 rfl rfl ?_
  refine g_iconst (v := 1) h d_W_calculate_1 (by decide) ?_
  refine g_icmp_ne (tgt := 21) h d_W_calculate_2 (by decide) (fun c14 => ?_) (fun c14 => ?_)
  · have hw := o_f c14 hw
    refine g_aload_n h d_W_calculate_21 rfl rfl ?_
    refine g_getR (t := 14) (i := 0) (k := 6) (C := "FlowGate$Flow") (T := T_W) (N := 12) h hL rfl (by decide) ob_14 (by decide) rfl (t' := 19) (i' := 0) rfl rfl (fun w hw => mc (in_W w hw)) (mc m_fl_W_29) rfl d_W_calculate_22 ?_
    refine g_iconst (v := 0) h d_W_calculate_25 (by decide) ?_
    obtain ⟨r17, M16, hc15, hw⟩ := o_b hw
    refine g_calli h (g_runV (rest := []) h (ct_R_top hL 0 0 M (by decide) hc15) (cwV 1 h.2.2.2.2.1 (g_V m_ml_W_219 m_im_R_top m_se_R_top m_in_R m_co_R_top) rfl rfl rfl (by decide +kernel) ⟨Nat.le_of_ble_eq_true rfl, Nat.le_of_ble_eq_true rfl⟩) (hL.recv h rfl (by decide) ob_19) rfl rfl (Nat.le_of_ble_eq_true rfl) d_W_calculate_26) ?_
    refine g_iload_n h d_W_calculate_29 rfl rfl ?_
    refine g_icmp_ne (tgt := 37) h d_W_calculate_30 (by decide) (fun c18 => ?_) (fun c18 => ?_)
    · have hw := o_f c18 hw
      refine g_iconst (v := 0) h d_W_calculate_37 (by decide) ?_
      refine g_sub [0, 1, 2, 3] rfl ?_
      exact w_W_calculate_b38 hL h hQ  v1 v2 v3 0 M16 hw
    · have hw := o_t c18 hw
      refine g_iconst (v := 1) h d_W_calculate_33 (by decide) ?_
      refine g_goto (tgt := 38) h d_W_calculate_34 (by decide) ?_
      refine g_sub [0, 1, 2, 3] rfl ?_
      exact w_W_calculate_b38 hL h hQ  v1 v2 v3 1 M16 hw
  · have hw := o_t c14 hw
    refine g_aload_n h d_W_calculate_5 rfl rfl ?_
    refine g_getR (t := 14) (i := 0) (k := 6) (C := "FlowGate$Flow") (T := T_W) (N := 12) h hL rfl (by decide) ob_14 (by decide) rfl (t' := 19) (i' := 0) rfl rfl (fun w hw => mc (in_W w hw)) (mc m_fl_W_29) rfl d_W_calculate_6 ?_
    refine g_iload_n h d_W_calculate_9 rfl rfl ?_
    refine g_aload_n h d_W_calculate_10 rfl rfl ?_
    refine g_getR (t := 14) (i := 0) (k := 1) (C := "FlowGate$Flow") (T := T_W) (N := 12) h hL rfl (by decide) ob_14 (by decide) rfl (t' := 4) (i' := 0) rfl rfl (fun w hw => mc (in_W w hw)) (mc m_fl_W_40) rfl d_W_calculate_11 ?_
    refine g_getI (t := 4) (i := 0) (k := 13) (C := "FlowGate$Method") (T := T_M) (N := 14) h hL rfl (by decide) ob_4 (by decide) rfl (fun w hw => mc (in_M w hw)) (mc m_fl_W_116) rfl d_W_calculate_14 ?_
    obtain ⟨r21, M20, hc19, hw⟩ := o_b hw
    refine g_calli h (g_runV (rest := []) h (ct_R_push hL 0 v2 (M.1 4 0 13) M (by decide) hc19) (cwV 2 h.2.2.2.2.1 (g_V m_ml_W_200 m_im_R_push m_se_R_push m_in_R m_co_R_push) rfl rfl rfl (by decide +kernel) ⟨Nat.le_of_ble_eq_true rfl, Nat.le_of_ble_eq_true rfl⟩) (hL.recv h rfl (by decide) ob_19) rfl rfl (Nat.le_of_ble_eq_true rfl) d_W_calculate_17) ?_
    exact g_iret h hQ d_W_calculate_20 hw
set_option maxHeartbeats 4000000 in
set_option maxRecDepth 100000 in
theorem ct_T_isRefOrNull {Z : ZT} (hL : Lay Z sC) (v1 : Int32) (M : Mm)  {res : Int32 × Mm} (hw : F_T_isRefOrNull v1 M = some res) : CtI Z y_T_isRefOrNull ws_T_isRefOrNull (({ frames := 1, cells := 0, slots := 0, locals := 23 })) [.ref (za Z 1 0), .int v1] M res := by
  refine CtI.of hL (cc := c_T_isRefOrNull) (maxL := 2) (by decide) rfl (Nat.le_of_ble_eq_true rfl) (fun X h hQ => ?_)
  show G Z X M 0 [(0, .ref (za Z 1 0)), (1, .int v1)] []
  rw [F_T_isRefOrNull] at hw
  refine g_iload_n h d_T_isRefOrNull_0 rfl rfl ?_
  refine g_iconst (v := 5) h d_T_isRefOrNull_1 (by decide) ?_
  refine g_icmp_eq (tgt := 13) h d_T_isRefOrNull_2 (by decide) (fun c1 => ?_) (fun c1 => ?_)
  · have hw := o_t c1 hw
    refine g_iconst (v := 1) h d_T_isRefOrNull_13 (by decide) ?_
    refine g_goto (tgt := 18) h d_T_isRefOrNull_14 (by decide) ?_
    exact g_zret h hQ d_T_isRefOrNull_18 rfl hw
  · have hw := o_f c1 hw
    refine g_aload_n h d_T_isRefOrNull_5 rfl rfl ?_
    refine g_iload_n h d_T_isRefOrNull_6 rfl rfl ?_
    refine g_calli h (g_runV (rest := []) h (ct_T_isRef hL v1 M (p_T_isRef v1 M)) (cwV 1 h.2.2.2.2.1 (g_V m_ml_T_23 m_im_T_isRef m_se_T_isRef m_in_T m_co_T_isRef) rfl rfl rfl (by decide +kernel) ⟨Nat.le_of_ble_eq_true rfl, Nat.le_of_ble_eq_true rfl⟩) (hL.recv h rfl (by decide) ob_1) rfl rfl (Nat.le_of_ble_eq_true rfl) d_T_isRefOrNull_7) ?_
    refine g_topi (fun r3 er3 => ?_)
    have hw := o_l hw r3 er3
    refine g_if_eq (tgt := 17) h d_T_isRefOrNull_10 (by decide) (fun c4 => ?_) (fun c4 => ?_)
    · have hw := o_t c4 hw
      refine g_iconst (v := 0) h d_T_isRefOrNull_17 (by decide) ?_
      exact g_zret h hQ d_T_isRefOrNull_18 rfl hw
    · have hw := o_f c4 hw
      refine g_iconst (v := 1) h d_T_isRefOrNull_13 (by decide) ?_
      refine g_goto (tgt := 18) h d_T_isRefOrNull_14 (by decide) ?_
      exact g_zret h hQ d_T_isRefOrNull_18 rfl hw
set_option maxHeartbeats 4000000 in
set_option maxRecDepth 100000 in
theorem w_T_goesFor_b71 {Z : ZT} {X : XT} (hL : Lay Z sC) (h : Ok Z X "FlowGate$Types" c_T_goesFor ws_T_goesFor 6 ({ frames := 2, cells := 0, slots := 0, locals := 44 })) {res : Int32 × Mm} (hQ : FinI Z X .boolean res)  (v3 : Int32) (v4 : Int32) (M : Mm)  (hw : F_T_goesFor_b71 v3 v4 M = some res) : G Z X M 71 [(0, .ref (za Z 1 0)), (3, .int v3), (4, .int v4)] [] := by
  rw [F_T_goesFor_b71] at hw
  refine g_iload_n h d_T_goesFor_71 rfl rfl ?_
  refine g_bipush (v := 12) h d_T_goesFor_72 (by decide) ?_
  refine g_icmp_eq (tgt := 84) h d_T_goesFor_74 (by decide) (fun c1 => ?_) (fun c1 => ?_)
  · have hw := o_t c1 hw
    refine g_iconst (v := 0) h d_T_goesFor_84 (by decide) ?_
    exact g_zret h hQ d_T_goesFor_85 rfl hw
  · have hw := o_f c1 hw
    refine g_iload h d_T_goesFor_77 rfl ?_
    refine g_bipush (v := 12) h d_T_goesFor_79 (by decide) ?_
    refine g_icmp_ne (tgt := 86) h d_T_goesFor_81 (by decide) (fun c2 => ?_) (fun c2 => ?_)
    · have hw := o_f c2 hw
      refine g_iload h d_T_goesFor_86 rfl ?_
      refine g_bipush (v := 16) h d_T_goesFor_88 (by decide) ?_
      refine g_icmp_ne (tgt := 95) h d_T_goesFor_90 (by decide) (fun c3 => ?_) (fun c3 => ?_)
      · have hw := o_f c3 hw
        refine g_iload_n h d_T_goesFor_95 rfl rfl ?_
        refine g_bipush (v := 64) h d_T_goesFor_96 (by decide) ?_
        refine g_icmp_ge (tgt := 108) h d_T_goesFor_98 (by decide) (fun c4 => ?_) (fun c4 => ?_)
        · have hw := o_t c4 hw
          refine g_iconst (v := 0) h d_T_goesFor_108 (by decide) ?_
          exact g_zret h hQ d_T_goesFor_109 rfl hw
        · have hw := o_f c4 hw
          refine g_iload h d_T_goesFor_101 rfl ?_
          refine g_bipush (v := 64) h d_T_goesFor_103 (by decide) ?_
          refine g_icmp_lt (tgt := 110) h d_T_goesFor_105 (by decide) (fun c5 => ?_) (fun c5 => ?_)
          · have hw := o_t c5 hw
            refine g_aload_n h d_T_goesFor_110 rfl rfl ?_
            refine g_getR (t := 1) (i := 0) (k := 1) (C := "FlowGate$Types") (T := T_T) (N := 3) h hL rfl (by decide) ob_1 (by decide) rfl (t' := 3) (i' := 0) rfl rfl (fun w hw => mc (in_T w hw)) (mc m_fl_T_15) rfl d_T_goesFor_111 ?_
            refine g_iload h d_T_goesFor_114 rfl ?_
            refine g_bipush (v := 16) h d_T_goesFor_116 (by decide) ?_
            refine g_isub h d_T_goesFor_118 ?_
            obtain ⟨hv6, hw⟩ := o_in hw
            refine g_zald (t := 3) (i := 0) h hL rfl (by decide) rfl rfl hv6 d_T_goesFor_119 ?_
            refine g_if_ne (tgt := 139) h d_T_goesFor_120 (by decide) (fun c7 => ?_) (fun c7 => ?_)
            · have hw := o_f c7 hw
              refine g_iconst (v := 1) h d_T_goesFor_139 (by decide) ?_
              refine g_goto (tgt := 144) h d_T_goesFor_140 (by decide) ?_
              exact g_zret h hQ d_T_goesFor_144 rfl hw
            · have hw := o_t c7 hw
              refine g_aload_n h d_T_goesFor_123 rfl rfl ?_
              refine g_iload_n h d_T_goesFor_124 rfl rfl ?_
              refine g_bipush (v := 16) h d_T_goesFor_125 (by decide) ?_
              refine g_isub h d_T_goesFor_127 ?_
              refine g_iload h d_T_goesFor_128 rfl ?_
              refine g_bipush (v := 16) h d_T_goesFor_130 (by decide) ?_
              refine g_isub h d_T_goesFor_132 ?_
              obtain ⟨r10, M9, hc8, hw⟩ := o_b hw
              refine g_calli h (g_runV (rest := []) h (ct_T_isBelow hL (v3 - 16) (v4 - 16) M hc8) (cwV 2 h.2.2.2.2.1 (g_V m_ml_T_30 m_im_T_isBelow m_se_T_isBelow m_in_T m_co_T_isBelow) rfl rfl rfl (by decide +kernel) ⟨Nat.le_of_ble_eq_true rfl, Nat.le_of_ble_eq_true rfl⟩) (hL.recv h rfl (by decide) ob_1) rfl rfl (Nat.le_of_ble_eq_true rfl) d_T_goesFor_133) ?_
              refine g_if_eq (tgt := 143) h d_T_goesFor_136 (by decide) (fun c11 => ?_) (fun c11 => ?_)
              · have hw := o_t c11 hw
                refine g_iconst (v := 0) h d_T_goesFor_143 (by decide) ?_
                exact g_zret h hQ d_T_goesFor_144 rfl hw
              · have hw := o_f c11 hw
                refine g_iconst (v := 1) h d_T_goesFor_139 (by decide) ?_
                refine g_goto (tgt := 144) h d_T_goesFor_140 (by decide) ?_
                exact g_zret h hQ d_T_goesFor_144 rfl hw
          · have hw := o_f c5 hw
            refine g_iconst (v := 0) h d_T_goesFor_108 (by decide) ?_
            exact g_zret h hQ d_T_goesFor_109 rfl hw
      · have hw := o_t c3 hw
        refine g_iconst (v := 1) h d_T_goesFor_93 (by decide) ?_
        exact g_zret h hQ d_T_goesFor_94 rfl hw
    · have hw := o_t c2 hw
      refine g_iconst (v := 0) h d_T_goesFor_84 (by decide) ?_
      exact g_zret h hQ d_T_goesFor_85 rfl hw
set_option maxHeartbeats 4000000 in
set_option maxRecDepth 100000 in
theorem w_T_goesFor_b40 {Z : ZT} {X : XT} (hL : Lay Z sC) (h : Ok Z X "FlowGate$Types" c_T_goesFor ws_T_goesFor 6 ({ frames := 2, cells := 0, slots := 0, locals := 44 })) {res : Int32 × Mm} (hQ : FinI Z X .boolean res)  : ∀ (n : Nat) (v3 : Int32) (v4 : Int32) (v5 : Int32) (M : Mm), F_T_goesFor_b40  n v3 v4 v5 M = some res → G Z X M 40 [(0, .ref (za Z 1 0)), (3, .int v3), (4, .int v4), (5, .int v5)] [] := by
  intro n
  induction n with
  | zero =>
    intro v3 v4 v5 M hw
    cases hw
  | succ n hK40 =>
    intro v3 v4 v5 M hw
    rw [F_T_goesFor_b40] at hw
    refine g_iload h d_T_goesFor_40 rfl ?_
    refine g_iconst (v := 3) h d_T_goesFor_42 (by decide) ?_
    refine g_icmp_ge (tgt := 71) h d_T_goesFor_43 (by decide) (fun c12 => ?_) (fun c12 => ?_)
    · have hw := o_t c12 hw
      refine g_sub [0, 1, 2] rfl ?_
      exact w_T_goesFor_b71 hL h hQ  v3 v4 M hw
    · have hw := o_f c12 hw
      refine g_iload_n h d_T_goesFor_46 rfl rfl ?_
      refine g_bipush (v := 64) h d_T_goesFor_47 (by decide) ?_
      refine g_icmp_lt (tgt := 71) h d_T_goesFor_49 (by decide) (fun c13 => ?_) (fun c13 => ?_)
      · have hw := o_t c13 hw
        refine g_sub [0, 1, 2] rfl ?_
        exact w_T_goesFor_b71 hL h hQ  v3 v4 M hw
      · have hw := o_f c13 hw
        refine g_iload h d_T_goesFor_52 rfl ?_
        refine g_bipush (v := 64) h d_T_goesFor_54 (by decide) ?_
        refine g_icmp_lt (tgt := 71) h d_T_goesFor_56 (by decide) (fun c14 => ?_) (fun c14 => ?_)
        · have hw := o_t c14 hw
          refine g_sub [0, 1, 2] rfl ?_
          exact w_T_goesFor_b71 hL h hQ  v3 v4 M hw
        · have hw := o_f c14 hw
          refine g_iinc (n' := (-64)) (lw := fun y => [(3, .int y), (0, .ref (za Z 1 0)), (4, .int v4), (5, .int v5)]) h d_T_goesFor_59 rfl (by decide) (by decide) (fun _ => rfl) (fun n15 en15 => ?_)
          have hw := o_l hw n15 en15
          refine g_iinc (n' := (-64)) (lw := fun y => [(4, .int y), (3, .int n15), (0, .ref (za Z 1 0)), (5, .int v5)]) h d_T_goesFor_62 rfl (by decide) (by decide) (fun _ => rfl) (fun n16 en16 => ?_)
          have hw := o_l hw n16 en16
          refine g_iinc (n' := 1) (lw := fun y => [(5, .int y), (4, .int n16), (3, .int n15), (0, .ref (za Z 1 0))]) h d_T_goesFor_65 rfl (by decide) (by decide) (fun _ => rfl) (fun n17 en17 => ?_)
          have hw := o_l hw n17 en17
          refine g_goto (tgt := 40) h d_T_goesFor_68 (by decide) ?_
          refine g_sub [3, 2, 1, 0] rfl ?_
          exact hK40 n15 n16 n17 M hw
set_option maxHeartbeats 4000000 in
set_option maxRecDepth 100000 in
theorem ct_T_goesFor {Z : ZT} (hL : Lay Z sC) (v1 : Int32) (v2 : Int32) (M : Mm)  {res : Int32 × Mm} (hw : F_T_goesFor v1 v2 M = some res) : CtI Z y_T_goesFor ws_T_goesFor (({ frames := 2, cells := 0, slots := 0, locals := 44 })) [.ref (za Z 1 0), .int v1, .int v2] M res := by
  refine CtI.of hL (cc := c_T_goesFor) (maxL := 6) (by decide) rfl (Nat.le_of_ble_eq_true rfl) (fun X h hQ => ?_)
  show G Z X M 0 [(0, .ref (za Z 1 0)), (1, .int v1), (2, .int v2)] []
  rw [F_T_goesFor] at hw
  refine g_iload_n h d_T_goesFor_0 rfl rfl ?_
  refine g_iload_n h d_T_goesFor_1 rfl rfl ?_
  refine g_icmp_ne (tgt := 7) h d_T_goesFor_2 (by decide) (fun c18 => ?_) (fun c18 => ?_)
  · have hw := o_f c18 hw
    refine g_aload_n h d_T_goesFor_7 rfl rfl ?_
    refine g_iload_n h d_T_goesFor_8 rfl rfl ?_
    refine g_calli h (g_runV (rest := []) h (ct_T_isRefOrNull hL v1 M (p_T_isRefOrNull v1 M)) (cwV 1 h.2.2.2.2.1 (g_V m_ml_T_27 m_im_T_isRefOrNull m_se_T_isRefOrNull m_in_T m_co_T_isRefOrNull) rfl rfl rfl (by decide +kernel) ⟨Nat.le_of_ble_eq_true rfl, Nat.le_of_ble_eq_true rfl⟩) (hL.recv h rfl (by decide) ob_1) rfl rfl (Nat.le_of_ble_eq_true rfl) d_T_goesFor_9) ?_
    refine g_topi (fun r20 er20 => ?_)
    have hw := o_l hw r20 er20
    refine g_if_eq (tgt := 23) h d_T_goesFor_12 (by decide) (fun c21 => ?_) (fun c21 => ?_)
    · have hw := o_t c21 hw
      refine g_iconst (v := 0) h d_T_goesFor_23 (by decide) ?_
      exact g_zret h hQ d_T_goesFor_24 rfl hw
    · have hw := o_f c21 hw
      refine g_aload_n h d_T_goesFor_15 rfl rfl ?_
      refine g_iload_n h d_T_goesFor_16 rfl rfl ?_
      refine g_calli h (g_runV (rest := []) h (ct_T_isRef hL v2 M (p_T_isRef v2 M)) (cwV 1 h.2.2.2.2.1 (g_V m_ml_T_23 m_im_T_isRef m_se_T_isRef m_in_T m_co_T_isRef) rfl rfl rfl (by decide +kernel) ⟨Nat.le_of_ble_eq_true rfl, Nat.le_of_ble_eq_true rfl⟩) (hL.recv h rfl (by decide) ob_1) rfl rfl (Nat.le_of_ble_eq_true rfl) d_T_goesFor_17) ?_
      refine g_topi (fun r23 er23 => ?_)
      have hw := o_l hw r23 er23
      refine g_if_ne (tgt := 25) h d_T_goesFor_20 (by decide) (fun c24 => ?_) (fun c24 => ?_)
      · have hw := o_f c24 hw
        refine g_iload_n h d_T_goesFor_25 rfl rfl ?_
        refine g_iconst (v := 5) h d_T_goesFor_26 (by decide) ?_
        refine g_icmp_ne (tgt := 32) h d_T_goesFor_27 (by decide) (fun c25 => ?_) (fun c25 => ?_)
        · have hw := o_f c25 hw
          refine g_iload_n h d_T_goesFor_32 rfl rfl ?_
          refine g_istore_n (lv' := [(3, .int v1), (0, .ref (za Z 1 0)), (1, .int v1), (2, .int v2)]) h d_T_goesFor_33 rfl (by decide) rfl ?_
          refine g_iload_n h d_T_goesFor_34 rfl rfl ?_
          refine g_istore (lv' := [(4, .int v2), (3, .int v1), (0, .ref (za Z 1 0)), (1, .int v1), (2, .int v2)]) h d_T_goesFor_35 (by decide) rfl ?_
          refine g_iconst (v := 0) h d_T_goesFor_37 (by decide) ?_
          refine g_istore (lv' := [(5, .int 0), (4, .int v2), (3, .int v1), (0, .ref (za Z 1 0)), (1, .int v1), (2, .int v2)]) h d_T_goesFor_38 (by decide) rfl ?_
          refine g_sub [3, 2, 1, 0] rfl ?_
          exact w_T_goesFor_b40 hL h hQ  fuel v1 v2 0 M hw
        · have hw := o_t c25 hw
          refine g_iconst (v := 1) h d_T_goesFor_30 (by decide) ?_
          exact g_zret h hQ d_T_goesFor_31 rfl hw
      · have hw := o_t c24 hw
        refine g_iconst (v := 0) h d_T_goesFor_23 (by decide) ?_
        exact g_zret h hQ d_T_goesFor_24 rfl hw
  · have hw := o_t c18 hw
    refine g_iconst (v := 1) h d_T_goesFor_5 (by decide) ?_
    exact g_zret h hQ d_T_goesFor_6 rfl hw
set_option maxHeartbeats 4000000 in
set_option maxRecDepth 100000 in
theorem w_W_decide_b120 {Z : ZT} {X : XT} (hL : Lay Z sC) (h : Ok Z X "FlowGate$Flow" c_W_decide ws_W_decide 3 ({ frames := 3, cells := 0, slots := 0, locals := 69 })) {res : Int32 × Mm} (hQ : FinI Z X .int res)  (s1 : Int32) (M : Mm)  (hw : F_W_decide_b120 s1 M = some res) : G Z X M 120 [] [.int s1, .ref (za Z 14 0)] := by
  rw [F_W_decide_b120] at hw
  refine g_iconst (v := 1) h d_W_decide_120 (by decide) ?_
  obtain ⟨r3, M2, hc1, hw⟩ := o_b hw
  refine g_calli h (g_runV (rest := []) h (ct_W_takeIf hL s1 1 M hc1) (cwV 2 h.2.2.2.2.1 (g_V m_ml_W_236 m_im_W_takeIf m_se_W_takeIf m_in_W m_co_W_takeIf) rfl rfl rfl (by decide +kernel) ⟨Nat.le_of_ble_eq_true rfl, Nat.le_of_ble_eq_true rfl⟩) (hL.recv h rfl (by decide) ob_14) rfl rfl (Nat.le_of_ble_eq_true rfl) d_W_decide_121) ?_
  exact g_iret h hQ d_W_decide_124 hw
set_option maxHeartbeats 4000000 in
set_option maxRecDepth 100000 in
theorem ct_W_decide {Z : ZT} (hL : Lay Z sC) (v1 : Int32) (M : Mm)  {res : Int32 × Mm} (hw : F_W_decide v1 M = some res) : CtI Z y_W_decide ws_W_decide (({ frames := 3, cells := 0, slots := 0, locals := 69 })) [.ref (za Z 14 0), .int v1] M res := by
  refine CtI.of hL (cc := c_W_decide) (maxL := 3) (by decide) rfl (Nat.le_of_ble_eq_true rfl) (fun X h hQ => ?_)
  show G Z X M 0 [(0, .ref (za Z 14 0)), (1, .int v1)] []
  rw [F_W_decide] at hw
  refine g_aload_n h d_W_decide_0 rfl rfl ?_
  refine g_getR (t := 14) (i := 0) (k := 6) (C := "FlowGate$Flow") (T := T_W) (N := 12) h hL rfl (by decide) ob_14 (by decide) rfl (t' := 19) (i' := 0) rfl rfl (fun w hw => mc (in_W w hw)) (mc m_fl_W_29) rfl d_W_decide_1 ?_
  refine g_iconst (v := 0) h d_W_decide_4 (by decide) ?_
  obtain ⟨r6, M5, hc4, hw⟩ := o_b hw
  refine g_calli h (g_runV (rest := []) h (ct_R_top hL 0 0 M (by decide) hc4) (cwV 1 h.2.2.2.2.1 (g_V m_ml_W_219 m_im_R_top m_se_R_top m_in_R m_co_R_top) rfl rfl rfl (by decide +kernel) ⟨Nat.le_of_ble_eq_true rfl, Nat.le_of_ble_eq_true rfl⟩) (hL.recv h rfl (by decide) ob_19) rfl rfl (Nat.le_of_ble_eq_true rfl) d_W_decide_5) ?_
  refine g_istore_n (lv' := [(2, .int r6), (0, .ref (za Z 14 0)), (1, .int v1)]) h d_W_decide_8 rfl (by decide) rfl ?_
  refine g_iload_n h d_W_decide_9 rfl rfl ?_
  rcases Classical.em (v1 = 13) with c26_0 | c26_0
  · refine g_look (tgt := 44) (off := 34) h d_W_decide_10 (by decide) (by rw [c26_0]; first | done | rfl | decide) (by decide) ?_
    have hw := o_t c26_0 hw
    refine g_aload_n h d_W_decide_44 rfl rfl ?_
    refine g_aload_n h d_W_decide_45 rfl rfl ?_
    refine g_getR (t := 14) (i := 0) (k := 0) (C := "FlowGate$Flow") (T := T_W) (N := 12) h hL rfl (by decide) ob_14 (by decide) rfl (t' := 1) (i' := 0) rfl rfl (fun w hw => mc (in_W w hw)) (mc m_fl_W_36) rfl d_W_decide_46 ?_
    refine g_iload_n h d_W_decide_49 rfl rfl ?_
    refine g_calli h (g_runV (rest := [.ref (za Z 14 0)]) h (ct_T_isRefOrNull hL r6 M5 (p_T_isRefOrNull r6 M5)) (cwV 1 h.2.2.2.2.1 (g_V m_ml_W_247 m_im_T_isRefOrNull m_se_T_isRefOrNull m_in_T m_co_T_isRefOrNull) rfl rfl rfl (by decide +kernel) ⟨Nat.le_of_ble_eq_true rfl, Nat.le_of_ble_eq_true rfl⟩) (hL.recv h rfl (by decide) ob_1) rfl rfl (Nat.le_of_ble_eq_true rfl) d_W_decide_50) ?_
    refine g_topi (fun r9 er9 => ?_)
    have hw := o_l hw r9 er9
    refine g_iconst (v := 1) h d_W_decide_53 (by decide) ?_
    obtain ⟨r12, M11, hc10, hw⟩ := o_b hw
    refine g_calli h (g_runV (rest := []) h (ct_W_takeIf hL r9 1 M5 hc10) (cwV 2 h.2.2.2.2.1 (g_V m_ml_W_236 m_im_W_takeIf m_se_W_takeIf m_in_W m_co_W_takeIf) rfl rfl rfl (by decide +kernel) ⟨Nat.le_of_ble_eq_true rfl, Nat.le_of_ble_eq_true rfl⟩) (hL.recv h rfl (by decide) ob_14) rfl rfl (Nat.le_of_ble_eq_true rfl) d_W_decide_54) ?_
    exact g_iret h hQ d_W_decide_57 hw
  have hw := o_f c26_0 hw
  rcases Classical.em (v1 = 18) with c26_1 | c26_1
  · refine g_look (tgt := 74) (off := 64) h d_W_decide_10 (by decide) (by rw [c26_1]; first | done | rfl | decide) (by decide) ?_
    have hw := o_t c26_1 hw
    refine g_aload_n h d_W_decide_74 rfl rfl ?_
    refine g_getR (t := 14) (i := 0) (k := 1) (C := "FlowGate$Flow") (T := T_W) (N := 12) h hL rfl (by decide) ob_14 (by decide) rfl (t' := 4) (i' := 0) rfl rfl (fun w hw => mc (in_W w hw)) (mc m_fl_W_40) rfl d_W_decide_75 ?_
    refine g_getI (t := 4) (i := 0) (k := 11) (C := "FlowGate$Method") (T := T_M) (N := 14) h hL rfl (by decide) ob_4 (by decide) rfl (fun w hw => mc (in_M w hw)) (mc m_fl_W_255) rfl d_W_decide_78 ?_
    refine g_if_ne (tgt := 88) h d_W_decide_81 (by decide) (fun c13 => ?_) (fun c13 => ?_)
    · have hw := o_f c13 hw
      refine g_aload_n h d_W_decide_88 rfl rfl ?_
      refine g_aload_n h d_W_decide_89 rfl rfl ?_
      refine g_getR (t := 14) (i := 0) (k := 0) (C := "FlowGate$Flow") (T := T_W) (N := 12) h hL rfl (by decide) ob_14 (by decide) rfl (t' := 1) (i' := 0) rfl rfl (fun w hw => mc (in_W w hw)) (mc m_fl_W_36) rfl d_W_decide_90 ?_
      refine g_iload_n h d_W_decide_93 rfl rfl ?_
      refine g_aload_n h d_W_decide_94 rfl rfl ?_
      refine g_getR (t := 14) (i := 0) (k := 1) (C := "FlowGate$Flow") (T := T_W) (N := 12) h hL rfl (by decide) ob_14 (by decide) rfl (t' := 4) (i' := 0) rfl rfl (fun w hw => mc (in_W w hw)) (mc m_fl_W_40) rfl d_W_decide_95 ?_
      refine g_getI (t := 4) (i := 0) (k := 11) (C := "FlowGate$Method") (T := T_M) (N := 14) h hL rfl (by decide) ob_4 (by decide) rfl (fun w hw => mc (in_M w hw)) (mc m_fl_W_255) rfl d_W_decide_98 ?_
      obtain ⟨r16, M15, hc14, hw⟩ := o_b hw
      refine g_calli h (g_runV (rest := [.ref (za Z 14 0)]) h (ct_T_goesFor hL r6 (M5.1 4 0 11) M5 hc14) (cwV 2 h.2.2.2.2.1 (g_V m_ml_W_252 m_im_T_goesFor m_se_T_goesFor m_in_T m_co_T_goesFor) rfl rfl rfl (by decide +kernel) ⟨Nat.le_of_ble_eq_true rfl, Nat.le_of_ble_eq_true rfl⟩) (hL.recv h rfl (by decide) ob_1) rfl rfl (Nat.le_of_ble_eq_true rfl) d_W_decide_101) ?_
      refine g_iconst (v := 1) h d_W_decide_104 (by decide) ?_
      obtain ⟨r19, M18, hc17, hw⟩ := o_b hw
      refine g_calli h (g_runV (rest := []) h (ct_W_takeIf hL r16 1 M15 hc17) (cwV 2 h.2.2.2.2.1 (g_V m_ml_W_236 m_im_W_takeIf m_se_W_takeIf m_in_W m_co_W_takeIf) rfl rfl rfl (by decide +kernel) ⟨Nat.le_of_ble_eq_true rfl, Nat.le_of_ble_eq_true rfl⟩) (hL.recv h rfl (by decide) ob_14) rfl rfl (Nat.le_of_ble_eq_true rfl) d_W_decide_105) ?_
      exact g_iret h hQ d_W_decide_108 hw
    · have hw := o_t c13 hw
      refine g_iconst (v := 0) h d_W_decide_84 (by decide) ?_
      refine g_goto (tgt := 108) h d_W_decide_85 (by decide) ?_
      exact g_iret h hQ d_W_decide_108 hw
  have hw := o_f c26_1 hw
  rcases Classical.em (v1 = 19) with c26_2 | c26_2
  · refine g_look (tgt := 58) (off := 48) h d_W_decide_10 (by decide) (by rw [c26_2]; first | done | rfl | decide) (by decide) ?_
    have hw := o_t c26_2 hw
    refine g_aload_n h d_W_decide_58 rfl rfl ?_
    refine g_aload_n h d_W_decide_59 rfl rfl ?_
    refine g_getR (t := 14) (i := 0) (k := 0) (C := "FlowGate$Flow") (T := T_W) (N := 12) h hL rfl (by decide) ob_14 (by decide) rfl (t' := 1) (i' := 0) rfl rfl (fun w hw => mc (in_W w hw)) (mc m_fl_W_36) rfl d_W_decide_60 ?_
    refine g_iload_n h d_W_decide_63 rfl rfl ?_
    refine g_bipush (v := 17) h d_W_decide_64 (by decide) ?_
    obtain ⟨r22, M21, hc20, hw⟩ := o_b hw
    refine g_calli h (g_runV (rest := [.ref (za Z 14 0)]) h (ct_T_goesFor hL r6 17 M5 hc20) (cwV 2 h.2.2.2.2.1 (g_V m_ml_W_252 m_im_T_goesFor m_se_T_goesFor m_in_T m_co_T_goesFor) rfl rfl rfl (by decide +kernel) ⟨Nat.le_of_ble_eq_true rfl, Nat.le_of_ble_eq_true rfl⟩) (hL.recv h rfl (by decide) ob_1) rfl rfl (Nat.le_of_ble_eq_true rfl) d_W_decide_66) ?_
    refine g_iconst (v := 1) h d_W_decide_69 (by decide) ?_
    obtain ⟨r25, M24, hc23, hw⟩ := o_b hw
    refine g_calli h (g_runV (rest := []) h (ct_W_takeIf hL r22 1 M21 hc23) (cwV 2 h.2.2.2.2.1 (g_V m_ml_W_236 m_im_W_takeIf m_se_W_takeIf m_in_W m_co_W_takeIf) rfl rfl rfl (by decide +kernel) ⟨Nat.le_of_ble_eq_true rfl, Nat.le_of_ble_eq_true rfl⟩) (hL.recv h rfl (by decide) ob_14) rfl rfl (Nat.le_of_ble_eq_true rfl) d_W_decide_70) ?_
    exact g_iret h hQ d_W_decide_73 hw
  have hw := o_f c26_2 hw
  refine g_look (tgt := 109) (off := 99) h d_W_decide_10 (by decide) ((lv_osw (o := 34) (a := 13) c26_0 rfl).trans ((lv_osw (o := 64) (a := 18) c26_1 rfl).trans ((lv_osw (o := 48) (a := 19) c26_2 rfl).trans (rfl)))) (by decide) ?_
  refine g_aload_n h d_W_decide_109 rfl rfl ?_
  refine g_iload_n h d_W_decide_110 rfl rfl ?_
  refine g_iconst (v := 1) h d_W_decide_111 (by decide) ?_
  refine g_icmp_ne (tgt := 119) h d_W_decide_112 (by decide) (fun c7 => ?_) (fun c7 => ?_)
  · have hw := o_f c7 hw
    refine g_iconst (v := 0) h d_W_decide_119 (by decide) ?_
    refine g_sub [] rfl ?_
    exact w_W_decide_b120 hL h hQ  0 M5 hw
  · have hw := o_t c7 hw
    refine g_iconst (v := 1) h d_W_decide_115 (by decide) ?_
    refine g_goto (tgt := 120) h d_W_decide_116 (by decide) ?_
    refine g_sub [] rfl ?_
    exact w_W_decide_b120 hL h hQ  1 M5 hw
set_option maxHeartbeats 4000000 in
set_option maxRecDepth 100000 in
theorem ct_R_enter {Z : ZT} (hL : Lay Z sC) (i0 : Nat) (v1 : Int32) (M : Mm) (hbi0 : i0 < cnt 19) {res : Mm} (hw : F_R_enter i0 v1 M = some res) : CtV Z y_R_enter ws_R_enter (({ frames := 0, cells := 0, slots := 0, locals := 0 })) [.ref (za Z 19 i0), .int v1] M res := by
  refine CtV.of hL (cc := c_R_enter) (maxL := 2) (by decide) rfl (Nat.le_of_ble_eq_true rfl) (fun X h hQ => ?_)
  show G Z X M 0 [(0, .ref (za Z 19 i0)), (1, .int v1)] []
  rw [F_R_enter] at hw
  refine g_aload_n h d_R_enter_0 rfl rfl ?_
  refine g_dup h d_R_enter_1 rfl ?_
  refine g_getL (t := 19) (i := i0) (k := 3) (C := "FlowGate$Frame") (T := T_R) (N := 5) h hL rfl hbi0 ob_19 (by decide) rfl (fun w hw => mc (in_R w hw)) (mc m_fl_R_31) rfl d_R_enter_2 ?_
  refine g_lconst (v := 1) h d_R_enter_5 rfl ?_
  refine g_iload_n h d_R_enter_6 rfl rfl ?_
  refine g_lshl h d_R_enter_7 ?_
  refine g_lor h d_R_enter_8 ?_
  refine g_putL (t := 19) (i := i0) (k := 3) (C := "FlowGate$Frame") (T := T_R) (N := 5) h hL rfl hbi0 ob_19 (by decide) rfl (fun w hw => mc (in_R w hw)) ty_R ty_R_ok nm_R (mc m_fl_R_31) rfl rfl rfl d_R_enter_9 ?_
  refine g_mem (fun M1 eM1 => ?_)
  have hw := o_l hw M1 eM1
  refine g_aload_n h d_R_enter_12 rfl rfl ?_
  refine g_getR (t := 19) (i := i0) (k := 4) (C := "FlowGate$Frame") (T := T_R) (N := 5) h hL rfl hbi0 ob_19 (by decide) rfl (t' := 22) (i' := i0) rfl rfl (fun w hw => mc (in_R w hw)) (mc m_fl_R_18) rfl d_R_enter_13 ?_
  refine g_iload_n h d_R_enter_16 rfl rfl ?_
  refine g_iconst (v := 0) h d_R_enter_17 (by decide) ?_
  obtain ⟨hv2, hw⟩ := o_in hw
  refine g_iast (t := 22) (i := i0) h hL rfl hbi0 rfl rfl hv2 d_R_enter_18 ?_
  refine g_mem (fun M3 eM3 => ?_)
  have hw := o_l hw M3 eM3
  exact g_vret h hQ d_R_enter_19 hw
set_option maxHeartbeats 4000000 in
set_option maxRecDepth 100000 in
theorem ct_W_enterSub {Z : ZT} (hL : Lay Z sC) (v1 : Int32) (M : Mm)  {res : Int32 × Mm} (hw : F_W_enterSub v1 M = some res) : CtI Z y_W_enterSub ws_W_enterSub (({ frames := 2, cells := 0, slots := 0, locals := 44 })) [.ref (za Z 14 0), .int v1] M res := by
  refine CtI.of hL (cc := c_W_enterSub) (maxL := 2) (by decide) rfl (Nat.le_of_ble_eq_true rfl) (fun X h hQ => ?_)
  show G Z X M 0 [(0, .ref (za Z 14 0)), (1, .int v1)] []
  rw [F_W_enterSub] at hw
  refine g_aload_n h d_W_enterSub_0 rfl rfl ?_
  refine g_getR (t := 14) (i := 0) (k := 6) (C := "FlowGate$Flow") (T := T_W) (N := 12) h hL rfl (by decide) ob_14 (by decide) rfl (t' := 19) (i' := 0) rfl rfl (fun w hw => mc (in_W w hw)) (mc m_fl_W_29) rfl d_W_enterSub_1 ?_
  refine g_iload_n h d_W_enterSub_4 rfl rfl ?_
  refine g_calli h (g_runV (rest := []) h (ct_R_isIn hL 0 v1 M (by decide) (p_R_isIn 0 v1 M)) (cwV 1 h.2.2.2.2.1 (g_V m_ml_W_224 m_im_R_isIn m_se_R_isIn m_in_R m_co_R_isIn) rfl rfl rfl (by decide +kernel) ⟨Nat.le_of_ble_eq_true rfl, Nat.le_of_ble_eq_true rfl⟩) (hL.recv h rfl (by decide) ob_19) rfl rfl (Nat.le_of_ble_eq_true rfl) d_W_enterSub_5) ?_
  refine g_topi (fun r2 er2 => ?_)
  have hw := o_l hw r2 er2
  refine g_if_eq (tgt := 14) h d_W_enterSub_8 (by decide) (fun c3 => ?_) (fun c3 => ?_)
  · have hw := o_t c3 hw
    refine g_aload_n h d_W_enterSub_14 rfl rfl ?_
    refine g_getR (t := 14) (i := 0) (k := 6) (C := "FlowGate$Flow") (T := T_W) (N := 12) h hL rfl (by decide) ob_14 (by decide) rfl (t' := 19) (i' := 0) rfl rfl (fun w hw => mc (in_W w hw)) (mc m_fl_W_29) rfl d_W_enterSub_15 ?_
    refine g_iload_n h d_W_enterSub_18 rfl rfl ?_
    obtain ⟨M5, hc4, hw⟩ := o_v hw
    refine g_callv h (g_runV (rest := []) h (ct_R_enter hL 0 v1 M (by decide) hc4) (cwV 1 h.2.2.2.2.1 (g_V m_ml_W_227 m_im_R_enter m_se_R_enter m_in_R m_co_R_enter) rfl rfl rfl (by decide +kernel) ⟨Nat.le_of_ble_eq_true rfl, Nat.le_of_ble_eq_true rfl⟩) (hL.recv h rfl (by decide) ob_19) rfl rfl (Nat.le_of_ble_eq_true rfl) d_W_enterSub_19) ?_
    refine g_aload_n h d_W_enterSub_22 rfl rfl ?_
    refine g_getR (t := 14) (i := 0) (k := 6) (C := "FlowGate$Flow") (T := T_W) (N := 12) h hL rfl (by decide) ob_14 (by decide) rfl (t' := 19) (i' := 0) rfl rfl (fun w hw => mc (in_W w hw)) (mc m_fl_W_29) rfl d_W_enterSub_23 ?_
    refine g_sipush (v := 2000) h d_W_enterSub_26 (by decide) ?_
    refine g_iload_n h d_W_enterSub_29 rfl rfl ?_
    refine g_iadd h d_W_enterSub_30 ?_
    refine g_aload_n h d_W_enterSub_31 rfl rfl ?_
    refine g_getR (t := 14) (i := 0) (k := 1) (C := "FlowGate$Flow") (T := T_W) (N := 12) h hL rfl (by decide) ob_14 (by decide) rfl (t' := 4) (i' := 0) rfl rfl (fun w hw => mc (in_W w hw)) (mc m_fl_W_40) rfl d_W_enterSub_32 ?_
    refine g_getI (t := 4) (i := 0) (k := 13) (C := "FlowGate$Method") (T := T_M) (N := 14) h hL rfl (by decide) ob_4 (by decide) rfl (fun w hw => mc (in_M w hw)) (mc m_fl_W_116) rfl d_W_enterSub_35 ?_
    obtain ⟨r8, M7, hc6, hw⟩ := o_b hw
    refine g_calli h (g_runV (rest := []) h (ct_R_push hL 0 ((2000 : Int32) + v1) (M5.1 4 0 13) M5 (by decide) hc6) (cwV 2 h.2.2.2.2.1 (g_V m_ml_W_200 m_im_R_push m_se_R_push m_in_R m_co_R_push) rfl rfl rfl (by decide +kernel) ⟨Nat.le_of_ble_eq_true rfl, Nat.le_of_ble_eq_true rfl⟩) (hL.recv h rfl (by decide) ob_19) rfl rfl (Nat.le_of_ble_eq_true rfl) d_W_enterSub_38) ?_
    exact g_iret h hQ d_W_enterSub_41 hw
  · have hw := o_f c3 hw
    refine g_bipush (v := 6) h d_W_enterSub_11 (by decide) ?_
    exact g_iret h hQ d_W_enterSub_13 hw
set_option maxHeartbeats 4000000 in
set_option maxRecDepth 100000 in
theorem w_R_isOnStack_b2 {Z : ZT} {X : XT} (hL : Lay Z sC) (h : Ok Z X "FlowGate$Frame" c_R_isOnStack ws_R_isOnStack 3 ({ frames := 0, cells := 0, slots := 0, locals := 0 })) {res : Int32 × Mm} (hQ : FinI Z X .boolean res)  : ∀ (n : Nat) (i0 : Nat) (v1 : Int32) (v2 : Int32) (M : Mm), i0 < cnt 19 → F_R_isOnStack_b2  n i0 v1 v2 M = some res → G Z X M 2 [(0, .ref (za Z 19 i0)), (1, .int v1), (2, .int v2)] [] := by
  intro n
  induction n with
  | zero =>
    intro i0 v1 v2 M hbi0 hw
    cases hw
  | succ n hK2 =>
    intro i0 v1 v2 M hbi0 hw
    rw [F_R_isOnStack_b2] at hw
    refine g_iload_n h d_R_isOnStack_2 rfl rfl ?_
    refine g_aload_n h d_R_isOnStack_3 rfl rfl ?_
    refine g_getI (t := 19) (i := i0) (k := 2) (C := "FlowGate$Frame") (T := T_R) (N := 5) h hL rfl hbi0 ob_19 (by decide) rfl (fun w hw => mc (in_R w hw)) (mc m_fl_R_27) rfl d_R_isOnStack_4 ?_
    refine g_icmp_ge (tgt := 28) h d_R_isOnStack_7 (by decide) (fun c1 => ?_) (fun c1 => ?_)
    · have hw := o_t c1 hw
      refine g_iconst (v := 0) h d_R_isOnStack_28 (by decide) ?_
      exact g_zret h hQ d_R_isOnStack_29 rfl hw
    · have hw := o_f c1 hw
      refine g_aload_n h d_R_isOnStack_10 rfl rfl ?_
      refine g_getR (t := 19) (i := i0) (k := 1) (C := "FlowGate$Frame") (T := T_R) (N := 5) h hL rfl hbi0 ob_19 (by decide) rfl (t' := 21) (i' := i0) rfl rfl (fun w hw => mc (in_R w hw)) (mc m_fl_R_15) rfl d_R_isOnStack_11 ?_
      refine g_iload_n h d_R_isOnStack_14 rfl rfl ?_
      obtain ⟨hv2, hw⟩ := o_in hw
      refine g_iald (t := 21) (i := i0) h hL rfl hbi0 rfl rfl hv2 d_R_isOnStack_15 ?_
      refine g_iload_n h d_R_isOnStack_16 rfl rfl ?_
      refine g_icmp_ne (tgt := 22) h d_R_isOnStack_17 (by decide) (fun c3 => ?_) (fun c3 => ?_)
      · have hw := o_f c3 hw
        refine g_iinc (n' := 1) (lw := fun y => [(2, .int y), (0, .ref (za Z 19 i0)), (1, .int v1)]) h d_R_isOnStack_22 rfl (by decide) (by decide) (fun _ => rfl) (fun n4 en4 => ?_)
        have hw := o_l hw n4 en4
        refine g_goto (tgt := 2) h d_R_isOnStack_25 (by decide) ?_
        refine g_sub [1, 2, 0] rfl ?_
        exact hK2 i0 v1 n4 M hbi0 hw
      · have hw := o_t c3 hw
        refine g_iconst (v := 1) h d_R_isOnStack_20 (by decide) ?_
        exact g_zret h hQ d_R_isOnStack_21 rfl hw
set_option maxHeartbeats 4000000 in
set_option maxRecDepth 100000 in
theorem ct_R_isOnStack {Z : ZT} (hL : Lay Z sC) (i0 : Nat) (v1 : Int32) (M : Mm) (hbi0 : i0 < cnt 19) {res : Int32 × Mm} (hw : F_R_isOnStack i0 v1 M = some res) : CtI Z y_R_isOnStack ws_R_isOnStack (({ frames := 0, cells := 0, slots := 0, locals := 0 })) [.ref (za Z 19 i0), .int v1] M res := by
  refine CtI.of hL (cc := c_R_isOnStack) (maxL := 3) (by decide) rfl (Nat.le_of_ble_eq_true rfl) (fun X h hQ => ?_)
  show G Z X M 0 [(0, .ref (za Z 19 i0)), (1, .int v1)] []
  rw [F_R_isOnStack] at hw
  refine g_iconst (v := 0) h d_R_isOnStack_0 (by decide) ?_
  refine g_istore_n (lv' := [(2, .int 0), (0, .ref (za Z 19 i0)), (1, .int v1)]) h d_R_isOnStack_1 rfl (by decide) rfl ?_
  refine g_sub [1, 2, 0] rfl ?_
  exact w_R_isOnStack_b2 hL h hQ  fuel i0 v1 0 M hbi0 hw
