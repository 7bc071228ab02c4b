def Sim_cls (Rel : Mm → Mm → Prop) : Prop := ∀ (Mc Mr : Mm), Rel Mc Mr → ∀ (v1 : Int32) (v2 : Int32), zo v2 → ∃ (r : Int32) (Mc' Mr' : Mm), F_G_cls v1 v2 Mc = some (r, Mc') ∧ F_D_cls v1 v2 Mr = some (r, Mr') ∧ Rel Mc' Mr'
def St_cls (Q : Mm → Mm → Prop) (Mc Mr : Mm) : Prop := ∀ (v1 : Int32) (v2 : Int32), zo v2 → ∃ (rc rd : Int32) (Mc' Mr' : Mm), F_G_cls v1 v2 Mc = some (rc, Mc') ∧ F_D_cls v1 v2 Mr = some (rd, Mr') ∧ Q Mc' Mr'
def Sim_begin (Rel : Mm → Mm → Prop) : Prop := ∀ (Mc Mr : Mm), Rel Mc Mr → ∀ (v1 : Int32) (v2 : Int32) (v3 : Int32), ∃ (r : Int32) (Mc' Mr' : Mm), F_G_begin v1 v2 v3 Mc = some (r, Mc') ∧ F_D_begin v1 v2 v3 Mr = some (r, Mr') ∧ Rel Mc' Mr'
def St_begin (Q : Mm → Mm → Prop) (Mc Mr : Mm) : Prop := ∀ (v1 : Int32) (v2 : Int32) (v3 : Int32), ∃ (rc rd : Int32) (Mc' Mr' : Mm), F_G_begin v1 v2 v3 Mc = some (rc, Mc') ∧ F_D_begin v1 v2 v3 Mr = some (rd, Mr') ∧ Q Mc' Mr'
def Sim_argument (Rel : Mm → Mm → Prop) : Prop := ∀ (Mc Mr : Mm), Rel Mc Mr → ∀ (v1 : Int32), ∃ (r : Int32) (Mc' Mr' : Mm), F_G_argument v1 Mc = some (r, Mc') ∧ F_D_argument v1 Mr = some (r, Mr') ∧ Rel Mc' Mr'
def St_argument (Q : Mm → Mm → Prop) (Mc Mr : Mm) : Prop := ∀ (v1 : Int32), ∃ (rc rd : Int32) (Mc' Mr' : Mm), F_G_argument v1 Mc = some (rc, Mc') ∧ F_D_argument v1 Mr = some (rd, Mr') ∧ Q Mc' Mr'
def Sim_add (Rel : Mm → Mm → Prop) : Prop := ∀ (Mc Mr : Mm), Rel Mc Mr → ∀ (v1 : Int32) (v2 : Int32) (v3 : Int32), ∃ (r : Int32) (Mc' Mr' : Mm), F_G_add v1 v2 v3 Mc = some (r, Mc') ∧ F_D_add v1 v2 v3 Mr = some (r, Mr') ∧ Rel Mc' Mr'
def St_add (Q : Mm → Mm → Prop) (Mc Mr : Mm) : Prop := ∀ (v1 : Int32) (v2 : Int32) (v3 : Int32), ∃ (rc rd : Int32) (Mc' Mr' : Mm), F_G_add v1 v2 v3 Mc = some (rc, Mc') ∧ F_D_add v1 v2 v3 Mr = some (rd, Mr') ∧ Q Mc' Mr'
def Sim_change (Rel : Mm → Mm → Prop) : Prop := ∀ (Mc Mr : Mm), Rel Mc Mr → ∀ (v1 : Int32) (v2 : Int32) (v3 : Int32) (v4 : Int32), ∃ (r : Int32) (Mc' Mr' : Mm), F_G_change v1 v2 v3 v4 Mc = some (r, Mc') ∧ F_D_change v1 v2 v3 v4 Mr = some (r, Mr') ∧ Rel Mc' Mr'
def St_change (Q : Mm → Mm → Prop) (Mc Mr : Mm) : Prop := ∀ (v1 : Int32) (v2 : Int32) (v3 : Int32) (v4 : Int32), ∃ (rc rd : Int32) (Mc' Mr' : Mm), F_G_change v1 v2 v3 v4 Mc = some (rc, Mc') ∧ F_D_change v1 v2 v3 v4 Mr = some (rd, Mr') ∧ Q Mc' Mr'
def Sim_handler (Rel : Mm → Mm → Prop) : Prop := ∀ (Mc Mr : Mm), Rel Mc Mr → ∀ (v1 : Int32) (v2 : Int32) (v3 : Int32) (v4 : Int32), ∃ (r : Int32) (Mc' Mr' : Mm), F_G_handler v1 v2 v3 v4 Mc = some (r, Mc') ∧ F_D_handler v1 v2 v3 v4 Mr = some (r, Mr') ∧ Rel Mc' Mr'
def St_handler (Q : Mm → Mm → Prop) (Mc Mr : Mm) : Prop := ∀ (v1 : Int32) (v2 : Int32) (v3 : Int32) (v4 : Int32), ∃ (rc rd : Int32) (Mc' Mr' : Mm), F_G_handler v1 v2 v3 v4 Mc = some (rc, Mc') ∧ F_D_handler v1 v2 v3 v4 Mr = some (rd, Mr') ∧ Q Mc' Mr'
def Sim_verify (Rel : Mm → Mm → Prop) : Prop := ∀ (Mc Mr : Mm), Rel Mc Mr → ∀ (_ : Unit), ∃ (r : Int32) (Mc' Mr' : Mm), F_G_verify Mc = some (r, Mc') ∧ F_D_verify Mr = some (r, Mr') ∧ Rel Mc' Mr'
def St_verify (Q : Mm → Mm → Prop) (Mc Mr : Mm) : Prop := ∀ (_ : Unit), ∃ (rc rd : Int32) (Mc' Mr' : Mm), F_G_verify Mc = some (rc, Mc') ∧ F_D_verify Mr = some (rd, Mr') ∧ Q Mc' Mr'
def Sim_place (Rel : Mm → Mm → Prop) : Prop := ∀ (Mc Mr : Mm), Rel Mc Mr → ∀ (_ : Unit), ∃ (r : Int32) (Mc' Mr' : Mm), F_G_place Mc = some (r, Mc') ∧ F_D_place Mr = some (r, Mr') ∧ Rel Mc' Mr'
def St_place (Q : Mm → Mm → Prop) (Mc Mr : Mm) : Prop := ∀ (_ : Unit), ∃ (rc rd : Int32) (Mc' Mr' : Mm), F_G_place Mc = some (rc, Mc') ∧ F_D_place Mr = some (rd, Mr') ∧ Q Mc' Mr'
def Sim_state (Rel : Mm → Mm → Prop) : Prop := ∀ (Mc Mr : Mm), Rel Mc Mr → ∀ (v1 : Int32) (v2 : Int32), ∃ (r : Int32) (Mc' Mr' : Mm), F_G_state v1 v2 Mc = some (r, Mc') ∧ F_D_state v1 v2 Mr = some (r, Mr') ∧ Rel Mc' Mr'
def St_state (Q : Mm → Mm → Prop) (Mc Mr : Mm) : Prop := ∀ (v1 : Int32) (v2 : Int32), ∃ (rc rd : Int32) (Mc' Mr' : Mm), F_G_state v1 v2 Mc = some (rc, Mc') ∧ F_D_state v1 v2 Mr = some (rd, Mr') ∧ Q Mc' Mr'
def Sim_join (Rel : Mm → Mm → Prop) : Prop := ∀ (Mc Mr : Mm), Rel Mc Mr → ∀ (v1 : Int32) (v2 : Int32), ∃ (r : Int32) (Mc' Mr' : Mm), F_G_join v1 v2 Mc = some (r, Mc') ∧ F_D_join v1 v2 Mr = some (r, Mr') ∧ Rel Mc' Mr'
def St_join (Q : Mm → Mm → Prop) (Mc Mr : Mm) : Prop := ∀ (v1 : Int32) (v2 : Int32), ∃ (rc rd : Int32) (Mc' Mr' : Mm), F_G_join v1 v2 Mc = some (rc, Mc') ∧ F_D_join v1 v2 Mr = some (rd, Mr') ∧ Q Mc' Mr'
def Sim_goes (Rel : Mm → Mm → Prop) : Prop := ∀ (Mc Mr : Mm), Rel Mc Mr → ∀ (v1 : Int32) (v2 : Int32), ∃ (r : Int32) (Mc' Mr' : Mm), F_G_goes v1 v2 Mc = some (r, Mc') ∧ F_D_goes v1 v2 Mr = some (r, Mr') ∧ Rel Mc' Mr'
def St_goes (Q : Mm → Mm → Prop) (Mc Mr : Mm) : Prop := ∀ (v1 : Int32) (v2 : Int32), ∃ (r : Int32) (Mc' Mr' : Mm), F_G_goes v1 v2 Mc = some (r, Mc') ∧ F_D_goes v1 v2 Mr = some (r, Mr') ∧ Q Mc' Mr'
def Sim_count (Rel : Mm → Mm → Prop) : Prop := ∀ (Mc Mr : Mm), Rel Mc Mr → ∀ (v1 : Int32), ∃ (r : Int32) (Mc' Mr' : Mm), F_G_count v1 Mc = some (r, Mc') ∧ F_D_count v1 Mr = some (r, Mr') ∧ Rel Mc' Mr'
def St_count (Q : Mm → Mm → Prop) (Mc Mr : Mm) : Prop := ∀ (v1 : Int32), ∃ (rc rd : Int32) (Mc' Mr' : Mm), F_G_count v1 Mc = some (rc, Mc') ∧ F_D_count v1 Mr = some (rd, Mr') ∧ Q Mc' Mr'
def StAll (Q : Mm → Mm → Prop) (Mc Mr : Mm) : Prop := St_cls Q Mc Mr ∧ St_begin Q Mc Mr ∧ St_argument Q Mc Mr ∧ St_add Q Mc Mr ∧ St_change Q Mc Mr ∧ St_handler Q Mc Mr ∧ St_verify Q Mc Mr ∧ St_place Q Mc Mr ∧ St_state Q Mc Mr ∧ St_join Q Mc Mr ∧ St_goes Q Mc Mr ∧ St_count Q Mc Mr
/-- Rel i: what holds of the two memories in front of the call that stands at i in the script -/
def SimAll (N : Nat) (Rel : Nat → Mm → Mm → Prop) : Prop := Rel 0 Mc0 Mr0 ∧ ∀ i Mc Mr, i + 5 ≤ N → Rel i Mc Mr → Rel (i + 5) Mc Mr ∧ StAll (Rel (i + 5)) Mc Mr
theorem lw_in {L i k : Nat} {K : Int32} (hL : L ≤ 2560) (h5 : i + 5 ≤ L) (hk : k < 5) (hK : K = nI k) : vp_in (nI i + K) L := by
  rw [hK, nI_add]
  exact vp_in_nI (by omega) (by omega)
theorem lw_h5 {L i : Nat} (hL : L ≤ 2560) (hi : i ≤ L) (c : ¬ nI L - 5 < nI i) : i + 5 ≤ L := by
  rcases Nat.lt_or_ge L (i + 5) with q | q
  · exfalso
    apply c
    rw [Int32.lt_iff_toInt_lt, show (5 : Int32) = nI 5 from rfl, pk_sub_toInt (by omega) (by omega), nI_toInt (by omega)]
    omega
  · exact q
set_option maxHeartbeats 8000000 in
set_option maxRecDepth 100000 in
theorem law_loop {Rel : Nat → Mm → Mm → Prop} (hsim : SimAll 2560 Rel) {l : Launch} {D : va_G} {a : Nat → Nat → Nat} {cI : Nat → ClassId} {X : XT} {b L : Nat} {sc : Nat → Int32} (hL : L ≤ 2560) (hC : ∀ Mr, Ok (Zc l D a cI Mr) X "FlowGateLaw" code lw_tbl 4 room_1) (hD : ∀ Mc, Ok (Zd l D a cI Mc) X "FlowGateLaw" code lw_tbl 4 room_1) (hX : va_X b L sc (xs X) (xs X).heap) (hbl : b < (xs X).heap.size) (hbA : ¬ xA X b) (kend : ∀ (Mc Mr : Mm) (lv : List (Nat × Value)), G (Zc l D a cI Mr) X Mc 514 lv []) : ∀ (n i : Nat), L + 1 ≤ i + n → i ≤ L → ∀ (Mc Mr : Mm), Rel i Mc Mr → G (Zc l D a cI Mr) X Mc 18 [(0, .ref b), (1, .ref (a 0 0)), (2, .ref (a 30 0)), (3, .int (nI i))] [] := by
  intro n
  induction n with
  | zero =>
    intro i h1 h2
    omega
  | succ n ih =>
    intro i h1 hi Mc Mr hR
    have k508 : ∀ (Mc Mr : Mm), Rel (i + 5) Mc Mr → i + 5 ≤ L → G (Zc l D a cI Mr) X Mc 508 [(0, .ref b), (1, .ref (a 0 0)), (2, .ref (a 30 0)), (3, .int (nI i))] [] := by
      intro Mc Mr hR h5
      refine g_iinc (n' := 5) (lw := fun y => [(3, .int y), (0, .ref b), (1, .ref (a 0 0)), (2, .ref (a 30 0))]) (hC Mr) d_L_law_508 rfl (by decide) (by decide) (fun _ => rfl) (fun y ey => ?_)
      refine g_goto (tgt := 18) (hC Mr) d_L_law_511 (by decide) ?_
      refine g_sub [1, 2, 3, 0] rfl ?_
      rw [ey, show nI i + 5 = nI (i + 5) from nI_add i 5]
      exact ih (i + 5) (by omega) h5 Mc Mr hR
    refine g_iload_n (hC Mr) d_L_law_18 rfl rfl ?_
    refine g_aload_n (hC Mr) d_L_law_19 rfl rfl ?_
    refine g_slen (hC Mr) hX hbl hbA d_L_law_20 ?_
    refine g_iconst (v := 5) (hC Mr) d_L_law_21 (by decide) ?_
    refine g_isub (hC Mr) d_L_law_22 ?_
    refine g_icmp_gt (tgt := 514) (hC Mr) d_L_law_23 (by decide) (fun c1 => kend _ _ _) (fun c1 => ?_)
    have h5 : i + 5 ≤ L := lw_h5 hL hi c1
    obtain ⟨s_default, s_cls, s_begin, s_argument, s_add, s_change, s_handler, s_verify, s_place, s_state, s_join, s_goes, s_count⟩ := hsim.2 i Mc Mr (by omega) hR
    refine g_aload_n (hC Mr) d_L_law_26 rfl rfl ?_
    refine g_iload_n (hC Mr) d_L_law_27 rfl rfl ?_
    refine g_sld (hC Mr) hX hbl hbA (vp_in_nI (by omega) (by omega)) d_L_law_28 ?_
    refine g_bipush (v := 15) (hC Mr) d_L_law_29 (by decide) ?_
    refine g_iand (hC Mr) d_L_law_31 ?_
    refine g_topi (fun w ew => ?_)
    rcases Classical.em (w = 0) with c_0 | c_0
    · refine g_tabIn (tgt := 96) (hC Mr) d_L_law_32 (by rw [c_0]; decide) (by rw [c_0]; decide) (by rw [c_0]; rfl) (by decide) ?_
      rcases Classical.em ((sc (nI i + 2).toNatClampNeg) = 0) with cz | cz
      · obtain ⟨rc, rd, Mc', Mr', e1, e2, hR'⟩ := s_cls (sc (nI i + 1).toNatClampNeg) 0 zo_0
        refine g_aload_n (hC Mr) d_L_law_96 rfl rfl ?_
        refine g_aload_n (hC Mr) d_L_law_97 rfl rfl ?_
        refine g_iload_n (hC Mr) d_L_law_98 rfl rfl ?_
        refine g_iconst (v := 1) (hC Mr) d_L_law_99 (by decide) ?_
        refine g_iadd (hC Mr) d_L_law_100 ?_
        refine g_sld (hC Mr) hX hbl hbA (lw_in hL h5 (k := 1) (by decide) rfl) d_L_law_101 ?_
        refine g_aload_n (hC Mr) d_L_law_102 rfl rfl ?_
        refine g_iload_n (hC Mr) d_L_law_103 rfl rfl ?_
        refine g_iconst (v := 2) (hC Mr) d_L_law_104 (by decide) ?_
        refine g_iadd (hC Mr) d_L_law_105 ?_
        refine g_sld (hC Mr) hX hbl hbA (lw_in hL h5 (k := 2) (by decide) rfl) d_L_law_106 ?_
        refine g_if_eq (tgt := 114) (hC Mr) d_L_law_107 (by decide) (fun _ => ?_) (fun q => absurd cz q)
        refine g_iconst (v := 0) (hC Mr) d_L_law_114 (by decide) ?_
        refine g_calli (hC Mr) (g_runV (rest := []) (hC Mr) (ct_G_cls lay_c (sc (nI i + 1).toNatClampNeg) 0 Mc e1) (cwV 2 (hC Mr).2.2.2.2.1 (g_VL m_ml_L_13 m_im_G_cls m_se_G_cls m_in_G m_co_G_cls) rfl rfl rfl (by decide +kernel) ⟨Nat.le_of_ble_eq_true rfl, Nat.le_of_ble_eq_true rfl⟩) (lay_c.recv (hC Mr) rfl (by decide) ob_0) rfl rfl (Nat.le_of_ble_eq_true rfl) d_L_law_115) ?_
        refine g_pop (hC Mr) d_L_law_118 rfl ?_
        show G (Zd l D a cI Mc') X Mr 119 [(0, .ref b), (1, .ref (a 0 0)), (2, .ref (a 30 0)), (3, .int (nI i))] []
        refine g_aload_n (hD Mc') d_L_law_119 rfl rfl ?_
        refine g_aload_n (hD Mc') d_L_law_120 rfl rfl ?_
        refine g_iload_n (hD Mc') d_L_law_121 rfl rfl ?_
        refine g_iconst (v := 1) (hD Mc') d_L_law_122 (by decide) ?_
        refine g_iadd (hD Mc') d_L_law_123 ?_
        refine g_sld (hD Mc') hX hbl hbA (lw_in hL h5 (k := 1) (by decide) rfl) d_L_law_124 ?_
        refine g_aload_n (hD Mc') d_L_law_125 rfl rfl ?_
        refine g_iload_n (hD Mc') d_L_law_126 rfl rfl ?_
        refine g_iconst (v := 2) (hD Mc') d_L_law_127 (by decide) ?_
        refine g_iadd (hD Mc') d_L_law_128 ?_
        refine g_sld (hD Mc') hX hbl hbA (lw_in hL h5 (k := 2) (by decide) rfl) d_L_law_129 ?_
        refine g_if_eq (tgt := 137) (hD Mc') d_L_law_130 (by decide) (fun _ => ?_) (fun q => absurd cz q)
        refine g_iconst (v := 0) (hD Mc') d_L_law_137 (by decide) ?_
        refine g_calli (hD Mc') (g_runV (rest := []) (hD Mc') (ct_D_cls lay_d (sc (nI i + 1).toNatClampNeg) 0 Mr e2) (cwV 2 (hD Mc').2.2.2.2.1 (g_VL m_ml_L_17 m_im_D_cls m_se_D_cls m_in_D m_co_D_cls) rfl rfl rfl (by decide +kernel) ⟨Nat.le_of_ble_eq_true rfl, Nat.le_of_ble_eq_true rfl⟩) (lay_d.recv (hD Mc') rfl (by decide) ob_30) rfl rfl (Nat.le_of_ble_eq_true rfl) d_L_law_138) ?_
        refine g_pop (hD Mc') d_L_law_141 rfl ?_
        refine g_goto (tgt := 508) (hD Mc') d_L_law_142 (by decide) ?_
        exact k508 Mc' Mr' hR' h5
      · obtain ⟨rc, rd, Mc', Mr', e1, e2, hR'⟩ := s_cls (sc (nI i + 1).toNatClampNeg) 1 zo_1
        refine g_aload_n (hC Mr) d_L_law_96 rfl rfl ?_
        refine g_aload_n (hC Mr) d_L_law_97 rfl rfl ?_
        refine g_iload_n (hC Mr) d_L_law_98 rfl rfl ?_
        refine g_iconst (v := 1) (hC Mr) d_L_law_99 (by decide) ?_
        refine g_iadd (hC Mr) d_L_law_100 ?_
        refine g_sld (hC Mr) hX hbl hbA (lw_in hL h5 (k := 1) (by decide) rfl) d_L_law_101 ?_
        refine g_aload_n (hC Mr) d_L_law_102 rfl rfl ?_
        refine g_iload_n (hC Mr) d_L_law_103 rfl rfl ?_
        refine g_iconst (v := 2) (hC Mr) d_L_law_104 (by decide) ?_
        refine g_iadd (hC Mr) d_L_law_105 ?_
        refine g_sld (hC Mr) hX hbl hbA (lw_in hL h5 (k := 2) (by decide) rfl) d_L_law_106 ?_
        refine g_if_eq (tgt := 114) (hC Mr) d_L_law_107 (by decide) (fun q => absurd q cz) (fun _ => ?_)
        refine g_iconst (v := 1) (hC Mr) d_L_law_110 (by decide) ?_
        refine g_goto (tgt := 115) (hC Mr) d_L_law_111 (by decide) ?_
        refine g_calli (hC Mr) (g_runV (rest := []) (hC Mr) (ct_G_cls lay_c (sc (nI i + 1).toNatClampNeg) 1 Mc e1) (cwV 2 (hC Mr).2.2.2.2.1 (g_VL m_ml_L_13 m_im_G_cls m_se_G_cls m_in_G m_co_G_cls) rfl rfl rfl (by decide +kernel) ⟨Nat.le_of_ble_eq_true rfl, Nat.le_of_ble_eq_true rfl⟩) (lay_c.recv (hC Mr) rfl (by decide) ob_0) rfl rfl (Nat.le_of_ble_eq_true rfl) d_L_law_115) ?_
        refine g_pop (hC Mr) d_L_law_118 rfl ?_
        show G (Zd l D a cI Mc') X Mr 119 [(0, .ref b), (1, .ref (a 0 0)), (2, .ref (a 30 0)), (3, .int (nI i))] []
        refine g_aload_n (hD Mc') d_L_law_119 rfl rfl ?_
        refine g_aload_n (hD Mc') d_L_law_120 rfl rfl ?_
        refine g_iload_n (hD Mc') d_L_law_121 rfl rfl ?_
        refine g_iconst (v := 1) (hD Mc') d_L_law_122 (by decide) ?_
        refine g_iadd (hD Mc') d_L_law_123 ?_
        refine g_sld (hD Mc') hX hbl hbA (lw_in hL h5 (k := 1) (by decide) rfl) d_L_law_124 ?_
        refine g_aload_n (hD Mc') d_L_law_125 rfl rfl ?_
        refine g_iload_n (hD Mc') d_L_law_126 rfl rfl ?_
        refine g_iconst (v := 2) (hD Mc') d_L_law_127 (by decide) ?_
        refine g_iadd (hD Mc') d_L_law_128 ?_
        refine g_sld (hD Mc') hX hbl hbA (lw_in hL h5 (k := 2) (by decide) rfl) d_L_law_129 ?_
        refine g_if_eq (tgt := 137) (hD Mc') d_L_law_130 (by decide) (fun q => absurd q cz) (fun _ => ?_)
        refine g_iconst (v := 1) (hD Mc') d_L_law_133 (by decide) ?_
        refine g_goto (tgt := 138) (hD Mc') d_L_law_134 (by decide) ?_
        refine g_calli (hD Mc') (g_runV (rest := []) (hD Mc') (ct_D_cls lay_d (sc (nI i + 1).toNatClampNeg) 1 Mr e2) (cwV 2 (hD Mc').2.2.2.2.1 (g_VL m_ml_L_17 m_im_D_cls m_se_D_cls m_in_D m_co_D_cls) rfl rfl rfl (by decide +kernel) ⟨Nat.le_of_ble_eq_true rfl, Nat.le_of_ble_eq_true rfl⟩) (lay_d.recv (hD Mc') rfl (by decide) ob_30) rfl rfl (Nat.le_of_ble_eq_true rfl) d_L_law_138) ?_
        refine g_pop (hD Mc') d_L_law_141 rfl ?_
        refine g_goto (tgt := 508) (hD Mc') d_L_law_142 (by decide) ?_
        exact k508 Mc' Mr' hR' h5
    rcases Classical.em (w = 1) with c_1 | c_1
    · refine g_tabIn (tgt := 145) (hC Mr) d_L_law_32 (by rw [c_1]; decide) (by rw [c_1]; decide) (by rw [c_1]; rfl) (by decide) ?_
      obtain ⟨rc, rd, Mc', Mr', e1, e2, hR'⟩ := s_begin (sc (nI i + 1).toNatClampNeg) (sc (nI i + 2).toNatClampNeg) (sc (nI i + 3).toNatClampNeg)
      refine g_aload_n (hC Mr) d_L_law_145 rfl rfl ?_
      refine g_aload_n (hC Mr) d_L_law_146 rfl rfl ?_
      refine g_iload_n (hC Mr) d_L_law_147 rfl rfl ?_
      refine g_iconst (v := 1) (hC Mr) d_L_law_148 (by decide) ?_
      refine g_iadd (hC Mr) d_L_law_149 ?_
      refine g_sld (hC Mr) hX hbl hbA (lw_in hL h5 (k := 1) (by decide) rfl) d_L_law_150 ?_
      refine g_aload_n (hC Mr) d_L_law_151 rfl rfl ?_
      refine g_iload_n (hC Mr) d_L_law_152 rfl rfl ?_
      refine g_iconst (v := 2) (hC Mr) d_L_law_153 (by decide) ?_
      refine g_iadd (hC Mr) d_L_law_154 ?_
      refine g_sld (hC Mr) hX hbl hbA (lw_in hL h5 (k := 2) (by decide) rfl) d_L_law_155 ?_
      refine g_aload_n (hC Mr) d_L_law_156 rfl rfl ?_
      refine g_iload_n (hC Mr) d_L_law_157 rfl rfl ?_
      refine g_iconst (v := 3) (hC Mr) d_L_law_158 (by decide) ?_
      refine g_iadd (hC Mr) d_L_law_159 ?_
      refine g_sld (hC Mr) hX hbl hbA (lw_in hL h5 (k := 3) (by decide) rfl) d_L_law_160 ?_
      refine g_calli (hC Mr) (g_runV (rest := []) (hC Mr) (ct_G_begin lay_c (sc (nI i + 1).toNatClampNeg) (sc (nI i + 2).toNatClampNeg) (sc (nI i + 3).toNatClampNeg) Mc e1) (cwV 3 (hC Mr).2.2.2.2.1 (g_VL m_ml_L_18 m_im_G_begin m_se_G_begin m_in_G m_co_G_begin) rfl rfl rfl (by decide +kernel) ⟨Nat.le_of_ble_eq_true rfl, Nat.le_of_ble_eq_true rfl⟩) (lay_c.recv (hC Mr) rfl (by decide) ob_0) rfl rfl (Nat.le_of_ble_eq_true rfl) d_L_law_161) ?_
      refine g_pop (hC Mr) d_L_law_164 rfl ?_
      show G (Zd l D a cI Mc') X Mr 165 [(0, .ref b), (1, .ref (a 0 0)), (2, .ref (a 30 0)), (3, .int (nI i))] []
      refine g_aload_n (hD Mc') d_L_law_165 rfl rfl ?_
      refine g_aload_n (hD Mc') d_L_law_166 rfl rfl ?_
      refine g_iload_n (hD Mc') d_L_law_167 rfl rfl ?_
      refine g_iconst (v := 1) (hD Mc') d_L_law_168 (by decide) ?_
      refine g_iadd (hD Mc') d_L_law_169 ?_
      refine g_sld (hD Mc') hX hbl hbA (lw_in hL h5 (k := 1) (by decide) rfl) d_L_law_170 ?_
      refine g_aload_n (hD Mc') d_L_law_171 rfl rfl ?_
      refine g_iload_n (hD Mc') d_L_law_172 rfl rfl ?_
      refine g_iconst (v := 2) (hD Mc') d_L_law_173 (by decide) ?_
      refine g_iadd (hD Mc') d_L_law_174 ?_
      refine g_sld (hD Mc') hX hbl hbA (lw_in hL h5 (k := 2) (by decide) rfl) d_L_law_175 ?_
      refine g_aload_n (hD Mc') d_L_law_176 rfl rfl ?_
      refine g_iload_n (hD Mc') d_L_law_177 rfl rfl ?_
      refine g_iconst (v := 3) (hD Mc') d_L_law_178 (by decide) ?_
      refine g_iadd (hD Mc') d_L_law_179 ?_
      refine g_sld (hD Mc') hX hbl hbA (lw_in hL h5 (k := 3) (by decide) rfl) d_L_law_180 ?_
      refine g_calli (hD Mc') (g_runV (rest := []) (hD Mc') (ct_D_begin lay_d (sc (nI i + 1).toNatClampNeg) (sc (nI i + 2).toNatClampNeg) (sc (nI i + 3).toNatClampNeg) Mr e2) (cwV 3 (hD Mc').2.2.2.2.1 (g_VL m_ml_L_22 m_im_D_begin m_se_D_begin m_in_D m_co_D_begin) rfl rfl rfl (by decide +kernel) ⟨Nat.le_of_ble_eq_true rfl, Nat.le_of_ble_eq_true rfl⟩) (lay_d.recv (hD Mc') rfl (by decide) ob_30) rfl rfl (Nat.le_of_ble_eq_true rfl) d_L_law_181) ?_
      refine g_pop (hD Mc') d_L_law_184 rfl ?_
      refine g_goto (tgt := 508) (hD Mc') d_L_law_185 (by decide) ?_
      exact k508 Mc' Mr' hR' h5
    rcases Classical.em (w = 2) with c_2 | c_2
    · refine g_tabIn (tgt := 188) (hC Mr) d_L_law_32 (by rw [c_2]; decide) (by rw [c_2]; decide) (by rw [c_2]; rfl) (by decide) ?_
      obtain ⟨rc, rd, Mc', Mr', e1, e2, hR'⟩ := s_argument (sc (nI i + 1).toNatClampNeg)
      refine g_aload_n (hC Mr) d_L_law_188 rfl rfl ?_
      refine g_aload_n (hC Mr) d_L_law_189 rfl rfl ?_
      refine g_iload_n (hC Mr) d_L_law_190 rfl rfl ?_
      refine g_iconst (v := 1) (hC Mr) d_L_law_191 (by decide) ?_
      refine g_iadd (hC Mr) d_L_law_192 ?_
      refine g_sld (hC Mr) hX hbl hbA (lw_in hL h5 (k := 1) (by decide) rfl) d_L_law_193 ?_
      refine g_calli (hC Mr) (g_runV (rest := []) (hC Mr) (ct_G_argument lay_c (sc (nI i + 1).toNatClampNeg) Mc e1) (cwV 1 (hC Mr).2.2.2.2.1 (g_VL m_ml_L_23 m_im_G_argument m_se_G_argument m_in_G m_co_G_argument) rfl rfl rfl (by decide +kernel) ⟨Nat.le_of_ble_eq_true rfl, Nat.le_of_ble_eq_true rfl⟩) (lay_c.recv (hC Mr) rfl (by decide) ob_0) rfl rfl (Nat.le_of_ble_eq_true rfl) d_L_law_194) ?_
      refine g_pop (hC Mr) d_L_law_197 rfl ?_
      show G (Zd l D a cI Mc') X Mr 198 [(0, .ref b), (1, .ref (a 0 0)), (2, .ref (a 30 0)), (3, .int (nI i))] []
      refine g_aload_n (hD Mc') d_L_law_198 rfl rfl ?_
      refine g_aload_n (hD Mc') d_L_law_199 rfl rfl ?_
      refine g_iload_n (hD Mc') d_L_law_200 rfl rfl ?_
      refine g_iconst (v := 1) (hD Mc') d_L_law_201 (by decide) ?_
      refine g_iadd (hD Mc') d_L_law_202 ?_
      refine g_sld (hD Mc') hX hbl hbA (lw_in hL h5 (k := 1) (by decide) rfl) d_L_law_203 ?_
      refine g_calli (hD Mc') (g_runV (rest := []) (hD Mc') (ct_D_argument lay_d (sc (nI i + 1).toNatClampNeg) Mr e2) (cwV 1 (hD Mc').2.2.2.2.1 (g_VL m_ml_L_27 m_im_D_argument m_se_D_argument m_in_D m_co_D_argument) rfl rfl rfl (by decide +kernel) ⟨Nat.le_of_ble_eq_true rfl, Nat.le_of_ble_eq_true rfl⟩) (lay_d.recv (hD Mc') rfl (by decide) ob_30) rfl rfl (Nat.le_of_ble_eq_true rfl) d_L_law_204) ?_
      refine g_pop (hD Mc') d_L_law_207 rfl ?_
      refine g_goto (tgt := 508) (hD Mc') d_L_law_208 (by decide) ?_
      exact k508 Mc' Mr' hR' h5
    rcases Classical.em (w = 3) with c_3 | c_3
    · refine g_tabIn (tgt := 211) (hC Mr) d_L_law_32 (by rw [c_3]; decide) (by rw [c_3]; decide) (by rw [c_3]; rfl) (by decide) ?_
      obtain ⟨rc, rd, Mc', Mr', e1, e2, hR'⟩ := s_add (sc (nI i + 1).toNatClampNeg) (sc (nI i + 2).toNatClampNeg) (sc (nI i + 3).toNatClampNeg)
      refine g_aload_n (hC Mr) d_L_law_211 rfl rfl ?_
      refine g_aload_n (hC Mr) d_L_law_212 rfl rfl ?_
      refine g_iload_n (hC Mr) d_L_law_213 rfl rfl ?_
      refine g_iconst (v := 1) (hC Mr) d_L_law_214 (by decide) ?_
      refine g_iadd (hC Mr) d_L_law_215 ?_
      refine g_sld (hC Mr) hX hbl hbA (lw_in hL h5 (k := 1) (by decide) rfl) d_L_law_216 ?_
      refine g_aload_n (hC Mr) d_L_law_217 rfl rfl ?_
      refine g_iload_n (hC Mr) d_L_law_218 rfl rfl ?_
      refine g_iconst (v := 2) (hC Mr) d_L_law_219 (by decide) ?_
      refine g_iadd (hC Mr) d_L_law_220 ?_
      refine g_sld (hC Mr) hX hbl hbA (lw_in hL h5 (k := 2) (by decide) rfl) d_L_law_221 ?_
      refine g_aload_n (hC Mr) d_L_law_222 rfl rfl ?_
      refine g_iload_n (hC Mr) d_L_law_223 rfl rfl ?_
      refine g_iconst (v := 3) (hC Mr) d_L_law_224 (by decide) ?_
      refine g_iadd (hC Mr) d_L_law_225 ?_
      refine g_sld (hC Mr) hX hbl hbA (lw_in hL h5 (k := 3) (by decide) rfl) d_L_law_226 ?_
      refine g_calli (hC Mr) (g_runV (rest := []) (hC Mr) (ct_G_add lay_c (sc (nI i + 1).toNatClampNeg) (sc (nI i + 2).toNatClampNeg) (sc (nI i + 3).toNatClampNeg) Mc e1) (cwV 3 (hC Mr).2.2.2.2.1 (g_VL m_ml_L_28 m_im_G_add m_se_G_add m_in_G m_co_G_add) rfl rfl rfl (by decide +kernel) ⟨Nat.le_of_ble_eq_true rfl, Nat.le_of_ble_eq_true rfl⟩) (lay_c.recv (hC Mr) rfl (by decide) ob_0) rfl rfl (Nat.le_of_ble_eq_true rfl) d_L_law_227) ?_
      refine g_pop (hC Mr) d_L_law_230 rfl ?_
      show G (Zd l D a cI Mc') X Mr 231 [(0, .ref b), (1, .ref (a 0 0)), (2, .ref (a 30 0)), (3, .int (nI i))] []
      refine g_aload_n (hD Mc') d_L_law_231 rfl rfl ?_
      refine g_aload_n (hD Mc') d_L_law_232 rfl rfl ?_
      refine g_iload_n (hD Mc') d_L_law_233 rfl rfl ?_
      refine g_iconst (v := 1) (hD Mc') d_L_law_234 (by decide) ?_
      refine g_iadd (hD Mc') d_L_law_235 ?_
      refine g_sld (hD Mc') hX hbl hbA (lw_in hL h5 (k := 1) (by decide) rfl) d_L_law_236 ?_
      refine g_aload_n (hD Mc') d_L_law_237 rfl rfl ?_
      refine g_iload_n (hD Mc') d_L_law_238 rfl rfl ?_
      refine g_iconst (v := 2) (hD Mc') d_L_law_239 (by decide) ?_
      refine g_iadd (hD Mc') d_L_law_240 ?_
      refine g_sld (hD Mc') hX hbl hbA (lw_in hL h5 (k := 2) (by decide) rfl) d_L_law_241 ?_
      refine g_aload_n (hD Mc') d_L_law_242 rfl rfl ?_
      refine g_iload_n (hD Mc') d_L_law_243 rfl rfl ?_
      refine g_iconst (v := 3) (hD Mc') d_L_law_244 (by decide) ?_
      refine g_iadd (hD Mc') d_L_law_245 ?_
      refine g_sld (hD Mc') hX hbl hbA (lw_in hL h5 (k := 3) (by decide) rfl) d_L_law_246 ?_
      refine g_calli (hD Mc') (g_runV (rest := []) (hD Mc') (ct_D_add lay_d (sc (nI i + 1).toNatClampNeg) (sc (nI i + 2).toNatClampNeg) (sc (nI i + 3).toNatClampNeg) Mr e2) (cwV 3 (hD Mc').2.2.2.2.1 (g_VL m_ml_L_31 m_im_D_add m_se_D_add m_in_D m_co_D_add) rfl rfl rfl (by decide +kernel) ⟨Nat.le_of_ble_eq_true rfl, Nat.le_of_ble_eq_true rfl⟩) (lay_d.recv (hD Mc') rfl (by decide) ob_30) rfl rfl (Nat.le_of_ble_eq_true rfl) d_L_law_247) ?_
      refine g_pop (hD Mc') d_L_law_250 rfl ?_
      refine g_goto (tgt := 508) (hD Mc') d_L_law_251 (by decide) ?_
      exact k508 Mc' Mr' hR' h5
    rcases Classical.em (w = 4) with c_4 | c_4
    · refine g_tabIn (tgt := 254) (hC Mr) d_L_law_32 (by rw [c_4]; decide) (by rw [c_4]; decide) (by rw [c_4]; rfl) (by decide) ?_
      obtain ⟨rc, rd, Mc', Mr', e1, e2, hR'⟩ := s_change (sc (nI i + 1).toNatClampNeg) (sc (nI i + 2).toNatClampNeg) (sc (nI i + 3).toNatClampNeg) (sc (nI i + 4).toNatClampNeg)
      refine g_aload_n (hC Mr) d_L_law_254 rfl rfl ?_
      refine g_aload_n (hC Mr) d_L_law_255 rfl rfl ?_
      refine g_iload_n (hC Mr) d_L_law_256 rfl rfl ?_
      refine g_iconst (v := 1) (hC Mr) d_L_law_257 (by decide) ?_
      refine g_iadd (hC Mr) d_L_law_258 ?_
      refine g_sld (hC Mr) hX hbl hbA (lw_in hL h5 (k := 1) (by decide) rfl) d_L_law_259 ?_
      refine g_aload_n (hC Mr) d_L_law_260 rfl rfl ?_
      refine g_iload_n (hC Mr) d_L_law_261 rfl rfl ?_
      refine g_iconst (v := 2) (hC Mr) d_L_law_262 (by decide) ?_
      refine g_iadd (hC Mr) d_L_law_263 ?_
      refine g_sld (hC Mr) hX hbl hbA (lw_in hL h5 (k := 2) (by decide) rfl) d_L_law_264 ?_
      refine g_aload_n (hC Mr) d_L_law_265 rfl rfl ?_
      refine g_iload_n (hC Mr) d_L_law_266 rfl rfl ?_
      refine g_iconst (v := 3) (hC Mr) d_L_law_267 (by decide) ?_
      refine g_iadd (hC Mr) d_L_law_268 ?_
      refine g_sld (hC Mr) hX hbl hbA (lw_in hL h5 (k := 3) (by decide) rfl) d_L_law_269 ?_
      refine g_aload_n (hC Mr) d_L_law_270 rfl rfl ?_
      refine g_iload_n (hC Mr) d_L_law_271 rfl rfl ?_
      refine g_iconst (v := 4) (hC Mr) d_L_law_272 (by decide) ?_
      refine g_iadd (hC Mr) d_L_law_273 ?_
      refine g_sld (hC Mr) hX hbl hbA (lw_in hL h5 (k := 4) (by decide) rfl) d_L_law_274 ?_
      refine g_calli (hC Mr) (g_runV (rest := []) (hC Mr) (ct_G_change lay_c (sc (nI i + 1).toNatClampNeg) (sc (nI i + 2).toNatClampNeg) (sc (nI i + 3).toNatClampNeg) (sc (nI i + 4).toNatClampNeg) Mc e1) (cwV 4 (hC Mr).2.2.2.2.1 (g_VL m_ml_L_32 m_im_G_change m_se_G_change m_in_G m_co_G_change) rfl rfl rfl (by decide +kernel) ⟨Nat.le_of_ble_eq_true rfl, Nat.le_of_ble_eq_true rfl⟩) (lay_c.recv (hC Mr) rfl (by decide) ob_0) rfl rfl (Nat.le_of_ble_eq_true rfl) d_L_law_275) ?_
      refine g_pop (hC Mr) d_L_law_278 rfl ?_
      show G (Zd l D a cI Mc') X Mr 279 [(0, .ref b), (1, .ref (a 0 0)), (2, .ref (a 30 0)), (3, .int (nI i))] []
      refine g_aload_n (hD Mc') d_L_law_279 rfl rfl ?_
      refine g_aload_n (hD Mc') d_L_law_280 rfl rfl ?_
      refine g_iload_n (hD Mc') d_L_law_281 rfl rfl ?_
      refine g_iconst (v := 1) (hD Mc') d_L_law_282 (by decide) ?_
      refine g_iadd (hD Mc') d_L_law_283 ?_
      refine g_sld (hD Mc') hX hbl hbA (lw_in hL h5 (k := 1) (by decide) rfl) d_L_law_284 ?_
      refine g_aload_n (hD Mc') d_L_law_285 rfl rfl ?_
      refine g_iload_n (hD Mc') d_L_law_286 rfl rfl ?_
      refine g_iconst (v := 2) (hD Mc') d_L_law_287 (by decide) ?_
      refine g_iadd (hD Mc') d_L_law_288 ?_
      refine g_sld (hD Mc') hX hbl hbA (lw_in hL h5 (k := 2) (by decide) rfl) d_L_law_289 ?_
      refine g_aload_n (hD Mc') d_L_law_290 rfl rfl ?_
      refine g_iload_n (hD Mc') d_L_law_291 rfl rfl ?_
      refine g_iconst (v := 3) (hD Mc') d_L_law_292 (by decide) ?_
      refine g_iadd (hD Mc') d_L_law_293 ?_
      refine g_sld (hD Mc') hX hbl hbA (lw_in hL h5 (k := 3) (by decide) rfl) d_L_law_294 ?_
      refine g_aload_n (hD Mc') d_L_law_295 rfl rfl ?_
      refine g_iload_n (hD Mc') d_L_law_296 rfl rfl ?_
      refine g_iconst (v := 4) (hD Mc') d_L_law_297 (by decide) ?_
      refine g_iadd (hD Mc') d_L_law_298 ?_
      refine g_sld (hD Mc') hX hbl hbA (lw_in hL h5 (k := 4) (by decide) rfl) d_L_law_299 ?_
      refine g_calli (hD Mc') (g_runV (rest := []) (hD Mc') (ct_D_change lay_d (sc (nI i + 1).toNatClampNeg) (sc (nI i + 2).toNatClampNeg) (sc (nI i + 3).toNatClampNeg) (sc (nI i + 4).toNatClampNeg) Mr e2) (cwV 4 (hD Mc').2.2.2.2.1 (g_VL m_ml_L_36 m_im_D_change m_se_D_change m_in_D m_co_D_change) rfl rfl rfl (by decide +kernel) ⟨Nat.le_of_ble_eq_true rfl, Nat.le_of_ble_eq_true rfl⟩) (lay_d.recv (hD Mc') rfl (by decide) ob_30) rfl rfl (Nat.le_of_ble_eq_true rfl) d_L_law_300) ?_
      refine g_pop (hD Mc') d_L_law_303 rfl ?_
      refine g_goto (tgt := 508) (hD Mc') d_L_law_304 (by decide) ?_
      exact k508 Mc' Mr' hR' h5
    rcases Classical.em (w = 5) with c_5 | c_5
    · refine g_tabIn (tgt := 307) (hC Mr) d_L_law_32 (by rw [c_5]; decide) (by rw [c_5]; decide) (by rw [c_5]; rfl) (by decide) ?_
      obtain ⟨rc, rd, Mc', Mr', e1, e2, hR'⟩ := s_handler (sc (nI i + 1).toNatClampNeg) (sc (nI i + 2).toNatClampNeg) (sc (nI i + 3).toNatClampNeg) (sc (nI i + 4).toNatClampNeg)
      refine g_aload_n (hC Mr) d_L_law_307 rfl rfl ?_
      refine g_aload_n (hC Mr) d_L_law_308 rfl rfl ?_
      refine g_iload_n (hC Mr) d_L_law_309 rfl rfl ?_
      refine g_iconst (v := 1) (hC Mr) d_L_law_310 (by decide) ?_
      refine g_iadd (hC Mr) d_L_law_311 ?_
      refine g_sld (hC Mr) hX hbl hbA (lw_in hL h5 (k := 1) (by decide) rfl) d_L_law_312 ?_
      refine g_aload_n (hC Mr) d_L_law_313 rfl rfl ?_
      refine g_iload_n (hC Mr) d_L_law_314 rfl rfl ?_
      refine g_iconst (v := 2) (hC Mr) d_L_law_315 (by decide) ?_
      refine g_iadd (hC Mr) d_L_law_316 ?_
      refine g_sld (hC Mr) hX hbl hbA (lw_in hL h5 (k := 2) (by decide) rfl) d_L_law_317 ?_
      refine g_aload_n (hC Mr) d_L_law_318 rfl rfl ?_
      refine g_iload_n (hC Mr) d_L_law_319 rfl rfl ?_
      refine g_iconst (v := 3) (hC Mr) d_L_law_320 (by decide) ?_
      refine g_iadd (hC Mr) d_L_law_321 ?_
      refine g_sld (hC Mr) hX hbl hbA (lw_in hL h5 (k := 3) (by decide) rfl) d_L_law_322 ?_
      refine g_aload_n (hC Mr) d_L_law_323 rfl rfl ?_
      refine g_iload_n (hC Mr) d_L_law_324 rfl rfl ?_
      refine g_iconst (v := 4) (hC Mr) d_L_law_325 (by decide) ?_
      refine g_iadd (hC Mr) d_L_law_326 ?_
      refine g_sld (hC Mr) hX hbl hbA (lw_in hL h5 (k := 4) (by decide) rfl) d_L_law_327 ?_
      refine g_calli (hC Mr) (g_runV (rest := []) (hC Mr) (ct_G_handler lay_c (sc (nI i + 1).toNatClampNeg) (sc (nI i + 2).toNatClampNeg) (sc (nI i + 3).toNatClampNeg) (sc (nI i + 4).toNatClampNeg) Mc e1) (cwV 4 (hC Mr).2.2.2.2.1 (g_VL m_ml_L_37 m_im_G_handler m_se_G_handler m_in_G m_co_G_handler) rfl rfl rfl (by decide +kernel) ⟨Nat.le_of_ble_eq_true rfl, Nat.le_of_ble_eq_true rfl⟩) (lay_c.recv (hC Mr) rfl (by decide) ob_0) rfl rfl (Nat.le_of_ble_eq_true rfl) d_L_law_328) ?_
      refine g_pop (hC Mr) d_L_law_331 rfl ?_
      show G (Zd l D a cI Mc') X Mr 332 [(0, .ref b), (1, .ref (a 0 0)), (2, .ref (a 30 0)), (3, .int (nI i))] []
      refine g_aload_n (hD Mc') d_L_law_332 rfl rfl ?_
      refine g_aload_n (hD Mc') d_L_law_333 rfl rfl ?_
      refine g_iload_n (hD Mc') d_L_law_334 rfl rfl ?_
      refine g_iconst (v := 1) (hD Mc') d_L_law_335 (by decide) ?_
      refine g_iadd (hD Mc') d_L_law_336 ?_
      refine g_sld (hD Mc') hX hbl hbA (lw_in hL h5 (k := 1) (by decide) rfl) d_L_law_337 ?_
      refine g_aload_n (hD Mc') d_L_law_338 rfl rfl ?_
      refine g_iload_n (hD Mc') d_L_law_339 rfl rfl ?_
      refine g_iconst (v := 2) (hD Mc') d_L_law_340 (by decide) ?_
      refine g_iadd (hD Mc') d_L_law_341 ?_
      refine g_sld (hD Mc') hX hbl hbA (lw_in hL h5 (k := 2) (by decide) rfl) d_L_law_342 ?_
      refine g_aload_n (hD Mc') d_L_law_343 rfl rfl ?_
      refine g_iload_n (hD Mc') d_L_law_344 rfl rfl ?_
      refine g_iconst (v := 3) (hD Mc') d_L_law_345 (by decide) ?_
      refine g_iadd (hD Mc') d_L_law_346 ?_
      refine g_sld (hD Mc') hX hbl hbA (lw_in hL h5 (k := 3) (by decide) rfl) d_L_law_347 ?_
      refine g_aload_n (hD Mc') d_L_law_348 rfl rfl ?_
      refine g_iload_n (hD Mc') d_L_law_349 rfl rfl ?_
      refine g_iconst (v := 4) (hD Mc') d_L_law_350 (by decide) ?_
      refine g_iadd (hD Mc') d_L_law_351 ?_
      refine g_sld (hD Mc') hX hbl hbA (lw_in hL h5 (k := 4) (by decide) rfl) d_L_law_352 ?_
      refine g_calli (hD Mc') (g_runV (rest := []) (hD Mc') (ct_D_handler lay_d (sc (nI i + 1).toNatClampNeg) (sc (nI i + 2).toNatClampNeg) (sc (nI i + 3).toNatClampNeg) (sc (nI i + 4).toNatClampNeg) Mr e2) (cwV 4 (hD Mc').2.2.2.2.1 (g_VL m_ml_L_40 m_im_D_handler m_se_D_handler m_in_D m_co_D_handler) rfl rfl rfl (by decide +kernel) ⟨Nat.le_of_ble_eq_true rfl, Nat.le_of_ble_eq_true rfl⟩) (lay_d.recv (hD Mc') rfl (by decide) ob_30) rfl rfl (Nat.le_of_ble_eq_true rfl) d_L_law_353) ?_
      refine g_pop (hD Mc') d_L_law_356 rfl ?_
      refine g_goto (tgt := 508) (hD Mc') d_L_law_357 (by decide) ?_
      exact k508 Mc' Mr' hR' h5
    rcases Classical.em (w = 6) with c_6 | c_6
    · refine g_tabIn (tgt := 360) (hC Mr) d_L_law_32 (by rw [c_6]; decide) (by rw [c_6]; decide) (by rw [c_6]; rfl) (by decide) ?_
      obtain ⟨rc, rd, Mc', Mr', e1, e2, hR'⟩ := s_verify ()
      refine g_aload_n (hC Mr) d_L_law_360 rfl rfl ?_
      refine g_calli (hC Mr) (g_runV (rest := []) (hC Mr) (ct_G_verify lay_c  Mc e1) (cwV 0 (hC Mr).2.2.2.2.1 (g_VL m_ml_L_41 m_im_G_verify m_se_G_verify m_in_G m_co_G_verify) rfl rfl rfl (by decide +kernel) ⟨Nat.le_of_ble_eq_true rfl, Nat.le_of_ble_eq_true rfl⟩) (lay_c.recv (hC Mr) rfl (by decide) ob_0) rfl rfl (Nat.le_of_ble_eq_true rfl) d_L_law_361) ?_
      refine g_pop (hC Mr) d_L_law_364 rfl ?_
      show G (Zd l D a cI Mc') X Mr 365 [(0, .ref b), (1, .ref (a 0 0)), (2, .ref (a 30 0)), (3, .int (nI i))] []
      refine g_aload_n (hD Mc') d_L_law_365 rfl rfl ?_
      refine g_calli (hD Mc') (g_runV (rest := []) (hD Mc') (ct_D_verify lay_d  Mr e2) (cwV 0 (hD Mc').2.2.2.2.1 (g_VL m_ml_L_45 m_im_D_verify m_se_D_verify m_in_D m_co_D_verify) rfl rfl rfl (by decide +kernel) ⟨Nat.le_of_ble_eq_true rfl, Nat.le_of_ble_eq_true rfl⟩) (lay_d.recv (hD Mc') rfl (by decide) ob_30) rfl rfl (Nat.le_of_ble_eq_true rfl) d_L_law_366) ?_
      refine g_pop (hD Mc') d_L_law_369 rfl ?_
      refine g_goto (tgt := 508) (hD Mc') d_L_law_370 (by decide) ?_
      exact k508 Mc' Mr' hR' h5
    rcases Classical.em (w = 7) with c_7 | c_7
    · refine g_tabIn (tgt := 373) (hC Mr) d_L_law_32 (by rw [c_7]; decide) (by rw [c_7]; decide) (by rw [c_7]; rfl) (by decide) ?_
      obtain ⟨rc, rd, Mc', Mr', e1, e2, hR'⟩ := s_place ()
      refine g_aload_n (hC Mr) d_L_law_373 rfl rfl ?_
      refine g_calli (hC Mr) (g_runV (rest := []) (hC Mr) (ct_G_place lay_c  Mc e1) (cwV 0 (hC Mr).2.2.2.2.1 (g_VL m_ml_L_46 m_im_G_place m_se_G_place m_in_G m_co_G_place) rfl rfl rfl (by decide +kernel) ⟨Nat.le_of_ble_eq_true rfl, Nat.le_of_ble_eq_true rfl⟩) (lay_c.recv (hC Mr) rfl (by decide) ob_0) rfl rfl (Nat.le_of_ble_eq_true rfl) d_L_law_374) ?_
      refine g_pop (hC Mr) d_L_law_377 rfl ?_
      show G (Zd l D a cI Mc') X Mr 378 [(0, .ref b), (1, .ref (a 0 0)), (2, .ref (a 30 0)), (3, .int (nI i))] []
      refine g_aload_n (hD Mc') d_L_law_378 rfl rfl ?_
      refine g_calli (hD Mc') (g_runV (rest := []) (hD Mc') (ct_D_place lay_d  Mr e2) (cwV 0 (hD Mc').2.2.2.2.1 (g_VL m_ml_L_49 m_im_D_place m_se_D_place m_in_D m_co_D_place) rfl rfl rfl (by decide +kernel) ⟨Nat.le_of_ble_eq_true rfl, Nat.le_of_ble_eq_true rfl⟩) (lay_d.recv (hD Mc') rfl (by decide) ob_30) rfl rfl (Nat.le_of_ble_eq_true rfl) d_L_law_379) ?_
      refine g_pop (hD Mc') d_L_law_382 rfl ?_
      refine g_goto (tgt := 508) (hD Mc') d_L_law_383 (by decide) ?_
      exact k508 Mc' Mr' hR' h5
    rcases Classical.em (w = 8) with c_8 | c_8
    · refine g_tabIn (tgt := 386) (hC Mr) d_L_law_32 (by rw [c_8]; decide) (by rw [c_8]; decide) (by rw [c_8]; rfl) (by decide) ?_
      obtain ⟨rc, rd, Mc', Mr', e1, e2, hR'⟩ := s_state (sc (nI i + 1).toNatClampNeg) (sc (nI i + 2).toNatClampNeg)
      refine g_aload_n (hC Mr) d_L_law_386 rfl rfl ?_
      refine g_aload_n (hC Mr) d_L_law_387 rfl rfl ?_
      refine g_iload_n (hC Mr) d_L_law_388 rfl rfl ?_
      refine g_iconst (v := 1) (hC Mr) d_L_law_389 (by decide) ?_
      refine g_iadd (hC Mr) d_L_law_390 ?_
      refine g_sld (hC Mr) hX hbl hbA (lw_in hL h5 (k := 1) (by decide) rfl) d_L_law_391 ?_
      refine g_aload_n (hC Mr) d_L_law_392 rfl rfl ?_
      refine g_iload_n (hC Mr) d_L_law_393 rfl rfl ?_
      refine g_iconst (v := 2) (hC Mr) d_L_law_394 (by decide) ?_
      refine g_iadd (hC Mr) d_L_law_395 ?_
      refine g_sld (hC Mr) hX hbl hbA (lw_in hL h5 (k := 2) (by decide) rfl) d_L_law_396 ?_
      refine g_calli (hC Mr) (g_runV (rest := []) (hC Mr) (ct_G_state lay_c (sc (nI i + 1).toNatClampNeg) (sc (nI i + 2).toNatClampNeg) Mc e1) (cwV 2 (hC Mr).2.2.2.2.1 (g_VL m_ml_L_50 m_im_G_state m_se_G_state m_in_G m_co_G_state) rfl rfl rfl (by decide +kernel) ⟨Nat.le_of_ble_eq_true rfl, Nat.le_of_ble_eq_true rfl⟩) (lay_c.recv (hC Mr) rfl (by decide) ob_0) rfl rfl (Nat.le_of_ble_eq_true rfl) d_L_law_397) ?_
      refine g_pop (hC Mr) d_L_law_400 rfl ?_
      show G (Zd l D a cI Mc') X Mr 401 [(0, .ref b), (1, .ref (a 0 0)), (2, .ref (a 30 0)), (3, .int (nI i))] []
      refine g_aload_n (hD Mc') d_L_law_401 rfl rfl ?_
      refine g_aload_n (hD Mc') d_L_law_402 rfl rfl ?_
      refine g_iload_n (hD Mc') d_L_law_403 rfl rfl ?_
      refine g_iconst (v := 1) (hD Mc') d_L_law_404 (by decide) ?_
      refine g_iadd (hD Mc') d_L_law_405 ?_
      refine g_sld (hD Mc') hX hbl hbA (lw_in hL h5 (k := 1) (by decide) rfl) d_L_law_406 ?_
      refine g_aload_n (hD Mc') d_L_law_407 rfl rfl ?_
      refine g_iload_n (hD Mc') d_L_law_408 rfl rfl ?_
      refine g_iconst (v := 2) (hD Mc') d_L_law_409 (by decide) ?_
      refine g_iadd (hD Mc') d_L_law_410 ?_
      refine g_sld (hD Mc') hX hbl hbA (lw_in hL h5 (k := 2) (by decide) rfl) d_L_law_411 ?_
      refine g_calli (hD Mc') (g_runV (rest := []) (hD Mc') (ct_D_state lay_d (sc (nI i + 1).toNatClampNeg) (sc (nI i + 2).toNatClampNeg) Mr e2) (cwV 2 (hD Mc').2.2.2.2.1 (g_VL m_ml_L_54 m_im_D_state m_se_D_state m_in_D m_co_D_state) rfl rfl rfl (by decide +kernel) ⟨Nat.le_of_ble_eq_true rfl, Nat.le_of_ble_eq_true rfl⟩) (lay_d.recv (hD Mc') rfl (by decide) ob_30) rfl rfl (Nat.le_of_ble_eq_true rfl) d_L_law_412) ?_
      refine g_pop (hD Mc') d_L_law_415 rfl ?_
      refine g_goto (tgt := 508) (hD Mc') d_L_law_416 (by decide) ?_
      exact k508 Mc' Mr' hR' h5
    rcases Classical.em (w = 9) with c_9 | c_9
    · refine g_tabIn (tgt := 419) (hC Mr) d_L_law_32 (by rw [c_9]; decide) (by rw [c_9]; decide) (by rw [c_9]; rfl) (by decide) ?_
      obtain ⟨rc, rd, Mc', Mr', e1, e2, hR'⟩ := s_join (sc (nI i + 1).toNatClampNeg) (sc (nI i + 2).toNatClampNeg)
      refine g_aload_n (hC Mr) d_L_law_419 rfl rfl ?_
      refine g_aload_n (hC Mr) d_L_law_420 rfl rfl ?_
      refine g_iload_n (hC Mr) d_L_law_421 rfl rfl ?_
      refine g_iconst (v := 1) (hC Mr) d_L_law_422 (by decide) ?_
      refine g_iadd (hC Mr) d_L_law_423 ?_
      refine g_sld (hC Mr) hX hbl hbA (lw_in hL h5 (k := 1) (by decide) rfl) d_L_law_424 ?_
      refine g_aload_n (hC Mr) d_L_law_425 rfl rfl ?_
      refine g_iload_n (hC Mr) d_L_law_426 rfl rfl ?_
      refine g_iconst (v := 2) (hC Mr) d_L_law_427 (by decide) ?_
      refine g_iadd (hC Mr) d_L_law_428 ?_
      refine g_sld (hC Mr) hX hbl hbA (lw_in hL h5 (k := 2) (by decide) rfl) d_L_law_429 ?_
      refine g_calli (hC Mr) (g_runV (rest := []) (hC Mr) (ct_G_join lay_c (sc (nI i + 1).toNatClampNeg) (sc (nI i + 2).toNatClampNeg) Mc e1) (cwV 2 (hC Mr).2.2.2.2.1 (g_VL m_ml_L_55 m_im_G_join m_se_G_join m_in_G m_co_G_join) rfl rfl rfl (by decide +kernel) ⟨Nat.le_of_ble_eq_true rfl, Nat.le_of_ble_eq_true rfl⟩) (lay_c.recv (hC Mr) rfl (by decide) ob_0) rfl rfl (Nat.le_of_ble_eq_true rfl) d_L_law_430) ?_
      refine g_pop (hC Mr) d_L_law_433 rfl ?_
      show G (Zd l D a cI Mc') X Mr 434 [(0, .ref b), (1, .ref (a 0 0)), (2, .ref (a 30 0)), (3, .int (nI i))] []
      refine g_aload_n (hD Mc') d_L_law_434 rfl rfl ?_
      refine g_aload_n (hD Mc') d_L_law_435 rfl rfl ?_
      refine g_iload_n (hD Mc') d_L_law_436 rfl rfl ?_
      refine g_iconst (v := 1) (hD Mc') d_L_law_437 (by decide) ?_
      refine g_iadd (hD Mc') d_L_law_438 ?_
      refine g_sld (hD Mc') hX hbl hbA (lw_in hL h5 (k := 1) (by decide) rfl) d_L_law_439 ?_
      refine g_aload_n (hD Mc') d_L_law_440 rfl rfl ?_
      refine g_iload_n (hD Mc') d_L_law_441 rfl rfl ?_
      refine g_iconst (v := 2) (hD Mc') d_L_law_442 (by decide) ?_
      refine g_iadd (hD Mc') d_L_law_443 ?_
      refine g_sld (hD Mc') hX hbl hbA (lw_in hL h5 (k := 2) (by decide) rfl) d_L_law_444 ?_
      refine g_calli (hD Mc') (g_runV (rest := []) (hD Mc') (ct_D_join lay_d (sc (nI i + 1).toNatClampNeg) (sc (nI i + 2).toNatClampNeg) Mr e2) (cwV 2 (hD Mc').2.2.2.2.1 (g_VL m_ml_L_58 m_im_D_join m_se_D_join m_in_D m_co_D_join) rfl rfl rfl (by decide +kernel) ⟨Nat.le_of_ble_eq_true rfl, Nat.le_of_ble_eq_true rfl⟩) (lay_d.recv (hD Mc') rfl (by decide) ob_30) rfl rfl (Nat.le_of_ble_eq_true rfl) d_L_law_445) ?_
      refine g_pop (hD Mc') d_L_law_448 rfl ?_
      refine g_goto (tgt := 508) (hD Mc') d_L_law_449 (by decide) ?_
      exact k508 Mc' Mr' hR' h5
    rcases Classical.em (w = 10) with c_10 | c_10
    · refine g_tabIn (tgt := 452) (hC Mr) d_L_law_32 (by rw [c_10]; decide) (by rw [c_10]; decide) (by rw [c_10]; rfl) (by decide) ?_
      obtain ⟨r, Mc', Mr', e1, e2, hR'⟩ := s_goes (sc (nI i + 1).toNatClampNeg) (sc (nI i + 2).toNatClampNeg)
      refine g_aload_n (hC Mr) d_L_law_452 rfl rfl ?_
      refine g_aload_n (hC Mr) d_L_law_453 rfl rfl ?_
      refine g_iload_n (hC Mr) d_L_law_454 rfl rfl ?_
      refine g_iconst (v := 1) (hC Mr) d_L_law_455 (by decide) ?_
      refine g_iadd (hC Mr) d_L_law_456 ?_
      refine g_sld (hC Mr) hX hbl hbA (lw_in hL h5 (k := 1) (by decide) rfl) d_L_law_457 ?_
      refine g_aload_n (hC Mr) d_L_law_458 rfl rfl ?_
      refine g_iload_n (hC Mr) d_L_law_459 rfl rfl ?_
      refine g_iconst (v := 2) (hC Mr) d_L_law_460 (by decide) ?_
      refine g_iadd (hC Mr) d_L_law_461 ?_
      refine g_sld (hC Mr) hX hbl hbA (lw_in hL h5 (k := 2) (by decide) rfl) d_L_law_462 ?_
      refine g_calli (hC Mr) (g_runV (rest := []) (hC Mr) (ct_G_goes lay_c (sc (nI i + 1).toNatClampNeg) (sc (nI i + 2).toNatClampNeg) Mc e1) (cwV 2 (hC Mr).2.2.2.2.1 (g_VL m_ml_L_59 m_im_G_goes m_se_G_goes m_in_G m_co_G_goes) rfl rfl rfl (by decide +kernel) ⟨Nat.le_of_ble_eq_true rfl, Nat.le_of_ble_eq_true rfl⟩) (lay_c.recv (hC Mr) rfl (by decide) ob_0) rfl rfl (Nat.le_of_ble_eq_true rfl) d_L_law_463) ?_
      show G (Zd l D a cI Mc') X Mr 466 [(0, .ref b), (1, .ref (a 0 0)), (2, .ref (a 30 0)), (3, .int (nI i))] [.int r]
      refine g_aload_n (hD Mc') d_L_law_466 rfl rfl ?_
      refine g_aload_n (hD Mc') d_L_law_467 rfl rfl ?_
      refine g_iload_n (hD Mc') d_L_law_468 rfl rfl ?_
      refine g_iconst (v := 1) (hD Mc') d_L_law_469 (by decide) ?_
      refine g_iadd (hD Mc') d_L_law_470 ?_
      refine g_sld (hD Mc') hX hbl hbA (lw_in hL h5 (k := 1) (by decide) rfl) d_L_law_471 ?_
      refine g_aload_n (hD Mc') d_L_law_472 rfl rfl ?_
      refine g_iload_n (hD Mc') d_L_law_473 rfl rfl ?_
      refine g_iconst (v := 2) (hD Mc') d_L_law_474 (by decide) ?_
      refine g_iadd (hD Mc') d_L_law_475 ?_
      refine g_sld (hD Mc') hX hbl hbA (lw_in hL h5 (k := 2) (by decide) rfl) d_L_law_476 ?_
      refine g_calli (hD Mc') (g_runV (rest := [.int r]) (hD Mc') (ct_D_goes lay_d (sc (nI i + 1).toNatClampNeg) (sc (nI i + 2).toNatClampNeg) Mr e2) (cwV 2 (hD Mc').2.2.2.2.1 (g_VL m_ml_L_62 m_im_D_goes m_se_D_goes m_in_D m_co_D_goes) rfl rfl rfl (by decide +kernel) ⟨Nat.le_of_ble_eq_true rfl, Nat.le_of_ble_eq_true rfl⟩) (lay_d.recv (hD Mc') rfl (by decide) ob_30) rfl rfl (Nat.le_of_ble_eq_true rfl) d_L_law_477) ?_
      refine g_icmp_eq (tgt := 508) (hD Mc') d_L_law_480 (by decide) (fun _ => ?_) (fun q => absurd rfl q)
      exact k508 Mc' Mr' hR' h5
    rcases Classical.em (w = 11) with c_11 | c_11
    · refine g_tabIn (tgt := 485) (hC Mr) d_L_law_32 (by rw [c_11]; decide) (by rw [c_11]; decide) (by rw [c_11]; rfl) (by decide) ?_
      obtain ⟨rc, rd, Mc', Mr', e1, e2, hR'⟩ := s_count (sc (nI i + 1).toNatClampNeg)
      refine g_aload_n (hC Mr) d_L_law_485 rfl rfl ?_
      refine g_aload_n (hC Mr) d_L_law_486 rfl rfl ?_
      refine g_iload_n (hC Mr) d_L_law_487 rfl rfl ?_
      refine g_iconst (v := 1) (hC Mr) d_L_law_488 (by decide) ?_
      refine g_iadd (hC Mr) d_L_law_489 ?_
      refine g_sld (hC Mr) hX hbl hbA (lw_in hL h5 (k := 1) (by decide) rfl) d_L_law_490 ?_
      refine g_calli (hC Mr) (g_runV (rest := []) (hC Mr) (ct_G_count lay_c (sc (nI i + 1).toNatClampNeg) Mc e1) (cwV 1 (hC Mr).2.2.2.2.1 (g_VL m_ml_L_63 m_im_G_count m_se_G_count m_in_G m_co_G_count) rfl rfl rfl (by decide +kernel) ⟨Nat.le_of_ble_eq_true rfl, Nat.le_of_ble_eq_true rfl⟩) (lay_c.recv (hC Mr) rfl (by decide) ob_0) rfl rfl (Nat.le_of_ble_eq_true rfl) d_L_law_491) ?_
      refine g_pop (hC Mr) d_L_law_494 rfl ?_
      show G (Zd l D a cI Mc') X Mr 495 [(0, .ref b), (1, .ref (a 0 0)), (2, .ref (a 30 0)), (3, .int (nI i))] []
      refine g_aload_n (hD Mc') d_L_law_495 rfl rfl ?_
      refine g_aload_n (hD Mc') d_L_law_496 rfl rfl ?_
      refine g_iload_n (hD Mc') d_L_law_497 rfl rfl ?_
      refine g_iconst (v := 1) (hD Mc') d_L_law_498 (by decide) ?_
      refine g_iadd (hD Mc') d_L_law_499 ?_
      refine g_sld (hD Mc') hX hbl hbA (lw_in hL h5 (k := 1) (by decide) rfl) d_L_law_500 ?_
      refine g_calli (hD Mc') (g_runV (rest := []) (hD Mc') (ct_D_count lay_d (sc (nI i + 1).toNatClampNeg) Mr e2) (cwV 1 (hD Mc').2.2.2.2.1 (g_VL m_ml_L_66 m_im_D_count m_se_D_count m_in_D m_co_D_count) rfl rfl rfl (by decide +kernel) ⟨Nat.le_of_ble_eq_true rfl, Nat.le_of_ble_eq_true rfl⟩) (lay_d.recv (hD Mc') rfl (by decide) ob_30) rfl rfl (Nat.le_of_ble_eq_true rfl) d_L_law_501) ?_
      refine g_pop (hD Mc') d_L_law_504 rfl ?_
      refine g_goto (tgt := 508) (hD Mc') d_L_law_505 (by decide) ?_
      exact k508 Mc' Mr' hR' h5
    refine g_tabOut (tgt := 508) (hC Mr) d_L_law_32 (sw_out 0 12 (by decide) (by decide) (fun j hj => ?_)) (by decide) ?_
    · rcases (show j = 0 ∨ j = 1 ∨ j = 2 ∨ j = 3 ∨ j = 4 ∨ j = 5 ∨ j = 6 ∨ j = 7 ∨ j = 8 ∨ j = 9 ∨ j = 10 ∨ j = 11 by omega) with rfl | rfl | rfl | rfl | rfl | rfl | rfl | rfl | rfl | rfl | rfl | rfl
      · exact c_0
      · exact c_1
      · exact c_2
      · exact c_3
      · exact c_4
      · exact c_5
      · exact c_6
      · exact c_7
      · exact c_8
      · exact c_9
      · exact c_10
      · exact c_11
    exact k508 Mc Mr s_default h5
