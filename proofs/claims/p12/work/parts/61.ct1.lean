def wR_init (cI : Nat → ClassId) (h0 : Nat) (u : Nat → Nat) : va_W := [(h0, .inr (5, [.ref (u 0), .ref (u 1), .int 0, .long 0, .ref (u 2)])), ((u 0), .inl (cI 0, 12, .inl (fun _ => 0))), ((u 1), .inl (cI 0, 12, .inl (fun _ => 0))), ((u 2), .inl (cI 0, 48, .inl (fun _ => 0)))]
set_option maxHeartbeats 4000000 in
set_option maxRecDepth 100000 in
theorem ci_R_init (l : Launch) (dC : Nat → ClassId) (dI : Nat → Nat → Nat) (cI : Nat → ClassId) (h0 sz : Nat) : Met l y_R_init ws_R_init ({ frames := 1, cells := 3, slots := 72, locals := 20 }) (va_Pc [.ref h0] (fun U => U.heap.size = sz ∧ va_P (dC, dI) vwCl [(h0, .inr (5, [.null, .null, .int 0, .long 0, .null]))] U.heap ∧ va_K (dC, dI) vwCl (ztys cI) U ∧ va_D (fun _ => True) [(h0, .inr (5, [.null, .null, .int 0, .long 0, .null]))] ∧ Nst U)) (va_Qv (fun _ : Nat → Nat => True) (fun u t => va_P (dC, dI) vwCl (wR_init cI h0 u) t.heap ∧ va_D (va_A [(h0, .inr (5, [.null, .null, .int 0, .long 0, .null]))] sz) (wR_init cI h0 u)) (va_A [(h0, .inr (5, [.null, .null, .int 0, .long 0, .null]))] sz)) 3 72 (va_A [(h0, .inr (5, [.null, .null, .int 0, .long 0, .null]))] sz) := by
  refine Met.ofW (cc := c_R_init) (maxL := 1) (ret := none) (by decide) rfl ?_
  intro p e s m args below meth c s₁ B hml hv
  obtain ⟨rfl, hsz, hP, hK, hD0, hN⟩ := hv
  have hx := B.exec
  have hb := B.bytes
  have hr := B.returns
  have hts := atoms_spec (ws := ws_R_init) B.pre
  have hown : s.vm.findClass "FlowGate$Frame" = some m.cls := findClass_of_methodNamed B.named
  have hlocks := B.notSynchronized
  have hin : meth.name = "<init>" := (name_of_methodNamed B.named B.method).1
  subst hsz
  have hD := hD0.self (sz := s.heap.size)
  generalize hAe : va_A [(h0, .inr (5, [.null, .null, .int 0, .long 0, .null]))] s.heap.size = A at hD ⊢
  have hA : ∀ q : Nat, s.heap.size ≤ q → A q := fun q h => by rw [← hAe]; exact Or.inr h
  have hS : va_S A s.heap s.heap [] := va_S.rf
  have hP : va_P (dC, dI) vwCl [(h0, .inr (5, [.null, .null, .int 0, .long 0, .null]))] s.heap := hP
  have hl := lv_entry ([.ref h0]) (n := 1) (Nat.le_of_ble_eq_true rfl)
  rw [lg_entry_eq]
  generalize (lg_sl ([.ref h0]) ++ List.replicate (1 - (lg_sl ([.ref h0])).length) Slot.unset).toArray = ls at hl ⊢
  have hl : lv_has ls 1 [(0, .ref h0)] := hl
  refine lv_aload_n hx hb d_R_init_0 rfl (lv_at hl 0 rfl) ?_
  refine W.objInit hx hb hown (hts _ (mc m_ml_R_3)) (hts _ (mc m_im_JO)) (hts _ (mc m_co_JO)) rfl (by rw [hml]; exact hl.1) rfl d_R_init_1 (Nat.le_of_ble_eq_true rfl) (Nat.le_of_ble_eq_true rfl) ?_
  refine W.eq (g2 := F0 m 4 ls []) rfl ?_
  refine lv_aload_n hx hb d_R_init_4 rfl (lv_at hl 0 rfl) ?_
  refine lv_bipush (v := 12) hx hb d_R_init_5 (by decide) ?_
  refine n_newI (N' := 12) hx hb (hts _ (mc m_ac_int)) hK hP hD hS hA (by decide) (by decide) (by decide) (by decide) (by decide) d_R_init_7 (fun q7 H hP hD hS => ?_)
  have hP : va_P (dC, dI) vwCl [(h0, .inr (5, [.null, .null, .int 0, .long 0, .null])), (q7, .inl (cI 0, 12, .inl (fun _ => 0)))] H := hP
  have hD : va_D A [(h0, .inr (5, [.null, .null, .int 0, .long 0, .null])), (q7, .inl (cI 0, 12, .inl (fun _ => 0)))] := hD
  refine W.widen (k := 1) (n := 12) (by decide) (by decide) ?_
  refine va_putF (D := (dC, dI)) (ci := 5) (v := .ref q7) (ty := (ty_R 0)) (C := "FlowGate$Frame") (T := T_R) (N := 5) hx hb hts (fun w hw => mc (in_R w hw)) ty_R ty_R_ok nm_R hown hK hP hD hS 0 rfl rfl 0 (by decide) (hts _ (mc m_fl_R_9)) (fun _ h9 => h9) rfl hin rfl (by decide +kernel) rfl rfl (Nat.le_of_ble_eq_true rfl) d_R_init_9 (fun H locs hP hD hS => ?_)
  have hP : va_P (dC, dI) vwCl [(h0, .inr (5, [.ref q7, .null, .int 0, .long 0, .null])), (q7, .inl (cI 0, 12, .inl (fun _ => 0)))] H := hP
  have hD : va_D A [(h0, .inr (5, [.ref q7, .null, .int 0, .long 0, .null])), (q7, .inl (cI 0, 12, .inl (fun _ => 0)))] := hD
  refine lv_aload_n hx hb d_R_init_12 rfl (lv_at hl 0 rfl) ?_
  refine lv_bipush (v := 12) hx hb d_R_init_13 (by decide) ?_
  refine n_newI (N' := 12) hx hb (hts _ (mc m_ac_int)) hK hP hD hS hA (by decide) (by decide) (by decide) (by decide) (by decide) d_R_init_15 (fun q15 H hP hD hS => ?_)
  have hP : va_P (dC, dI) vwCl [(h0, .inr (5, [.ref q7, .null, .int 0, .long 0, .null])), (q7, .inl (cI 0, 12, .inl (fun _ => 0))), (q15, .inl (cI 0, 12, .inl (fun _ => 0)))] H := hP
  have hD : va_D A [(h0, .inr (5, [.ref q7, .null, .int 0, .long 0, .null])), (q7, .inl (cI 0, 12, .inl (fun _ => 0))), (q15, .inl (cI 0, 12, .inl (fun _ => 0)))] := hD
  refine W.widen (k := 2) (n := 24) (by decide) (by decide) ?_
  refine va_putF (D := (dC, dI)) (ci := 5) (v := .ref q15) (ty := (ty_R 1)) (C := "FlowGate$Frame") (T := T_R) (N := 5) hx hb hts (fun w hw => mc (in_R w hw)) ty_R ty_R_ok nm_R hown hK hP hD hS 0 rfl rfl 1 (by decide) (hts _ (mc m_fl_R_15)) (fun _ h9 => h9) rfl hin rfl (by decide +kernel) rfl rfl (Nat.le_of_ble_eq_true rfl) d_R_init_17 (fun H locs hP hD hS => ?_)
  have hP : va_P (dC, dI) vwCl [(h0, .inr (5, [.ref q7, .ref q15, .int 0, .long 0, .null])), (q7, .inl (cI 0, 12, .inl (fun _ => 0))), (q15, .inl (cI 0, 12, .inl (fun _ => 0)))] H := hP
  have hD : va_D A [(h0, .inr (5, [.ref q7, .ref q15, .int 0, .long 0, .null])), (q7, .inl (cI 0, 12, .inl (fun _ => 0))), (q15, .inl (cI 0, 12, .inl (fun _ => 0)))] := hD
  refine lv_aload_n hx hb d_R_init_20 rfl (lv_at hl 0 rfl) ?_
  refine lv_bipush (v := 48) hx hb d_R_init_21 (by decide) ?_
  refine n_newI (N' := 48) hx hb (hts _ (mc m_ac_int)) hK hP hD hS hA (by decide) (by decide) (by decide) (by decide) (by decide) d_R_init_23 (fun q23 H hP hD hS => ?_)
  have hP : va_P (dC, dI) vwCl [(h0, .inr (5, [.ref q7, .ref q15, .int 0, .long 0, .null])), (q7, .inl (cI 0, 12, .inl (fun _ => 0))), (q15, .inl (cI 0, 12, .inl (fun _ => 0))), (q23, .inl (cI 0, 48, .inl (fun _ => 0)))] H := hP
  have hD : va_D A [(h0, .inr (5, [.ref q7, .ref q15, .int 0, .long 0, .null])), (q7, .inl (cI 0, 12, .inl (fun _ => 0))), (q15, .inl (cI 0, 12, .inl (fun _ => 0))), (q23, .inl (cI 0, 48, .inl (fun _ => 0)))] := hD
  refine W.widen (k := 3) (n := 72) (by decide) (by decide) ?_
  refine va_putF (D := (dC, dI)) (ci := 5) (v := .ref q23) (ty := (ty_R 4)) (C := "FlowGate$Frame") (T := T_R) (N := 5) hx hb hts (fun w hw => mc (in_R w hw)) ty_R ty_R_ok nm_R hown hK hP hD hS 0 rfl rfl 4 (by decide) (hts _ (mc m_fl_R_18)) (fun _ h9 => h9) rfl hin rfl (by decide +kernel) rfl rfl (Nat.le_of_ble_eq_true rfl) d_R_init_25 (fun H locs hP hD hS => ?_)
  have hP : va_P (dC, dI) vwCl [(h0, .inr (5, [.ref q7, .ref q15, .int 0, .long 0, .ref q23])), (q7, .inl (cI 0, 12, .inl (fun _ => 0))), (q15, .inl (cI 0, 12, .inl (fun _ => 0))), (q23, .inl (cI 0, 48, .inl (fun _ => 0)))] H := hP
  have hD : va_D A [(h0, .inr (5, [.ref q7, .ref q15, .int 0, .long 0, .ref q23])), (q7, .inl (cI 0, 12, .inl (fun _ => 0))), (q15, .inl (cI 0, 12, .inl (fun _ => 0))), (q23, .inl (cI 0, 48, .inl (fun _ => 0)))] := hD
  exact W.vret hx hb hr (fun t ht hW => ⟨⟨fun j => ([q7, q15, q23] : List Nat).getD j 0, rfl, trivial, by rw [ht]; exact hP, hD⟩, hS.F ht⟩) hS.2.2 d_R_init_28
def wM_init (cI : Nat → ClassId) (h0 : Nat) (u : Nat → Nat) : va_W := [(h0, .inr (2, [.ref (u 0), .ref (u 1), .ref (u 2), .int 0, .ref (u 3), .ref (u 4), .ref (u 5), .ref (u 6), .int 0, .ref (u 7), .int 0, .int 0, .int 0, .int 0])), ((u 0), .inl (cI 0, 48, .inl (fun _ => 0))), ((u 1), .inl (cI 0, 48, .inl (fun _ => 0))), ((u 2), .inl (cI 0, 48, .inl (fun _ => 0))), ((u 3), .inl (cI 0, 3, .inl (fun _ => 0))), ((u 4), .inl (cI 0, 3, .inl (fun _ => 0))), ((u 5), .inl (cI 0, 3, .inl (fun _ => 0))), ((u 6), .inl (cI 0, 3, .inl (fun _ => 0))), ((u 7), .inl (cI 0, 6, .inl (fun _ => 0)))]
set_option maxHeartbeats 4000000 in
set_option maxRecDepth 100000 in
theorem ci_M_init (l : Launch) (dC : Nat → ClassId) (dI : Nat → Nat → Nat) (cI : Nat → ClassId) (h0 sz : Nat) : Met l y_M_init ws_M_init ({ frames := 1, cells := 8, slots := 162, locals := 20 }) (va_Pc [.ref h0] (fun U => U.heap.size = sz ∧ va_P (dC, dI) vwCl [(h0, .inr (2, [.null, .null, .null, .int 0, .null, .null, .null, .null, .int 0, .null, .int 0, .int 0, .int 0, .int 0]))] U.heap ∧ va_K (dC, dI) vwCl (ztys cI) U ∧ va_D (fun _ => True) [(h0, .inr (2, [.null, .null, .null, .int 0, .null, .null, .null, .null, .int 0, .null, .int 0, .int 0, .int 0, .int 0]))] ∧ Nst U)) (va_Qv (fun _ : Nat → Nat => True) (fun u t => va_P (dC, dI) vwCl (wM_init cI h0 u) t.heap ∧ va_D (va_A [(h0, .inr (2, [.null, .null, .null, .int 0, .null, .null, .null, .null, .int 0, .null, .int 0, .int 0, .int 0, .int 0]))] sz) (wM_init cI h0 u)) (va_A [(h0, .inr (2, [.null, .null, .null, .int 0, .null, .null, .null, .null, .int 0, .null, .int 0, .int 0, .int 0, .int 0]))] sz)) 8 162 (va_A [(h0, .inr (2, [.null, .null, .null, .int 0, .null, .null, .null, .null, .int 0, .null, .int 0, .int 0, .int 0, .int 0]))] sz) := by
  refine Met.ofW (cc := c_M_init) (maxL := 1) (ret := none) (by decide) rfl ?_
  intro p e s m args below meth c s₁ B hml hv
  obtain ⟨rfl, hsz, hP, hK, hD0, hN⟩ := hv
  have hx := B.exec
  have hb := B.bytes
  have hr := B.returns
  have hts := atoms_spec (ws := ws_M_init) B.pre
  have hown : s.vm.findClass "FlowGate$Method" = some m.cls := findClass_of_methodNamed B.named
  have hlocks := B.notSynchronized
  have hin : meth.name = "<init>" := (name_of_methodNamed B.named B.method).1
  subst hsz
  have hD := hD0.self (sz := s.heap.size)
  generalize hAe : va_A [(h0, .inr (2, [.null, .null, .null, .int 0, .null, .null, .null, .null, .int 0, .null, .int 0, .int 0, .int 0, .int 0]))] s.heap.size = A at hD ⊢
  have hA : ∀ q : Nat, s.heap.size ≤ q → A q := fun q h => by rw [← hAe]; exact Or.inr h
  have hS : va_S A s.heap s.heap [] := va_S.rf
  have hP : va_P (dC, dI) vwCl [(h0, .inr (2, [.null, .null, .null, .int 0, .null, .null, .null, .null, .int 0, .null, .int 0, .int 0, .int 0, .int 0]))] s.heap := hP
  have hl := lv_entry ([.ref h0]) (n := 1) (Nat.le_of_ble_eq_true rfl)
  rw [lg_entry_eq]
  generalize (lg_sl ([.ref h0]) ++ List.replicate (1 - (lg_sl ([.ref h0])).length) Slot.unset).toArray = ls at hl ⊢
  have hl : lv_has ls 1 [(0, .ref h0)] := hl
  refine lv_aload_n hx hb d_M_init_0 rfl (lv_at hl 0 rfl) ?_
  refine W.objInit hx hb hown (hts _ (mc m_ml_M_3)) (hts _ (mc m_im_JO)) (hts _ (mc m_co_JO)) rfl (by rw [hml]; exact hl.1) rfl d_M_init_1 (Nat.le_of_ble_eq_true rfl) (Nat.le_of_ble_eq_true rfl) ?_
  refine W.eq (g2 := F0 m 4 ls []) rfl ?_
  refine lv_aload_n hx hb d_M_init_4 rfl (lv_at hl 0 rfl) ?_
  refine lv_bipush (v := 48) hx hb d_M_init_5 (by decide) ?_
  refine n_newI (N' := 48) hx hb (hts _ (mc m_ac_int)) hK hP hD hS hA (by decide) (by decide) (by decide) (by decide) (by decide) d_M_init_7 (fun q7 H hP hD hS => ?_)
  have hP : va_P (dC, dI) vwCl [(h0, .inr (2, [.null, .null, .null, .int 0, .null, .null, .null, .null, .int 0, .null, .int 0, .int 0, .int 0, .int 0])), (q7, .inl (cI 0, 48, .inl (fun _ => 0)))] H := hP
  have hD : va_D A [(h0, .inr (2, [.null, .null, .null, .int 0, .null, .null, .null, .null, .int 0, .null, .int 0, .int 0, .int 0, .int 0])), (q7, .inl (cI 0, 48, .inl (fun _ => 0)))] := hD
  refine W.widen (k := 1) (n := 48) (by decide) (by decide) ?_
  refine va_putF (D := (dC, dI)) (ci := 2) (v := .ref q7) (ty := (ty_M 0)) (C := "FlowGate$Method") (T := T_M) (N := 14) hx hb hts (fun w hw => mc (in_M w hw)) ty_M ty_M_ok nm_M hown hK hP hD hS 0 rfl rfl 0 (by decide) (hts _ (mc m_fl_M_9)) (fun _ h9 => h9) rfl hin rfl (by decide +kernel) rfl rfl (Nat.le_of_ble_eq_true rfl) d_M_init_9 (fun H locs hP hD hS => ?_)
  have hP : va_P (dC, dI) vwCl [(h0, .inr (2, [.ref q7, .null, .null, .int 0, .null, .null, .null, .null, .int 0, .null, .int 0, .int 0, .int 0, .int 0])), (q7, .inl (cI 0, 48, .inl (fun _ => 0)))] H := hP
  have hD : va_D A [(h0, .inr (2, [.ref q7, .null, .null, .int 0, .null, .null, .null, .null, .int 0, .null, .int 0, .int 0, .int 0, .int 0])), (q7, .inl (cI 0, 48, .inl (fun _ => 0)))] := hD
  refine lv_aload_n hx hb d_M_init_12 rfl (lv_at hl 0 rfl) ?_
  refine lv_bipush (v := 48) hx hb d_M_init_13 (by decide) ?_
  refine n_newI (N' := 48) hx hb (hts _ (mc m_ac_int)) hK hP hD hS hA (by decide) (by decide) (by decide) (by decide) (by decide) d_M_init_15 (fun q15 H hP hD hS => ?_)
  have hP : va_P (dC, dI) vwCl [(h0, .inr (2, [.ref q7, .null, .null, .int 0, .null, .null, .null, .null, .int 0, .null, .int 0, .int 0, .int 0, .int 0])), (q7, .inl (cI 0, 48, .inl (fun _ => 0))), (q15, .inl (cI 0, 48, .inl (fun _ => 0)))] H := hP
  have hD : va_D A [(h0, .inr (2, [.ref q7, .null, .null, .int 0, .null, .null, .null, .null, .int 0, .null, .int 0, .int 0, .int 0, .int 0])), (q7, .inl (cI 0, 48, .inl (fun _ => 0))), (q15, .inl (cI 0, 48, .inl (fun _ => 0)))] := hD
  refine W.widen (k := 2) (n := 96) (by decide) (by decide) ?_
  refine va_putF (D := (dC, dI)) (ci := 2) (v := .ref q15) (ty := (ty_M 1)) (C := "FlowGate$Method") (T := T_M) (N := 14) hx hb hts (fun w hw => mc (in_M w hw)) ty_M ty_M_ok nm_M hown hK hP hD hS 0 rfl rfl 1 (by decide) (hts _ (mc m_fl_M_15)) (fun _ h9 => h9) rfl hin rfl (by decide +kernel) rfl rfl (Nat.le_of_ble_eq_true rfl) d_M_init_17 (fun H locs hP hD hS => ?_)
  have hP : va_P (dC, dI) vwCl [(h0, .inr (2, [.ref q7, .ref q15, .null, .int 0, .null, .null, .null, .null, .int 0, .null, .int 0, .int 0, .int 0, .int 0])), (q7, .inl (cI 0, 48, .inl (fun _ => 0))), (q15, .inl (cI 0, 48, .inl (fun _ => 0)))] H := hP
  have hD : va_D A [(h0, .inr (2, [.ref q7, .ref q15, .null, .int 0, .null, .null, .null, .null, .int 0, .null, .int 0, .int 0, .int 0, .int 0])), (q7, .inl (cI 0, 48, .inl (fun _ => 0))), (q15, .inl (cI 0, 48, .inl (fun _ => 0)))] := hD
  refine lv_aload_n hx hb d_M_init_20 rfl (lv_at hl 0 rfl) ?_
  refine lv_bipush (v := 48) hx hb d_M_init_21 (by decide) ?_
  refine n_newI (N' := 48) hx hb (hts _ (mc m_ac_int)) hK hP hD hS hA (by decide) (by decide) (by decide) (by decide) (by decide) d_M_init_23 (fun q23 H hP hD hS => ?_)
  have hP : va_P (dC, dI) vwCl [(h0, .inr (2, [.ref q7, .ref q15, .null, .int 0, .null, .null, .null, .null, .int 0, .null, .int 0, .int 0, .int 0, .int 0])), (q7, .inl (cI 0, 48, .inl (fun _ => 0))), (q15, .inl (cI 0, 48, .inl (fun _ => 0))), (q23, .inl (cI 0, 48, .inl (fun _ => 0)))] H := hP
  have hD : va_D A [(h0, .inr (2, [.ref q7, .ref q15, .null, .int 0, .null, .null, .null, .null, .int 0, .null, .int 0, .int 0, .int 0, .int 0])), (q7, .inl (cI 0, 48, .inl (fun _ => 0))), (q15, .inl (cI 0, 48, .inl (fun _ => 0))), (q23, .inl (cI 0, 48, .inl (fun _ => 0)))] := hD
  refine W.widen (k := 3) (n := 144) (by decide) (by decide) ?_
  refine va_putF (D := (dC, dI)) (ci := 2) (v := .ref q23) (ty := (ty_M 2)) (C := "FlowGate$Method") (T := T_M) (N := 14) hx hb hts (fun w hw => mc (in_M w hw)) ty_M ty_M_ok nm_M hown hK hP hD hS 0 rfl rfl 2 (by decide) (hts _ (mc m_fl_M_18)) (fun _ h9 => h9) rfl hin rfl (by decide +kernel) rfl rfl (Nat.le_of_ble_eq_true rfl) d_M_init_25 (fun H locs hP hD hS => ?_)
  have hP : va_P (dC, dI) vwCl [(h0, .inr (2, [.ref q7, .ref q15, .ref q23, .int 0, .null, .null, .null, .null, .int 0, .null, .int 0, .int 0, .int 0, .int 0])), (q7, .inl (cI 0, 48, .inl (fun _ => 0))), (q15, .inl (cI 0, 48, .inl (fun _ => 0))), (q23, .inl (cI 0, 48, .inl (fun _ => 0)))] H := hP
  have hD : va_D A [(h0, .inr (2, [.ref q7, .ref q15, .ref q23, .int 0, .null, .null, .null, .null, .int 0, .null, .int 0, .int 0, .int 0, .int 0])), (q7, .inl (cI 0, 48, .inl (fun _ => 0))), (q15, .inl (cI 0, 48, .inl (fun _ => 0))), (q23, .inl (cI 0, 48, .inl (fun _ => 0)))] := hD
  refine lv_aload_n hx hb d_M_init_28 rfl (lv_at hl 0 rfl) ?_
  refine lv_iconst (v := 3) hx hb d_M_init_29 (by decide) ?_
  refine n_newI (N' := 3) hx hb (hts _ (mc m_ac_int)) hK hP hD hS hA (by decide) (by decide) (by decide) (by decide) (by decide) d_M_init_30 (fun q30 H hP hD hS => ?_)
  have hP : va_P (dC, dI) vwCl [(h0, .inr (2, [.ref q7, .ref q15, .ref q23, .int 0, .null, .null, .null, .null, .int 0, .null, .int 0, .int 0, .int 0, .int 0])), (q7, .inl (cI 0, 48, .inl (fun _ => 0))), (q15, .inl (cI 0, 48, .inl (fun _ => 0))), (q23, .inl (cI 0, 48, .inl (fun _ => 0))), (q30, .inl (cI 0, 3, .inl (fun _ => 0)))] H := hP
  have hD : va_D A [(h0, .inr (2, [.ref q7, .ref q15, .ref q23, .int 0, .null, .null, .null, .null, .int 0, .null, .int 0, .int 0, .int 0, .int 0])), (q7, .inl (cI 0, 48, .inl (fun _ => 0))), (q15, .inl (cI 0, 48, .inl (fun _ => 0))), (q23, .inl (cI 0, 48, .inl (fun _ => 0))), (q30, .inl (cI 0, 3, .inl (fun _ => 0)))] := hD
  refine W.widen (k := 4) (n := 147) (by decide) (by decide) ?_
  refine va_putF (D := (dC, dI)) (ci := 2) (v := .ref q30) (ty := (ty_M 4)) (C := "FlowGate$Method") (T := T_M) (N := 14) hx hb hts (fun w hw => mc (in_M w hw)) ty_M ty_M_ok nm_M hown hK hP hD hS 0 rfl rfl 4 (by decide) (hts _ (mc m_fl_M_21)) (fun _ h9 => h9) rfl hin rfl (by decide +kernel) rfl rfl (Nat.le_of_ble_eq_true rfl) d_M_init_32 (fun H locs hP hD hS => ?_)
  have hP : va_P (dC, dI) vwCl [(h0, .inr (2, [.ref q7, .ref q15, .ref q23, .int 0, .ref q30, .null, .null, .null, .int 0, .null, .int 0, .int 0, .int 0, .int 0])), (q7, .inl (cI 0, 48, .inl (fun _ => 0))), (q15, .inl (cI 0, 48, .inl (fun _ => 0))), (q23, .inl (cI 0, 48, .inl (fun _ => 0))), (q30, .inl (cI 0, 3, .inl (fun _ => 0)))] H := hP
  have hD : va_D A [(h0, .inr (2, [.ref q7, .ref q15, .ref q23, .int 0, .ref q30, .null, .null, .null, .int 0, .null, .int 0, .int 0, .int 0, .int 0])), (q7, .inl (cI 0, 48, .inl (fun _ => 0))), (q15, .inl (cI 0, 48, .inl (fun _ => 0))), (q23, .inl (cI 0, 48, .inl (fun _ => 0))), (q30, .inl (cI 0, 3, .inl (fun _ => 0)))] := hD
  refine lv_aload_n hx hb d_M_init_35 rfl (lv_at hl 0 rfl) ?_
  refine lv_iconst (v := 3) hx hb d_M_init_36 (by decide) ?_
  refine n_newI (N' := 3) hx hb (hts _ (mc m_ac_int)) hK hP hD hS hA (by decide) (by decide) (by decide) (by decide) (by decide) d_M_init_37 (fun q37 H hP hD hS => ?_)
  have hP : va_P (dC, dI) vwCl [(h0, .inr (2, [.ref q7, .ref q15, .ref q23, .int 0, .ref q30, .null, .null, .null, .int 0, .null, .int 0, .int 0, .int 0, .int 0])), (q7, .inl (cI 0, 48, .inl (fun _ => 0))), (q15, .inl (cI 0, 48, .inl (fun _ => 0))), (q23, .inl (cI 0, 48, .inl (fun _ => 0))), (q30, .inl (cI 0, 3, .inl (fun _ => 0))), (q37, .inl (cI 0, 3, .inl (fun _ => 0)))] H := hP
  have hD : va_D A [(h0, .inr (2, [.ref q7, .ref q15, .ref q23, .int 0, .ref q30, .null, .null, .null, .int 0, .null, .int 0, .int 0, .int 0, .int 0])), (q7, .inl (cI 0, 48, .inl (fun _ => 0))), (q15, .inl (cI 0, 48, .inl (fun _ => 0))), (q23, .inl (cI 0, 48, .inl (fun _ => 0))), (q30, .inl (cI 0, 3, .inl (fun _ => 0))), (q37, .inl (cI 0, 3, .inl (fun _ => 0)))] := hD
  refine W.widen (k := 5) (n := 150) (by decide) (by decide) ?_
  refine va_putF (D := (dC, dI)) (ci := 2) (v := .ref q37) (ty := (ty_M 5)) (C := "FlowGate$Method") (T := T_M) (N := 14) hx hb hts (fun w hw => mc (in_M w hw)) ty_M ty_M_ok nm_M hown hK hP hD hS 0 rfl rfl 5 (by decide) (hts _ (mc m_fl_M_24)) (fun _ h9 => h9) rfl hin rfl (by decide +kernel) rfl rfl (Nat.le_of_ble_eq_true rfl) d_M_init_39 (fun H locs hP hD hS => ?_)
  have hP : va_P (dC, dI) vwCl [(h0, .inr (2, [.ref q7, .ref q15, .ref q23, .int 0, .ref q30, .ref q37, .null, .null, .int 0, .null, .int 0, .int 0, .int 0, .int 0])), (q7, .inl (cI 0, 48, .inl (fun _ => 0))), (q15, .inl (cI 0, 48, .inl (fun _ => 0))), (q23, .inl (cI 0, 48, .inl (fun _ => 0))), (q30, .inl (cI 0, 3, .inl (fun _ => 0))), (q37, .inl (cI 0, 3, .inl (fun _ => 0)))] H := hP
  have hD : va_D A [(h0, .inr (2, [.ref q7, .ref q15, .ref q23, .int 0, .ref q30, .ref q37, .null, .null, .int 0, .null, .int 0, .int 0, .int 0, .int 0])), (q7, .inl (cI 0, 48, .inl (fun _ => 0))), (q15, .inl (cI 0, 48, .inl (fun _ => 0))), (q23, .inl (cI 0, 48, .inl (fun _ => 0))), (q30, .inl (cI 0, 3, .inl (fun _ => 0))), (q37, .inl (cI 0, 3, .inl (fun _ => 0)))] := hD
  refine lv_aload_n hx hb d_M_init_42 rfl (lv_at hl 0 rfl) ?_
  refine lv_iconst (v := 3) hx hb d_M_init_43 (by decide) ?_
  refine n_newI (N' := 3) hx hb (hts _ (mc m_ac_int)) hK hP hD hS hA (by decide) (by decide) (by decide) (by decide) (by decide) d_M_init_44 (fun q44 H hP hD hS => ?_)
  have hP : va_P (dC, dI) vwCl [(h0, .inr (2, [.ref q7, .ref q15, .ref q23, .int 0, .ref q30, .ref q37, .null, .null, .int 0, .null, .int 0, .int 0, .int 0, .int 0])), (q7, .inl (cI 0, 48, .inl (fun _ => 0))), (q15, .inl (cI 0, 48, .inl (fun _ => 0))), (q23, .inl (cI 0, 48, .inl (fun _ => 0))), (q30, .inl (cI 0, 3, .inl (fun _ => 0))), (q37, .inl (cI 0, 3, .inl (fun _ => 0))), (q44, .inl (cI 0, 3, .inl (fun _ => 0)))] H := hP
  have hD : va_D A [(h0, .inr (2, [.ref q7, .ref q15, .ref q23, .int 0, .ref q30, .ref q37, .null, .null, .int 0, .null, .int 0, .int 0, .int 0, .int 0])), (q7, .inl (cI 0, 48, .inl (fun _ => 0))), (q15, .inl (cI 0, 48, .inl (fun _ => 0))), (q23, .inl (cI 0, 48, .inl (fun _ => 0))), (q30, .inl (cI 0, 3, .inl (fun _ => 0))), (q37, .inl (cI 0, 3, .inl (fun _ => 0))), (q44, .inl (cI 0, 3, .inl (fun _ => 0)))] := hD
  refine W.widen (k := 6) (n := 153) (by decide) (by decide) ?_
  refine va_putF (D := (dC, dI)) (ci := 2) (v := .ref q44) (ty := (ty_M 6)) (C := "FlowGate$Method") (T := T_M) (N := 14) hx hb hts (fun w hw => mc (in_M w hw)) ty_M ty_M_ok nm_M hown hK hP hD hS 0 rfl rfl 6 (by decide) (hts _ (mc m_fl_M_27)) (fun _ h9 => h9) rfl hin rfl (by decide +kernel) rfl rfl (Nat.le_of_ble_eq_true rfl) d_M_init_46 (fun H locs hP hD hS => ?_)
  have hP : va_P (dC, dI) vwCl [(h0, .inr (2, [.ref q7, .ref q15, .ref q23, .int 0, .ref q30, .ref q37, .ref q44, .null, .int 0, .null, .int 0, .int 0, .int 0, .int 0])), (q7, .inl (cI 0, 48, .inl (fun _ => 0))), (q15, .inl (cI 0, 48, .inl (fun _ => 0))), (q23, .inl (cI 0, 48, .inl (fun _ => 0))), (q30, .inl (cI 0, 3, .inl (fun _ => 0))), (q37, .inl (cI 0, 3, .inl (fun _ => 0))), (q44, .inl (cI 0, 3, .inl (fun _ => 0)))] H := hP
  have hD : va_D A [(h0, .inr (2, [.ref q7, .ref q15, .ref q23, .int 0, .ref q30, .ref q37, .ref q44, .null, .int 0, .null, .int 0, .int 0, .int 0, .int 0])), (q7, .inl (cI 0, 48, .inl (fun _ => 0))), (q15, .inl (cI 0, 48, .inl (fun _ => 0))), (q23, .inl (cI 0, 48, .inl (fun _ => 0))), (q30, .inl (cI 0, 3, .inl (fun _ => 0))), (q37, .inl (cI 0, 3, .inl (fun _ => 0))), (q44, .inl (cI 0, 3, .inl (fun _ => 0)))] := hD
  refine lv_aload_n hx hb d_M_init_49 rfl (lv_at hl 0 rfl) ?_
  refine lv_iconst (v := 3) hx hb d_M_init_50 (by decide) ?_
  refine n_newI (N' := 3) hx hb (hts _ (mc m_ac_int)) hK hP hD hS hA (by decide) (by decide) (by decide) (by decide) (by decide) d_M_init_51 (fun q51 H hP hD hS => ?_)
  have hP : va_P (dC, dI) vwCl [(h0, .inr (2, [.ref q7, .ref q15, .ref q23, .int 0, .ref q30, .ref q37, .ref q44, .null, .int 0, .null, .int 0, .int 0, .int 0, .int 0])), (q7, .inl (cI 0, 48, .inl (fun _ => 0))), (q15, .inl (cI 0, 48, .inl (fun _ => 0))), (q23, .inl (cI 0, 48, .inl (fun _ => 0))), (q30, .inl (cI 0, 3, .inl (fun _ => 0))), (q37, .inl (cI 0, 3, .inl (fun _ => 0))), (q44, .inl (cI 0, 3, .inl (fun _ => 0))), (q51, .inl (cI 0, 3, .inl (fun _ => 0)))] H := hP
  have hD : va_D A [(h0, .inr (2, [.ref q7, .ref q15, .ref q23, .int 0, .ref q30, .ref q37, .ref q44, .null, .int 0, .null, .int 0, .int 0, .int 0, .int 0])), (q7, .inl (cI 0, 48, .inl (fun _ => 0))), (q15, .inl (cI 0, 48, .inl (fun _ => 0))), (q23, .inl (cI 0, 48, .inl (fun _ => 0))), (q30, .inl (cI 0, 3, .inl (fun _ => 0))), (q37, .inl (cI 0, 3, .inl (fun _ => 0))), (q44, .inl (cI 0, 3, .inl (fun _ => 0))), (q51, .inl (cI 0, 3, .inl (fun _ => 0)))] := hD
  refine W.widen (k := 7) (n := 156) (by decide) (by decide) ?_
  refine va_putF (D := (dC, dI)) (ci := 2) (v := .ref q51) (ty := (ty_M 7)) (C := "FlowGate$Method") (T := T_M) (N := 14) hx hb hts (fun w hw => mc (in_M w hw)) ty_M ty_M_ok nm_M hown hK hP hD hS 0 rfl rfl 7 (by decide) (hts _ (mc m_fl_M_30)) (fun _ h9 => h9) rfl hin rfl (by decide +kernel) rfl rfl (Nat.le_of_ble_eq_true rfl) d_M_init_53 (fun H locs hP hD hS => ?_)
  have hP : va_P (dC, dI) vwCl [(h0, .inr (2, [.ref q7, .ref q15, .ref q23, .int 0, .ref q30, .ref q37, .ref q44, .ref q51, .int 0, .null, .int 0, .int 0, .int 0, .int 0])), (q7, .inl (cI 0, 48, .inl (fun _ => 0))), (q15, .inl (cI 0, 48, .inl (fun _ => 0))), (q23, .inl (cI 0, 48, .inl (fun _ => 0))), (q30, .inl (cI 0, 3, .inl (fun _ => 0))), (q37, .inl (cI 0, 3, .inl (fun _ => 0))), (q44, .inl (cI 0, 3, .inl (fun _ => 0))), (q51, .inl (cI 0, 3, .inl (fun _ => 0)))] H := hP
  have hD : va_D A [(h0, .inr (2, [.ref q7, .ref q15, .ref q23, .int 0, .ref q30, .ref q37, .ref q44, .ref q51, .int 0, .null, .int 0, .int 0, .int 0, .int 0])), (q7, .inl (cI 0, 48, .inl (fun _ => 0))), (q15, .inl (cI 0, 48, .inl (fun _ => 0))), (q23, .inl (cI 0, 48, .inl (fun _ => 0))), (q30, .inl (cI 0, 3, .inl (fun _ => 0))), (q37, .inl (cI 0, 3, .inl (fun _ => 0))), (q44, .inl (cI 0, 3, .inl (fun _ => 0))), (q51, .inl (cI 0, 3, .inl (fun _ => 0)))] := hD
  refine lv_aload_n hx hb d_M_init_56 rfl (lv_at hl 0 rfl) ?_
  refine lv_bipush (v := 6) hx hb d_M_init_57 (by decide) ?_
  refine n_newI (N' := 6) hx hb (hts _ (mc m_ac_int)) hK hP hD hS hA (by decide) (by decide) (by decide) (by decide) (by decide) d_M_init_59 (fun q59 H hP hD hS => ?_)
  have hP : va_P (dC, dI) vwCl [(h0, .inr (2, [.ref q7, .ref q15, .ref q23, .int 0, .ref q30, .ref q37, .ref q44, .ref q51, .int 0, .null, .int 0, .int 0, .int 0, .int 0])), (q7, .inl (cI 0, 48, .inl (fun _ => 0))), (q15, .inl (cI 0, 48, .inl (fun _ => 0))), (q23, .inl (cI 0, 48, .inl (fun _ => 0))), (q30, .inl (cI 0, 3, .inl (fun _ => 0))), (q37, .inl (cI 0, 3, .inl (fun _ => 0))), (q44, .inl (cI 0, 3, .inl (fun _ => 0))), (q51, .inl (cI 0, 3, .inl (fun _ => 0))), (q59, .inl (cI 0, 6, .inl (fun _ => 0)))] H := hP
  have hD : va_D A [(h0, .inr (2, [.ref q7, .ref q15, .ref q23, .int 0, .ref q30, .ref q37, .ref q44, .ref q51, .int 0, .null, .int 0, .int 0, .int 0, .int 0])), (q7, .inl (cI 0, 48, .inl (fun _ => 0))), (q15, .inl (cI 0, 48, .inl (fun _ => 0))), (q23, .inl (cI 0, 48, .inl (fun _ => 0))), (q30, .inl (cI 0, 3, .inl (fun _ => 0))), (q37, .inl (cI 0, 3, .inl (fun _ => 0))), (q44, .inl (cI 0, 3, .inl (fun _ => 0))), (q51, .inl (cI 0, 3, .inl (fun _ => 0))), (q59, .inl (cI 0, 6, .inl (fun _ => 0)))] := hD
  refine W.widen (k := 8) (n := 162) (by decide) (by decide) ?_
  refine va_putF (D := (dC, dI)) (ci := 2) (v := .ref q59) (ty := (ty_M 9)) (C := "FlowGate$Method") (T := T_M) (N := 14) hx hb hts (fun w hw => mc (in_M w hw)) ty_M ty_M_ok nm_M hown hK hP hD hS 0 rfl rfl 9 (by decide) (hts _ (mc m_fl_M_33)) (fun _ h9 => h9) rfl hin rfl (by decide +kernel) rfl rfl (Nat.le_of_ble_eq_true rfl) d_M_init_61 (fun H locs hP hD hS => ?_)
  have hP : va_P (dC, dI) vwCl [(h0, .inr (2, [.ref q7, .ref q15, .ref q23, .int 0, .ref q30, .ref q37, .ref q44, .ref q51, .int 0, .ref q59, .int 0, .int 0, .int 0, .int 0])), (q7, .inl (cI 0, 48, .inl (fun _ => 0))), (q15, .inl (cI 0, 48, .inl (fun _ => 0))), (q23, .inl (cI 0, 48, .inl (fun _ => 0))), (q30, .inl (cI 0, 3, .inl (fun _ => 0))), (q37, .inl (cI 0, 3, .inl (fun _ => 0))), (q44, .inl (cI 0, 3, .inl (fun _ => 0))), (q51, .inl (cI 0, 3, .inl (fun _ => 0))), (q59, .inl (cI 0, 6, .inl (fun _ => 0)))] H := hP
  have hD : va_D A [(h0, .inr (2, [.ref q7, .ref q15, .ref q23, .int 0, .ref q30, .ref q37, .ref q44, .ref q51, .int 0, .ref q59, .int 0, .int 0, .int 0, .int 0])), (q7, .inl (cI 0, 48, .inl (fun _ => 0))), (q15, .inl (cI 0, 48, .inl (fun _ => 0))), (q23, .inl (cI 0, 48, .inl (fun _ => 0))), (q30, .inl (cI 0, 3, .inl (fun _ => 0))), (q37, .inl (cI 0, 3, .inl (fun _ => 0))), (q44, .inl (cI 0, 3, .inl (fun _ => 0))), (q51, .inl (cI 0, 3, .inl (fun _ => 0))), (q59, .inl (cI 0, 6, .inl (fun _ => 0)))] := hD
  exact W.vret hx hb hr (fun t ht hW => ⟨⟨fun j => ([q7, q15, q23, q30, q37, q44, q51, q59] : List Nat).getD j 0, rfl, trivial, by rw [ht]; exact hP, hD⟩, hS.F ht⟩) hS.2.2 d_M_init_64
def wT_init (cI : Nat → ClassId) (h0 : Nat) (u : Nat → Nat) : va_W := [(h0, .inr (1, [.ref (u 0), .ref (u 1), .int 2])), ((u 0), .inl (cI 0, 10, .inl (upd (upd (fun _ => 0) 0 1) 1 3))), ((u 1), .inl (cI 1, 10, .inl (fun _ => 0)))]
set_option maxHeartbeats 4000000 in
set_option maxRecDepth 100000 in
theorem ci_T_init (l : Launch) (dC : Nat → ClassId) (dI : Nat → Nat → Nat) (cI : Nat → ClassId) (h0 sz : Nat) : Met l y_T_init ws_T_init ({ frames := 1, cells := 2, slots := 20, locals := 20 }) (va_Pc [.ref h0] (fun U => U.heap.size = sz ∧ va_P (dC, dI) vwCl [(h0, .inr (1, [.null, .null, .int 0]))] U.heap ∧ va_K (dC, dI) vwCl (ztys cI) U ∧ va_D (fun _ => True) [(h0, .inr (1, [.null, .null, .int 0]))] ∧ Nst U)) (va_Qv (fun _ : Nat → Nat => True) (fun u t => va_P (dC, dI) vwCl (wT_init cI h0 u) t.heap ∧ va_D (va_A [(h0, .inr (1, [.null, .null, .int 0]))] sz) (wT_init cI h0 u)) (va_A [(h0, .inr (1, [.null, .null, .int 0]))] sz)) 2 20 (va_A [(h0, .inr (1, [.null, .null, .int 0]))] sz) := by
  refine Met.ofW (cc := c_T_init) (maxL := 1) (ret := none) (by decide) rfl ?_
  intro p e s m args below meth c s₁ B hml hv
  obtain ⟨rfl, hsz, hP, hK, hD0, hN⟩ := hv
  have hx := B.exec
  have hb := B.bytes
  have hr := B.returns
  have hts := atoms_spec (ws := ws_T_init) B.pre
  have hown : s.vm.findClass "FlowGate$Types" = some m.cls := findClass_of_methodNamed B.named
  have hlocks := B.notSynchronized
  have hin : meth.name = "<init>" := (name_of_methodNamed B.named B.method).1
  subst hsz
  have hD := hD0.self (sz := s.heap.size)
  generalize hAe : va_A [(h0, .inr (1, [.null, .null, .int 0]))] s.heap.size = A at hD ⊢
  have hA : ∀ q : Nat, s.heap.size ≤ q → A q := fun q h => by rw [← hAe]; exact Or.inr h
  have hS : va_S A s.heap s.heap [] := va_S.rf
  have hP : va_P (dC, dI) vwCl [(h0, .inr (1, [.null, .null, .int 0]))] s.heap := hP
  have hl := lv_entry ([.ref h0]) (n := 1) (Nat.le_of_ble_eq_true rfl)
  rw [lg_entry_eq]
  generalize (lg_sl ([.ref h0]) ++ List.replicate (1 - (lg_sl ([.ref h0])).length) Slot.unset).toArray = ls at hl ⊢
  have hl : lv_has ls 1 [(0, .ref h0)] := hl
  refine lv_aload_n hx hb d_T_init_0 rfl (lv_at hl 0 rfl) ?_
  refine W.objInit hx hb hown (hts _ (mc m_ml_T_3)) (hts _ (mc m_im_JO)) (hts _ (mc m_co_JO)) rfl (by rw [hml]; exact hl.1) rfl d_T_init_1 (Nat.le_of_ble_eq_true rfl) (Nat.le_of_ble_eq_true rfl) ?_
  refine W.eq (g2 := F0 m 4 ls []) rfl ?_
  refine lv_aload_n hx hb d_T_init_4 rfl (lv_at hl 0 rfl) ?_
  refine lv_bipush (v := 10) hx hb d_T_init_5 (by decide) ?_
  refine n_newI (N' := 10) hx hb (hts _ (mc m_ac_int)) hK hP hD hS hA (by decide) (by decide) (by decide) (by decide) (by decide) d_T_init_7 (fun q7 H hP hD hS => ?_)
  have hP : va_P (dC, dI) vwCl [(h0, .inr (1, [.null, .null, .int 0])), (q7, .inl (cI 0, 10, .inl (fun _ => 0)))] H := hP
  have hD : va_D A [(h0, .inr (1, [.null, .null, .int 0])), (q7, .inl (cI 0, 10, .inl (fun _ => 0)))] := hD
  refine W.widen (k := 1) (n := 10) (by decide) (by decide) ?_
  refine va_putF (D := (dC, dI)) (ci := 1) (v := .ref q7) (ty := (ty_T 0)) (C := "FlowGate$Types") (T := T_T) (N := 3) hx hb hts (fun w hw => mc (in_T w hw)) ty_T ty_T_ok nm_T hown hK hP hD hS 0 rfl rfl 0 (by decide) (hts _ (mc m_fl_T_9)) (fun _ h9 => h9) rfl hin rfl (by decide +kernel) rfl rfl (Nat.le_of_ble_eq_true rfl) d_T_init_9 (fun H locs hP hD hS => ?_)
  have hP : va_P (dC, dI) vwCl [(h0, .inr (1, [.ref q7, .null, .int 0])), (q7, .inl (cI 0, 10, .inl (fun _ => 0)))] H := hP
  have hD : va_D A [(h0, .inr (1, [.ref q7, .null, .int 0])), (q7, .inl (cI 0, 10, .inl (fun _ => 0)))] := hD
  refine lv_aload_n hx hb d_T_init_12 rfl (lv_at hl 0 rfl) ?_
  refine lv_bipush (v := 10) hx hb d_T_init_13 (by decide) ?_
  refine n_newZ (N' := 10) hx hb (hts _ (mc m_ac_boolean)) hK hP hD hS hA (by decide) (by decide) (by decide) (by decide) (by decide) d_T_init_15 (fun q15 H hP hD hS => ?_)
  have hP : va_P (dC, dI) vwCl [(h0, .inr (1, [.ref q7, .null, .int 0])), (q7, .inl (cI 0, 10, .inl (fun _ => 0))), (q15, .inl (cI 1, 10, .inl (fun _ => 0)))] H := hP
  have hD : va_D A [(h0, .inr (1, [.ref q7, .null, .int 0])), (q7, .inl (cI 0, 10, .inl (fun _ => 0))), (q15, .inl (cI 1, 10, .inl (fun _ => 0)))] := hD
  refine W.widen (k := 2) (n := 20) (by decide) (by decide) ?_
  refine va_putF (D := (dC, dI)) (ci := 1) (v := .ref q15) (ty := (ty_T 1)) (C := "FlowGate$Types") (T := T_T) (N := 3) hx hb hts (fun w hw => mc (in_T w hw)) ty_T ty_T_ok nm_T hown hK hP hD hS 0 rfl rfl 1 (by decide) (hts _ (mc m_fl_T_15)) (fun _ h9 => h9) rfl hin rfl (by decide +kernel) rfl rfl (Nat.le_of_ble_eq_true rfl) d_T_init_17 (fun H locs hP hD hS => ?_)
  have hP : va_P (dC, dI) vwCl [(h0, .inr (1, [.ref q7, .ref q15, .int 0])), (q7, .inl (cI 0, 10, .inl (fun _ => 0))), (q15, .inl (cI 1, 10, .inl (fun _ => 0)))] H := hP
  have hD : va_D A [(h0, .inr (1, [.ref q7, .ref q15, .int 0])), (q7, .inl (cI 0, 10, .inl (fun _ => 0))), (q15, .inl (cI 1, 10, .inl (fun _ => 0)))] := hD
  refine lv_aload_n hx hb d_T_init_20 rfl (lv_at hl 0 rfl) ?_
  refine va_get (D := (dC, dI)) (ci := 1) (v := .ref q7) (C := "FlowGate$Types") (T := T_T) (N := 3) hx hb hts (fun w hw => mc (in_T w hw)) hown hK hP 0 rfl rfl 0 (by decide) (hts _ (mc m_fl_T_9)) (fun _ h9 => h9) rfl d_T_init_21 ?_
  refine lv_iconst (v := 0) hx hb d_T_init_24 (by decide) ?_
  refine lv_iconst (v := 1) hx hb d_T_init_25 (by decide) ?_
  refine va_iast hx hb hK hP hD hS 1 0 rfl rfl (i := 0) (x := 1) (by unfold vp_in; decide) d_T_init_26 (fun H locs hP hD hS => ?_)
  have hP : va_P (dC, dI) vwCl [(h0, .inr (1, [.ref q7, .ref q15, .int 0])), (q7, .inl (cI 0, 10, .inl (upd (fun _ => 0) 0 1))), (q15, .inl (cI 1, 10, .inl (fun _ => 0)))] H := hP
  have hD : va_D A [(h0, .inr (1, [.ref q7, .ref q15, .int 0])), (q7, .inl (cI 0, 10, .inl (upd (fun _ => 0) 0 1))), (q15, .inl (cI 1, 10, .inl (fun _ => 0)))] := hD
  refine lv_aload_n hx hb d_T_init_27 rfl (lv_at hl 0 rfl) ?_
  refine va_get (D := (dC, dI)) (ci := 1) (v := .ref q7) (C := "FlowGate$Types") (T := T_T) (N := 3) hx hb hts (fun w hw => mc (in_T w hw)) hown hK hP 0 rfl rfl 0 (by decide) (hts _ (mc m_fl_T_9)) (fun _ h9 => h9) rfl d_T_init_28 ?_
  refine lv_iconst (v := 1) hx hb d_T_init_31 (by decide) ?_
  refine lv_iconst (v := 3) hx hb d_T_init_32 (by decide) ?_
  refine va_iast hx hb hK hP hD hS 1 0 rfl rfl (i := 1) (x := 3) (by unfold vp_in; decide) d_T_init_33 (fun H locs hP hD hS => ?_)
  have hP : va_P (dC, dI) vwCl [(h0, .inr (1, [.ref q7, .ref q15, .int 0])), (q7, .inl (cI 0, 10, .inl (upd (upd (fun _ => 0) 0 1) 1 3))), (q15, .inl (cI 1, 10, .inl (fun _ => 0)))] H := hP
  have hD : va_D A [(h0, .inr (1, [.ref q7, .ref q15, .int 0])), (q7, .inl (cI 0, 10, .inl (upd (upd (fun _ => 0) 0 1) 1 3))), (q15, .inl (cI 1, 10, .inl (fun _ => 0)))] := hD
  refine lv_aload_n hx hb d_T_init_34 rfl (lv_at hl 0 rfl) ?_
  refine lv_iconst (v := 2) hx hb d_T_init_35 (by decide) ?_
  refine va_put (D := (dC, dI)) (ci := 1) (v := .int 2) (ty := .int) (C := "FlowGate$Types") (T := T_T) (N := 3) hx hb hts (fun w hw => mc (in_T w hw)) ty_T ty_T_ok nm_T hown hK hP hD hS 0 rfl rfl 2 (by decide) (hts _ (mc m_fl_T_19)) (fun _ h9 => h9) rfl (by decide +kernel) rfl rfl (Nat.le_of_ble_eq_true rfl) d_T_init_36 (fun H locs hP hD hS => ?_)
  have hP : va_P (dC, dI) vwCl [(h0, .inr (1, [.ref q7, .ref q15, .int 2])), (q7, .inl (cI 0, 10, .inl (upd (upd (fun _ => 0) 0 1) 1 3))), (q15, .inl (cI 1, 10, .inl (fun _ => 0)))] H := hP
  have hD : va_D A [(h0, .inr (1, [.ref q7, .ref q15, .int 2])), (q7, .inl (cI 0, 10, .inl (upd (upd (fun _ => 0) 0 1) 1 3))), (q15, .inl (cI 1, 10, .inl (fun _ => 0)))] := hD
  exact W.vret hx hb hr (fun t ht hW => ⟨⟨fun j => ([q7, q15] : List Nat).getD j 0, rfl, trivial, by rw [ht]; exact hP, hD⟩, hS.F ht⟩) hS.2.2 d_T_init_39
def wO_init (cI : Nat → ClassId) (h0 a1 a2 : Nat) (u : Nat → Nat) : va_W := [(h0, .inr (3, [.ref a1, .ref a2]))]
set_option maxHeartbeats 4000000 in
set_option maxRecDepth 100000 in
theorem ci_O_init (l : Launch) (dC : Nat → ClassId) (dI : Nat → Nat → Nat) (cI : Nat → ClassId) (h0 a1 a2 sz : Nat) : Met l y_O_init ws_O_init ({ frames := 1, cells := 0, slots := 0, locals := 20 }) (va_Pc [.ref h0, .ref a1, .ref a2] (fun U => U.heap.size = sz ∧ va_P (dC, dI) vwCl [(h0, .inr (3, [.null, .null]))] U.heap ∧ va_K (dC, dI) vwCl (ztys cI) U ∧ va_D (fun _ => True) [(h0, .inr (3, [.null, .null]))] ∧ Nst U)) (va_Qv (fun _ : Nat → Nat => True) (fun u t => va_P (dC, dI) vwCl (wO_init cI h0 a1 a2 u) t.heap ∧ va_D (va_A [(h0, .inr (3, [.null, .null]))] sz) (wO_init cI h0 a1 a2 u)) (va_A [(h0, .inr (3, [.null, .null]))] sz)) 0 0 (va_A [(h0, .inr (3, [.null, .null]))] sz) := by
  refine Met.ofW (cc := c_O_init) (maxL := 3) (ret := none) (by decide) rfl ?_
  intro p e s m args below meth c s₁ B hml hv
  obtain ⟨rfl, hsz, hP, hK, hD0, hN⟩ := hv
  have hx := B.exec
  have hb := B.bytes
  have hr := B.returns
  have hts := atoms_spec (ws := ws_O_init) B.pre
  have hown : s.vm.findClass "FlowGate$Form" = some m.cls := findClass_of_methodNamed B.named
  have hlocks := B.notSynchronized
  have hin : meth.name = "<init>" := (name_of_methodNamed B.named B.method).1
  subst hsz
  have hD := hD0.self (sz := s.heap.size)
  generalize hAe : va_A [(h0, .inr (3, [.null, .null]))] s.heap.size = A at hD ⊢
  have hA : ∀ q : Nat, s.heap.size ≤ q → A q := fun q h => by rw [← hAe]; exact Or.inr h
  have hS : va_S A s.heap s.heap [] := va_S.rf
  have hP : va_P (dC, dI) vwCl [(h0, .inr (3, [.null, .null]))] s.heap := hP
  have hl := lv_entry ([.ref h0, .ref a1, .ref a2]) (n := 3) (Nat.le_of_ble_eq_true rfl)
  rw [lg_entry_eq]
  generalize (lg_sl ([.ref h0, .ref a1, .ref a2]) ++ List.replicate (3 - (lg_sl ([.ref h0, .ref a1, .ref a2])).length) Slot.unset).toArray = ls at hl ⊢
  have hl : lv_has ls 3 [(0, .ref h0), (1, .ref a1), (2, .ref a2)] := hl
  refine lv_aload_n hx hb d_O_init_0 rfl (lv_at hl 0 rfl) ?_
  refine W.objInit hx hb hown (hts _ (mc m_ml_O_3)) (hts _ (mc m_im_JO)) (hts _ (mc m_co_JO)) rfl (by rw [hml]; exact hl.1) rfl d_O_init_1 (Nat.le_of_ble_eq_true rfl) (Nat.le_of_ble_eq_true rfl) ?_
  refine W.eq (g2 := F0 m 4 ls []) rfl ?_
  refine lv_aload_n hx hb d_O_init_4 rfl (lv_at hl 0 rfl) ?_
  refine lv_aload_n hx hb d_O_init_5 rfl (lv_at hl 1 rfl) ?_
  refine va_putF (D := (dC, dI)) (ci := 3) (v := .ref a1) (ty := (ty_O 0)) (C := "FlowGate$Form") (T := T_O) (N := 2) hx hb hts (fun w hw => mc (in_O w hw)) ty_O ty_O_ok nm_O hown hK hP hD hS 0 rfl rfl 0 (by decide) (hts _ (mc m_fl_O_9)) (fun _ h9 => h9) rfl hin rfl (by decide +kernel) rfl rfl (Nat.le_of_ble_eq_true rfl) d_O_init_6 (fun H locs hP hD hS => ?_)
  have hP : va_P (dC, dI) vwCl [(h0, .inr (3, [.ref a1, .null]))] H := hP
  have hD : va_D A [(h0, .inr (3, [.ref a1, .null]))] := hD
  refine lv_aload_n hx hb d_O_init_9 rfl (lv_at hl 0 rfl) ?_
  refine lv_aload_n hx hb d_O_init_10 rfl (lv_at hl 2 rfl) ?_
  refine va_putF (D := (dC, dI)) (ci := 3) (v := .ref a2) (ty := (ty_O 1)) (C := "FlowGate$Form") (T := T_O) (N := 2) hx hb hts (fun w hw => mc (in_O w hw)) ty_O ty_O_ok nm_O hown hK hP hD hS 0 rfl rfl 1 (by decide) (hts _ (mc m_fl_O_15)) (fun _ h9 => h9) rfl hin rfl (by decide +kernel) rfl rfl (Nat.le_of_ble_eq_true rfl) d_O_init_11 (fun H locs hP hD hS => ?_)
  have hP : va_P (dC, dI) vwCl [(h0, .inr (3, [.ref a1, .ref a2]))] H := hP
  have hD : va_D A [(h0, .inr (3, [.ref a1, .ref a2]))] := hD
  exact W.vret hx hb hr (fun t ht hW => ⟨⟨fun j => ([] : List Nat).getD j 0, rfl, trivial, by rw [ht]; exact hP, hD⟩, hS.F ht⟩) hS.2.2 d_O_init_14
