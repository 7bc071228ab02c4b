theorem m_ao : Cond.arrayOver (.object "FlowGate$Frame") ∈ lw_tbl := List.mem_of_getElem? (i := 197) (by decide +kernel)
theorem m_ns : ∀ q ∈ nsM, Cond.methodLinkNest q.1 q.2.1 q.2.2.1 q.2.2.2 ∈ lw_tbl := by
  have h : (nsM.map (fun q => Cond.methodLinkNest q.1 q.2.1 q.2.2.1 q.2.2.2)).all (fun w => decide (w ∈ lw_tbl)) = true := by decide +kernel
  intro q hq
  have h1 := List.all_eq_true.mp h _ (List.mem_map.mpr ⟨q, hq, rfl⟩)
  exact of_decide_eq_true h1
/-! THE CLAIM OUT OF ONE WALK OF THE LAW'S BODY. Your part is whole_start (and what it stands on); all else here is the same for every law, but numbers. -/
def R_law : String := "FlowGateLaw"
def lw_P (b : Addr) (xs : List Int32) (args : Array Value) (s : State) : Prop := args = #[.ref b] ∧ s.IntsAt b xs ∧ xs.length ≤ 2560 ∧ (Jvm.Cond.and given_1 narrow_1).before args s = true
def lw_Q (_ : Array Value) (s : State) (o : Outcome) (t : State) : Prop := o = .returned (some (.int 1)) ∧ Framed s o t [] 600000 7302249
def lw_Z (below : List Frame) (a : Array Value) (s : State) : State → Prop := fun t => ∃ o, t.status = .running ∧ Ended t below o ∧ lw_Q a s o t
/-- the law's own end, with 1 on the stack, nothing written that was there before, its room as the claim has it -/
theorem lw_ret {p : Program} {l : Launch} {e : Env} {s : State} {m : MethodId} {below : List Frame} {meth : Method} {c : Code} {b : Nat} (hx : p.tables.exec = Jvm.exec) (hb : c.code = code) (hr : meth.sig.returnType = ret) (hlocks : meth.locks = false) {pc : Nat} {H : Heap} {ls : Array Slot} (hdg : decode code pc = .ok (.ireturn, 1)) : W p l e room_1 s m #[Value.ref b] below meth c H [] 600000 7302249 (lw_Z below #[Value.ref b] s) (F0 m pc ls [.int 1]) := by
  intro T hT X
  obtain ⟨fs, hret, hrun, hended, hW, hframe⟩ := X.leave (v := some (.int 1)) (hlocks := hlocks) (fun h => by rw [hr] at h; cases h)
  have hmeth' : T.vm.method? m = some meth := X.method'
  refine ⟨T.setFrames fs, ?_, .returned (some (.int 1)), hrun, hended, rfl, ⟨_, rfl⟩, hW, hframe⟩
  jvm_step X.here [X.here.top, hx, hb, hdg, hmeth', hr, ret, narrow_b1]
  (try refine ⟨rfl, ?_⟩); (try refine ⟨rfl, ?_⟩)
  first | (intro acts; rw [hret _ acts rfl rfl rfl]) | rw [hret _ _ rfl rfl rfl]
  exact Steps.refl _
/-- what holds at the law's entry: the machine, the code, the tables' words (any of lw_tbl by 'hts w (by decide +kernel)'), the script of L ints xs at the cell b, what the Statement gives of the start (any of its parts by flat_of_before) -/
def lw_At (p : Program) (s : State) (m : MethodId) (meth : Method) (c : Code) (b L : Nat) (xs : Nat → Int32) : Prop :=
  p.tables.exec = Jvm.exec ∧ c.code = code ∧ meth.sig.returnType = ret ∧ c.maxLocals = 4 ∧ s.vm.findClass R_law = some m.cls ∧ (∀ w ∈ lw_tbl, w.before #[Value.ref b] s = true) ∧ va_X b L xs s s.heap ∧ b < s.heap.size ∧ meth.locks = false ∧ (Jvm.Cond.and given_1 narrow_1).before #[Value.ref b] s = true
set_option maxHeartbeats 8000000 in
set_option maxRecDepth 100000 in
theorem whole_open {Rel : Nat → Mm → Mm → Prop} (hsim : SimAll 2560 Rel) {p : Program} {e : Env} {s : State} {m : MethodId} {below : List Frame} {meth : Method} {c : Code} (l : Launch) {b L : Nat} {xs : Nat → Int32} (hL : L ≤ 2560) (C0 : lw_At p s m meth c b L xs) : W p l e room_1 s m #[Value.ref b] below meth c s.heap [] 0 0 (lw_Z below #[Value.ref b] s) (entryFrame m ([Value.ref b] : List Value).toArray 4) := by
  obtain ⟨hx, hb, hr, hml, hown, hts, hX, hbl, hlocks, hgv⟩ := id C0
  have hA : ∀ q : Nat, s.heap.size ≤ q → (fun q : Nat => s.heap.size ≤ q) q := fun _ h => h
  have hbA : ¬ (fun q : Nat => s.heap.size ≤ q) b := Nat.not_le.mpr hbl
  obtain ⟨c0, iS0, hKn0⟩ := u_known (C := "FlowGate") (T := T_G) (N := 6) (n := 6) hts (fun w hw => AW_tbl (in_G w hw)) (hts _ (AW_tbl m_is_G))
  obtain ⟨c1, iS1, hKn1⟩ := u_known (C := "FlowGate$Types") (T := T_T) (N := 3) (n := 3) hts (fun w hw => AW_tbl (in_T w hw)) (hts _ (AW_tbl m_is_T))
  obtain ⟨c2, iS2, hKn2⟩ := u_known (C := "FlowGate$Method") (T := T_M) (N := 14) (n := 14) hts (fun w hw => AW_tbl (in_M w hw)) (hts _ (AW_tbl m_is_M))
  obtain ⟨c3, iS3, hKn3⟩ := u_known (C := "FlowGate$Form") (T := T_O) (N := 2) (n := 2) hts (fun w hw => AW_tbl (in_O w hw)) (hts _ (AW_tbl m_is_O))
  obtain ⟨c4, iS4, hKn4⟩ := u_known (C := "FlowGate$Flow") (T := T_W) (N := 12) (n := 12) hts (fun w hw => AW_tbl (in_W w hw)) (hts _ (AW_tbl m_is_W))
  obtain ⟨c5, iS5, hKn5⟩ := u_known (C := "FlowGate$Frame") (T := T_R) (N := 5) (n := 5) hts (fun w hw => AW_tbl (in_R w hw)) (hts _ (AW_tbl m_is_R))
  obtain ⟨c6, iS6, hKn6⟩ := u_known (C := "FlowGateModel") (T := T_D) (N := 42) (n := 42) hts (fun w hw => AW_tbl (in_D w hw)) (hts _ (AW_tbl m_is_D))
  obtain ⟨dC, dI, hKc⟩ : ∃ (dC : Nat → ClassId) (dI : Nat → Nat → Nat), ∀ (k : Nat) (q : vw_C), vwCl[k]? = some q → u_Kn s q.1 q.2.1 q.2.2 (dC k) (dI k) := by
    refine ⟨fun k => if k = 0 then c0 else if k = 1 then c1 else if k = 2 then c2 else if k = 3 then c3 else if k = 4 then c4 else if k = 5 then c5 else c6, fun k => if k = 0 then iS0 else if k = 1 then iS1 else if k = 2 then iS2 else if k = 3 then iS3 else if k = 4 then iS4 else if k = 5 then iS5 else iS6, ?_⟩
    intro k q hq
    match k, hq with
    | 0, hq => cases hq; exact hKn0
    | 1, hq => cases hq; exact hKn1
    | 2, hq => cases hq; exact hKn2
    | 3, hq => cases hq; exact hKn3
    | 4, hq => cases hq; exact hKn4
    | 5, hq => cases hq; exact hKn5
    | 6, hq => cases hq; exact hKn6
    | k + 7, hq => simp [vwCl] at hq
  obtain ⟨cA0, kA0, cm0, f01, f02, f03⟩ := Cond.arrayClass_spec (hts _ (AW_tbl m_ac_int))
  obtain ⟨cA1, kA1, cm1, f11, f12, f13⟩ := Cond.arrayClass_spec (hts _ (AW_tbl m_ac_boolean))
  obtain ⟨cA2, kA2, cm2, f21, f22, f23⟩ := Cond.arrayClass_spec (hts _ (AW_tbl m_ac_long))
  obtain ⟨cm3, cA3, kA3, g1, g2, g3, g4, g5⟩ := Cond.arrayOver_spec (hts _ m_ao)
  obtain ⟨cI, hK⟩ : ∃ cI : Nat → ClassId, va_K (dC, dI) vwCl (ztys cI) s := by
    refine ⟨fun k => if k = 0 then cA0 else if k = 1 then cA1 else if k = 2 then cA2 else cA3, hKc, ?_⟩
    intro k q hq
    match k, hq with
    | 0, hq => cases hq; exact ⟨fun n z => ⟨fun k h => (by cases h), kA0, f02, cm0, f03⟩, f01⟩
    | 1, hq => cases hq; exact ⟨fun n z => ⟨fun k h => (by cases h), kA1, f12, cm1, f13⟩, f11⟩
    | 2, hq => cases hq; exact ⟨fun n z => ⟨fun k h => (by cases h), kA2, f22, cm2, f23⟩, f21⟩
    | 3, hq => cases hq; exact ⟨fun n z => ⟨fun k h => (by cases h), kA3, g3, cm3, g4⟩, kA3, cm3, g3, g4, g1, g5⟩
    | k + 4, hq => simp [ztys] at hq
  have hN : Nst s := ⟨fun q hq => va_Nw.of rfl (hts _ (m_ns q hq)), va_AO.of (hts _ m_ao)⟩
  have hS : va_S (fun q : Nat => s.heap.size ≤ q) s.heap s.heap [] := va_S.rf
  have hP : va_P (dC, dI) vwCl [] s.heap := fun k q h => by simp at h
  have hD : va_D (fun q : Nat => s.heap.size ≤ q) [] := ⟨fun i j p q h => by simp at h, fun k q h => by simp at h⟩
  have hl := lv_entry ([.ref b]) (n := 4) (Nat.le_of_ble_eq_true rfl)
  rw [lg_entry_eq]
  generalize (lg_sl ([.ref b]) ++ List.replicate (4 - (lg_sl ([.ref b])).length) Slot.unset).toArray = ls at hl ⊢
  have hl : lv_has ls 4 [(0, .ref b)] := hl
  refine va_new (ci := 0) (fs := [.null, .null, .null, .null, .int 0, .int 0]) (C := "FlowGate") (T := T_G) (N := 6) hx hb hts (fun w hw => AW_tbl (in_G w hw)) ty_G ty_G_ok hown (hts _ (AW_tbl m_cl_L_7)) (hts _ (AW_tbl m_is_G)) (hts _ (AW_tbl m_in_G)) hK hP hD hS hA rfl (fun j hj => by rcases (show j = 0 ∨ j = 1 ∨ j = 2 ∨ j = 3 ∨ j = 4 ∨ j = 5 by omega) with rfl | rfl | rfl | rfl | rfl | rfl <;> rfl) (Nat.le_of_ble_eq_true rfl) (Nat.le_of_ble_eq_true rfl) d_L_law_0 (fun q0 H hP hD hS => ?_)
  have hP : va_P (dC, dI) vwCl [(q0, .inr (0, [.null, .null, .null, .null, .int 0, .int 0]))] H := hP
  have hD : va_D (fun q : Nat => s.heap.size ≤ q) [(q0, .inr (0, [.null, .null, .null, .null, .int 0, .int 0]))] := hD
  refine W.widen (k := 1) (n := 6) (by omega) (by omega) ?_
  refine lv_dup hx hb d_L_law_3 rfl ?_
  have hPc := hP
  have hDc := hD
  have hFc := va_free (wc := [(q0, .inr (0, [.null, .null, .null, .null, .int 0, .int 0]))]) hD hS hA [0] rfl
  refine va_callv (va_runI (As := []) (rest := [.ref q0]) ⟨hx, hb, hml, hown, hts⟩ (ci_G_init l dC dI cI q0 H.size) (cwI 0 hts (g_CL m_co_G_init) rfl rfl rfl (hts _ (AW_tbl m_in_G)) (hts _ (AW_tbl m_ml_L_9)) (hts _ (AW_tbl m_im_G_init)) rfl (by decide +kernel) ⟨Nat.le_of_ble_eq_true rfl, Nat.le_of_ble_eq_true rfl⟩) ⟨fun a U g mk q => by obtain ⟨q0, q1, qP, qK, qD, qN⟩ := q; exact ⟨q0, q1, qP, va_K.moved (u := U) (U := U.calling g mk a) (Vm.Alike.refl U.vm) qK, qD, fun w hw => va_Nw.same rfl rfl (qN.1 w hw), va_AO.moved (u := U) (U := U.calling g mk a) (Vm.Alike.refl U.vm) qN.2⟩, fun U hU hW => ⟨rfl, by rw [hU], by rw [hU]; exact hPc, va_K.moved hW.alike hK, hDc.weaken (fun _ _ _ _ => trivial), fun q hq => va_Nw.warmM hW (hN.1 q hq), va_AO.moved hW.alike hN.2⟩⟩ rfl rfl hl.1 rfl (lv_room (Nat.le_of_ble_eq_true rfl)) d_L_law_4 ⟨Nat.le_of_ble_eq_true rfl, Nat.le_of_ble_eq_true rfl⟩) hS (fun q _ h => hFc q h) hFc (fun u t H1 locs ht hvm hw hB hz1 hk1 hS => ?_)
  obtain ⟨hP1, hD1⟩ := hB
  rw [ht] at hP1
  obtain ⟨hP, hD⟩ := va_join (wr := []) (w1 := wG_init cI q0 u) hP hD [0] [] rfl rfl (by decide) (by decide) hk1 hFc hP1 hD1
  have hP : va_P (dC, dI) vwCl (wG_init cI q0 u) H1 := hP
  have hD : va_D (fun q : Nat => s.heap.size ≤ q) (wG_init cI q0 u) := hD
  generalize H1 = H at hP hS ⊢
  refine W.widen (k := 219) (n := 4261) (by omega) (by omega) ?_
  refine lv_astore_n (lv' := [(1, .ref q0), (0, .ref b)]) hx hb d_L_law_7 rfl hl (by decide) rfl (fun ls hl => ?_)
  generalize hW0 : wG_init cI q0 u = W0 at hP hD
  refine va_new (ci := 6) (fs := [.null, .null, .int 0, .null, .null, .null, .null, .null, .null, .null, .null, .int 0, .int 0, .int 0, .int 0, .int 0, .int 0, .null, .null, .null, .null, .null, .null, .null, .null, .null, .null, .null, .null, .null, .null, .int 0, .int 0, .int 0, .int 0, .int 0, .int 0, .int 0, .int 0, .long 0, .long 0, .long 0]) (C := "FlowGateModel") (T := T_D) (N := 42) hx hb hts (fun w hw => AW_tbl (in_D w hw)) ty_D ty_D_ok hown (hts _ (AW_tbl m_cl_L_10)) (hts _ (AW_tbl m_is_D)) (hts _ (AW_tbl m_in_D)) hK hP hD hS hA rfl (fun j hj => by rcases (show j = 0 ∨ j = 1 ∨ j = 2 ∨ j = 3 ∨ j = 4 ∨ j = 5 ∨ j = 6 ∨ j = 7 ∨ j = 8 ∨ j = 9 ∨ j = 10 ∨ j = 11 ∨ j = 12 ∨ j = 13 ∨ j = 14 ∨ j = 15 ∨ j = 16 ∨ j = 17 ∨ j = 18 ∨ j = 19 ∨ j = 20 ∨ j = 21 ∨ j = 22 ∨ j = 23 ∨ j = 24 ∨ j = 25 ∨ j = 26 ∨ j = 27 ∨ j = 28 ∨ j = 29 ∨ j = 30 ∨ j = 31 ∨ j = 32 ∨ j = 33 ∨ j = 34 ∨ j = 35 ∨ j = 36 ∨ j = 37 ∨ j = 38 ∨ j = 39 ∨ j = 40 ∨ j = 41 by omega) with rfl | rfl | rfl | rfl | rfl | rfl | rfl | rfl | rfl | rfl | rfl | rfl | rfl | rfl | rfl | rfl | rfl | rfl | rfl | rfl | rfl | rfl | rfl | rfl | rfl | rfl | rfl | rfl | rfl | rfl | rfl | rfl | rfl | rfl | rfl | rfl | rfl | rfl | rfl | rfl | rfl | rfl <;> rfl) (Nat.le_of_ble_eq_true rfl) (Nat.le_of_ble_eq_true rfl) d_L_law_8 (fun q8 H hP hD hS => ?_)
  refine W.widen (k := 220) (n := 4303) (by omega) (by omega) ?_
  refine lv_dup hx hb d_L_law_11 rfl ?_
  have hPc := hP.sub (ws' := [(q8, .inr (6, [.null, .null, .int 0, .null, .null, .null, .null, .null, .null, .null, .null, .int 0, .int 0, .int 0, .int 0, .int 0, .int 0, .null, .null, .null, .null, .null, .null, .null, .null, .null, .null, .null, .null, .null, .null, .int 0, .int 0, .int 0, .int 0, .int 0, .int 0, .int 0, .int 0, .long 0, .long 0, .long 0]))]) [W0.length] (by simp)
  have hDc := hD.sub (ws' := [(q8, .inr (6, [.null, .null, .int 0, .null, .null, .null, .null, .null, .null, .null, .null, .int 0, .int 0, .int 0, .int 0, .int 0, .int 0, .null, .null, .null, .null, .null, .null, .null, .null, .null, .null, .null, .null, .null, .null, .int 0, .int 0, .int 0, .int 0, .int 0, .int 0, .int 0, .int 0, .long 0, .long 0, .long 0]))]) [W0.length] (by simp [va_nd]) (by simp)
  have hFc := va_free (wc := [(q8, .inr (6, [.null, .null, .int 0, .null, .null, .null, .null, .null, .null, .null, .null, .int 0, .int 0, .int 0, .int 0, .int 0, .int 0, .null, .null, .null, .null, .null, .null, .null, .null, .null, .null, .null, .null, .null, .null, .int 0, .int 0, .int 0, .int 0, .int 0, .int 0, .int 0, .int 0, .long 0, .long 0, .long 0]))]) hD hS hA [W0.length] (by simp)
  refine va_callv (va_runI (As := []) (rest := [.ref q8]) ⟨hx, hb, hml, hown, hts⟩ (ci_D_init l dC dI cI q8 H.size) (cwI 0 hts (g_CL m_co_D_init) rfl rfl rfl (hts _ (AW_tbl m_in_D)) (hts _ (AW_tbl m_ml_L_12)) (hts _ (AW_tbl m_im_D_init)) rfl (by decide +kernel) ⟨Nat.le_of_ble_eq_true rfl, Nat.le_of_ble_eq_true rfl⟩) ⟨fun a U g mk q => by obtain ⟨q0, q1, qP, qK, qD, qN⟩ := q; exact ⟨q0, q1, qP, va_K.moved (u := U) (U := U.calling g mk a) (Vm.Alike.refl U.vm) qK, qD, fun w hw => va_Nw.same rfl rfl (qN.1 w hw), va_AO.moved (u := U) (U := U.calling g mk a) (Vm.Alike.refl U.vm) qN.2⟩, fun U hU hW => ⟨rfl, by rw [hU], by rw [hU]; exact hPc, va_K.moved hW.alike hK, hDc.weaken (fun _ _ _ _ => trivial), fun q hq => va_Nw.warmM hW (hN.1 q hq), va_AO.moved hW.alike hN.2⟩⟩ rfl rfl hl.1 rfl (lv_room (Nat.le_of_ble_eq_true rfl)) d_L_law_12 ⟨Nat.le_of_ble_eq_true rfl, Nat.le_of_ble_eq_true rfl⟩) hS (fun q _ h => hFc q h) hFc (fun v t H1 locs ht hvm hw hB hz1 hk1 hS => ?_)
  obtain ⟨hP1, hD1⟩ := hB
  rw [ht] at hP1
  obtain ⟨hP, hD⟩ := join_last hP hD hk1 hFc hP1 hD1
  subst hW0
  generalize H1 = H at hP hS ⊢
  refine W.widen (k := 244) (n := 8343) (by omega) (by omega) ?_
  refine lv_astore_n (lv' := [(2, .ref q8), (1, .ref q0), (0, .ref b)]) hx hb d_L_law_15 rfl hl (by decide) rfl (fun ls hl => ?_)
  refine lv_iconst (v := 0) hx hb d_L_law_16 (by decide) ?_
  refine lv_istore_n (lv' := [(3, .int 0), (2, .ref q8), (1, .ref q0), (0, .ref b)]) hx hb d_L_law_17 rfl hl (by decide) rfl (fun ls hl => ?_)
  have hD2 := st_D cI q0 u q8 v hD
  have hP2 := st_P cI q0 u q8 v hP
  exact law_loop (X := (p, e, room_1, s, m, #[Value.ref b], below, meth, c, lw_Z below #[Value.ref b] s, fun q : Nat => s.heap.size ≤ q, 244, 8343)) (a := aS q0 u q8 v) (D := (dC, dI)) (cI := cI) (l := l) hsim hL (fun Mr => ⟨hx, hb, hml, hown, hts, hlocks, hK, fun M => addr_D (zwL_fst _ _) hD2, hA, ⟨rfl, Nat.le_of_ble_eq_true rfl, Nat.le_of_ble_eq_true rfl⟩, hN⟩) (fun Mc => ⟨hx, hb, hml, hown, hts, hlocks, hK, fun M => addr_D (zwL_fst _ _) hD2, hA, ⟨rfl, Nat.le_of_ble_eq_true rfl, Nat.le_of_ble_eq_true rfl⟩, hN⟩) hX hbl hbA (fun Mc Mr lv H locs ls hP hS hl => lv_iconst (v := 1) hx hb d_L_law_514 (by decide) (va_forget (fun q hq => hS.2.2 q hq) (W.widen (k := 600000) (n := 7302249) (Nat.le_of_ble_eq_true rfl) (Nat.le_of_ble_eq_true rfl) (lw_ret hx hb hr hlocks d_L_law_515)))) (L + 1) 0 (by omega) (by omega) Mc0 Mr0 hsim.1 H _ ls hP2 hS (by show lv_has ls c.maxLocals _; rw [hml]; exact lv_sub hl [3, 2, 1, 0] rfl)
