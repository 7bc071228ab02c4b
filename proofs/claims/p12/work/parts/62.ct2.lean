def wW_init_f (cI : Nat → ClassId) (h0 a1 a2 : Nat) (v : Nat → Nat) (g : Nat → Option Nat) : va_W := [(h0, .inr (4, [.ref a1, .ref a2, .ref (v 0), .ref (v 1), .ref (v 2), .ref (v 3), .ref (v 4), .ref (v 8), .int 0, .int 0, .int 0, .long 0])), ((v 0), .inl (cI 3, 48, .inr (.inr (.inr (.inr g))))), ((v 1), .inl (cI 1, 48, .inl (fun _ => 0))), ((v 2), .inl (cI 1, 48, .inl (fun _ => 0))), ((v 3), .inl (cI 2, 48, .inr (.inl (fun _ => 0)))), ((v 4), .inr (5, [.ref (v 5), .ref (v 6), .int 0, .long 0, .ref (v 7)])), ((v 5), .inl (cI 0, 12, .inl (fun _ => 0))), ((v 6), .inl (cI 0, 12, .inl (fun _ => 0))), ((v 7), .inl (cI 0, 48, .inl (fun _ => 0))), ((v 8), .inr (5, [.ref (v 9), .ref (v 10), .int 0, .long 0, .ref (v 11)])), ((v 9), .inl (cI 0, 12, .inl (fun _ => 0))), ((v 10), .inl (cI 0, 12, .inl (fun _ => 0))), ((v 11), .inl (cI 0, 48, .inl (fun _ => 0)))]
def wW_init_p (cI : Nat → ClassId) (b : Nat → Nat) : Nat → va_W
  | 0 => []
  | k + 1 => wW_init_p cI b k ++ wR_init cI (b (4 * k)) (fun j => b (4 * k + 1 + j))
def wW_init_g (b : Nat → Nat) (k : Nat) : Nat → Option Nat := fun j => if j < k then some (b (4 * j)) else none
def wW_init (cI : Nat → ClassId) (h0 a1 a2 : Nat) (u : Nat → Nat) : va_W := wW_init_f cI h0 a1 a2 u (wW_init_g (fun j => u (12 + j)) 48) ++ wW_init_p cI (fun j => u (12 + j)) 48
theorem wW_init_pc (cI : Nat → ClassId) (b b' : Nat → Nat) : ∀ k, (∀ p, p < 4 * k → b p = b' p) → wW_init_p cI b k = wW_init_p cI b' k
  | 0, _ => rfl
  | k + 1, h => by
    show wW_init_p cI b k ++ wR_init cI (b (4 * k)) (fun j => b (4 * k + 1 + j)) = wW_init_p cI b' k ++ wR_init cI (b' (4 * k)) (fun j => b' (4 * k + 1 + j))
    rw [wW_init_pc cI b b' k (fun p hp => h p (by omega)), h (4 * k) (by omega)]
    congr 1
    show [_, _, _, _] = [_, _, _, _]
    simp only [h (4 * k + 1 + 0) (by omega), h (4 * k + 1 + 1) (by omega), h (4 * k + 1 + 2) (by omega)]
set_option maxHeartbeats 4000000 in
set_option maxRecDepth 100000 in
theorem W_init_loop {p : Program} {l : Launch} {e : Env} {s : State} {m : MethodId} {args : Array Value} {below : List Frame} {meth : Method} {c : Code} {dC : Nat → ClassId} {dI : Nat → Nat → Nat} {cI : Nat → ClassId} {Q : State → Prop} {A : Nat → Prop} (hx : p.tables.exec = Jvm.exec) (hb : c.code = c_W_init) (hml : c.maxLocals = 4) (hown : s.vm.findClass "FlowGate$Flow" = some m.cls) (hts : ∀ w ∈ ws_W_init, w.before args s = true) (hN : Nst s) (hK : va_K (dC, dI) vwCl (ztys cI) s) (hA : ∀ q : Nat, s.heap.size ≤ q → A q) {h0 a1 a2 : Nat} {v : Nat → Nat} (kend : ∀ (b : Nat → Nat) (H : Heap) (locs : List Loc) (ls : Array Slot), va_P (dC, dI) vwCl (wW_init_f cI h0 a1 a2 v (wW_init_g b 48) ++ wW_init_p cI b 48) H → va_D A (wW_init_f cI h0 a1 a2 v (wW_init_g b 48) ++ wW_init_p cI b 48) → va_S A s.heap H locs → W p l e ({ frames := 2, cells := 204, slots := 4042, locals := 40 }) s m args below meth c H locs 204 4042 Q (F0 m 96 ls [])) : ∀ (n k : Nat), 48 - k < n → k ≤ 48 → ∀ (b : Nat → Nat) (H : Heap) (locs : List Loc) (ls : Array Slot), va_P (dC, dI) vwCl (wW_init_f cI h0 a1 a2 v (wW_init_g b k) ++ wW_init_p cI b k) H → va_D A (wW_init_f cI h0 a1 a2 v (wW_init_g b k) ++ wW_init_p cI b k) → va_S A s.heap H locs → lv_has ls 4 [(0, .ref h0), (3, .int (nI k))] → W p l e ({ frames := 2, cells := 204, slots := 4042, locals := 40 }) s m args below meth c H locs (12 + 4 * k) (346 + 77 * k) Q (F0 m 71 ls []) := by
  intro n
  induction n with
  | zero =>
    intro k h1
    omega
  | succ n ih =>
    intro k h1 hk b H locs ls hP hD hS hl
    refine lv_iload_n hx hb d_W_init_71 rfl (lv_at hl 1 rfl) ?_
    refine lv_bipush (v := 48) hx hb d_W_init_72 (by decide) ?_
    refine lv_icmp_ge (tgt := 96) hx hb d_W_init_74 (by decide) (fun c1 => ?_) (fun c1 => ?_)
    · have e1 : k = 48 := by
        rcases Nat.lt_or_ge k 48 with q | q
        · exact absurd (show nI 48 ≤ nI k from c1) (nI_ge q (by decide))
        · omega
      subst e1
      exact kend b H locs ls hP hD hS
    · have hlt : k < 48 := by
        rcases Nat.lt_or_ge k 48 with q | q
        · exact q
        · exact absurd (show nI 48 ≤ nI k from nI_le q (by omega)) c1
      refine lv_aload_n hx hb d_W_init_77 rfl (lv_at hl 0 rfl) ?_
      refine va_get (D := (dC, dI)) (ci := 4) (v := .ref (v 0)) (C := "FlowGate$Flow") (T := T_W) (N := 12) hx hb hts (fun w hw => mc (in_W w hw)) hown hK hP 0 rfl rfl 2 (by decide) (hts _ (mc m_fl_W_11)) (fun _ h9 => h9) rfl d_W_init_78 ?_
      refine lv_iload_n hx hb d_W_init_81 rfl (lv_at hl 1 rfl) ?_
      generalize hW0 : wW_init_f cI h0 a1 a2 v (wW_init_g b k) ++ wW_init_p cI b k = W0 at hP hD
      refine va_new (ci := 5) (fs := [.null, .null, .int 0, .long 0, .null]) (C := "FlowGate$Frame") (T := T_R) (N := 5) hx hb hts (fun w hw => mc (in_R w hw)) ty_R ty_R_ok hown (hts _ (mc m_cl_W_9)) (hts _ (mc m_is_R)) (hts _ (mc m_in_R)) hK hP hD hS hA rfl (fun j hj => by rcases (show j = 0 ∨ j = 1 ∨ j = 2 ∨ j = 3 ∨ j = 4 by omega) with rfl | rfl | rfl | rfl | rfl <;> rfl) (by show 12 + 4 * k + 1 ≤ 204; omega) (by show 346 + 77 * k + 5 ≤ 4042; omega) d_W_init_82 (fun q H hP hD hS => ?_)
      refine lv_dup hx hb d_W_init_85 rfl ?_
      have hPc := hP.sub (ws' := [(q, .inr (5, [.null, .null, .int 0, .long 0, .null]))]) [W0.length] (by simp)
      have hDc := hD.sub (ws' := [(q, .inr (5, [.null, .null, .int 0, .long 0, .null]))]) [W0.length] (by simp [va_nd]) (by simp)
      have hFc := va_free (wc := [(q, .inr (5, [.null, .null, .int 0, .long 0, .null]))]) hD hS hA [W0.length] (by simp)
      refine va_callv (va_runIN (As := []) (rest := [.ref q, .int (nI k), .ref (v 0)]) ⟨hx, hb, hml, hown, hts⟩ (ci_R_init l dC dI cI q H.size) ⟨va_cnB 0 hts (g_C m_co_R_init) rfl rfl rfl (hN.1 ("FlowGate$Flow", 28, y_R_init, "FlowGate") (by decide +kernel)) (hts _ (mc m_in_R)) (by decide +kernel) ⟨by decide, by decide⟩, rfl, hts _ (mc m_im_R_init)⟩ ⟨fun a U g mk q => by obtain ⟨q0, q1, qP, qK, qD, qN⟩ := q; exact ⟨q0, q1, qP, va_K.moved (u := U) (U := U.calling g mk a) (Vm.Alike.refl U.vm) qK, qD, fun w hw => va_Nw.same rfl rfl (qN.1 w hw), va_AO.moved (u := U) (U := U.calling g mk a) (Vm.Alike.refl U.vm) qN.2⟩, fun U hU hW => ⟨rfl, by rw [hU], by rw [hU]; exact hPc, va_K.moved hW.alike hK, hDc.weaken (fun _ _ _ _ => trivial), fun q hq => va_Nw.warmM hW (hN.1 q hq), va_AO.moved hW.alike hN.2⟩⟩ rfl rfl hl.1 rfl (lv_room (Nat.le_of_ble_eq_true rfl)) d_W_init_86 ⟨by show 12 + 4 * k + 1 + 3 ≤ 204; omega, by show 346 + 77 * k + 5 + 72 ≤ 4042; omega⟩) hS (fun q _ h => hFc q h) hFc (fun u t H1 locs ht hvm hw hB hz1 hk1 hS => ?_)
      obtain ⟨hP1, hD1⟩ := hB
      rw [ht] at hP1
      obtain ⟨hP, hD⟩ := join_last hP hD hk1 hFc hP1 hD1
      subst hW0
      refine va_astq hx hb hK hP hD hS 1 3 (wW_init_f cI h0 a1 a2 v (wW_init_g b k) ++ wW_init_p cI b k).length 5 rfl rfl (by rw [List.getElem?_append_right (Nat.le_refl _), Nat.sub_self]; rfl) rfl (vp_in_nI hlt (by decide)) d_W_init_89 (fun H locs hP hD hS => ?_)
      have e2 : ((wW_init_f cI h0 a1 a2 v (wW_init_g b k) ++ wW_init_p cI b k) ++ wR_init cI q u).set 1 ((v 0), .inl (cI 3, 48, .inr (.inr (.inr (.inr (va_up (wW_init_g b k) (nI k).toNatClampNeg (some q))))))) = wW_init_f cI h0 a1 a2 v (wW_init_g (fun p => if p < 4 * k then b p else if p = 4 * k then q else u (p - (4 * k + 1))) (k + 1)) ++ wW_init_p cI (fun p => if p < 4 * k then b p else if p = 4 * k then q else u (p - (4 * k + 1))) (k + 1) := by
        have e3 : va_up (wW_init_g b k) (nI k).toNatClampNeg (some q) = wW_init_g (fun p => if p < 4 * k then b p else if p = 4 * k then q else u (p - (4 * k + 1))) (k + 1) := by
          rw [nI_clamp (by omega)]
          funext j
          unfold va_up wW_init_g
          by_cases h2 : j = k
          · subst h2
            simp
          · by_cases h3 : j < k
            · simp [h2, h3, show j < k + 1 by omega, show 4 * j < 4 * k by omega]
            · simp [h2, h3, show ¬ j < k + 1 by omega]
        have e4 : wW_init_p cI (fun p => if p < 4 * k then b p else if p = 4 * k then q else u (p - (4 * k + 1))) (k + 1) = wW_init_p cI b k ++ wR_init cI q u := by
          rw [wW_init_p, wW_init_pc cI (fun p => if p < 4 * k then b p else if p = 4 * k then q else u (p - (4 * k + 1))) b k (fun p hp => by simp [hp])]
          have e5 : (fun j => (fun p => if p < 4 * k then b p else if p = 4 * k then q else u (p - (4 * k + 1))) (4 * k + 1 + j)) = u := by
            funext j
            show (if 4 * k + 1 + j < 4 * k then _ else if 4 * k + 1 + j = 4 * k then _ else u (4 * k + 1 + j - (4 * k + 1))) = u j
            rw [if_neg (by omega), if_neg (by omega)]
            congr 1
            omega
          rw [e5]
          simp
        rw [← e3, e4, ← List.append_assoc]
        rfl
      rw [e2] at hP hD
      refine lv_iinc (v := nI (k + 1)) (lv' := [(3, .int (nI (k + 1))), (0, .ref h0)]) hx hb d_W_init_90 hl (k := 1) rfl (nI_1 k) (by decide) rfl (fun ls hl => ?_)
      refine lv_goto (tgt := 71) hx hb d_W_init_93 (by decide) ?_
      refine W.widen (k := 12 + 4 * (k + 1)) (n := 346 + 77 * (k + 1)) (by omega) (by omega) ?_
      exact ih (k + 1) (by omega) (by omega) _ H locs ls hP hD hS (lv_sub hl [1, 0] rfl)
set_option maxHeartbeats 4000000 in
set_option maxRecDepth 100000 in
theorem ci_W_init (l : Launch) (dC : Nat → ClassId) (dI : Nat → Nat → Nat) (cI : Nat → ClassId) (h0 a1 a2 sz : Nat) : Met l y_W_init ws_W_init ({ frames := 2, cells := 204, slots := 4042, locals := 40 }) (va_Pc [.ref h0, .ref a1, .ref a2] (fun U => U.heap.size = sz ∧ va_P (dC, dI) vwCl [(h0, .inr (4, [.null, .null, .null, .null, .null, .null, .null, .null, .int 0, .int 0, .int 0, .long 0]))] U.heap ∧ va_K (dC, dI) vwCl (ztys cI) U ∧ va_D (fun _ => True) [(h0, .inr (4, [.null, .null, .null, .null, .null, .null, .null, .null, .int 0, .int 0, .int 0, .long 0]))] ∧ Nst U)) (va_Qv (fun _ : Nat → Nat => True) (fun u t => va_P (dC, dI) vwCl (wW_init cI h0 a1 a2 u) t.heap ∧ va_D (va_A [(h0, .inr (4, [.null, .null, .null, .null, .null, .null, .null, .null, .int 0, .int 0, .int 0, .long 0]))] sz) (wW_init cI h0 a1 a2 u)) (va_A [(h0, .inr (4, [.null, .null, .null, .null, .null, .null, .null, .null, .int 0, .int 0, .int 0, .long 0]))] sz)) 204 4042 (va_A [(h0, .inr (4, [.null, .null, .null, .null, .null, .null, .null, .null, .int 0, .int 0, .int 0, .long 0]))] sz) := by
  refine Met.ofW (cc := c_W_init) (maxL := 4) (ret := none) (by decide) rfl ?_
  intro p e s m args below meth c s₁ B hml hv
  obtain ⟨rfl, hsz, hP, hK, hD0, hN⟩ := hv
  have hx := B.exec
  have hb := B.bytes
  have hr := B.returns
  have hts := atoms_spec (ws := ws_W_init) B.pre
  have hown : s.vm.findClass "FlowGate$Flow" = some m.cls := findClass_of_methodNamed B.named
  have hlocks := B.notSynchronized
  have hin : meth.name = "<init>" := (name_of_methodNamed B.named B.method).1
  subst hsz
  have hD := hD0.self (sz := s.heap.size)
  generalize hAe : va_A [(h0, .inr (4, [.null, .null, .null, .null, .null, .null, .null, .null, .int 0, .int 0, .int 0, .long 0]))] s.heap.size = A at hD ⊢
  have hA : ∀ q : Nat, s.heap.size ≤ q → A q := fun q h => by rw [← hAe]; exact Or.inr h
  have hS : va_S A s.heap s.heap [] := va_S.rf
  have hP : va_P (dC, dI) vwCl [(h0, .inr (4, [.null, .null, .null, .null, .null, .null, .null, .null, .int 0, .int 0, .int 0, .long 0]))] s.heap := hP
  have hl := lv_entry ([.ref h0, .ref a1, .ref a2]) (n := 4) (Nat.le_of_ble_eq_true rfl)
  rw [lg_entry_eq]
  generalize (lg_sl ([.ref h0, .ref a1, .ref a2]) ++ List.replicate (4 - (lg_sl ([.ref h0, .ref a1, .ref a2])).length) Slot.unset).toArray = ls at hl ⊢
  have hl : lv_has ls 4 [(0, .ref h0), (1, .ref a1), (2, .ref a2)] := hl
  refine lv_aload_n hx hb d_W_init_0 rfl (lv_at hl 0 rfl) ?_
  refine W.objInit hx hb hown (hts _ (mc m_ml_W_3)) (hts _ (mc m_im_JO)) (hts _ (mc m_co_JO)) rfl (by rw [hml]; exact hl.1) rfl d_W_init_1 (Nat.le_of_ble_eq_true rfl) (Nat.le_of_ble_eq_true rfl) ?_
  refine W.eq (g2 := F0 m 4 ls []) rfl ?_
  refine lv_aload_n hx hb d_W_init_4 rfl (lv_at hl 0 rfl) ?_
  refine lv_bipush (v := 48) hx hb d_W_init_5 (by decide) ?_
  refine n_newQ (C := "FlowGate$Frame") (kq := 3) (N' := 48) hx hb hown (hts _ (mc m_cl_W_9)) (va_AO.use hN.2) rfl hK hP hD hS hA (by decide) (by decide) (by decide) (by decide) (by decide) d_W_init_7 (fun q7 H hP hD hS => ?_)
  have hP : va_P (dC, dI) vwCl [(h0, .inr (4, [.null, .null, .null, .null, .null, .null, .null, .null, .int 0, .int 0, .int 0, .long 0])), (q7, .inl (cI 3, 48, .inr (.inr (.inr (.inr (fun _ => none))))))] H := hP
  have hD : va_D A [(h0, .inr (4, [.null, .null, .null, .null, .null, .null, .null, .null, .int 0, .int 0, .int 0, .long 0])), (q7, .inl (cI 3, 48, .inr (.inr (.inr (.inr (fun _ => none))))))] := hD
  refine W.widen (k := 1) (n := 48) (by decide) (by decide) ?_
  refine va_putF (D := (dC, dI)) (ci := 4) (v := .ref q7) (ty := (ty_W 2)) (C := "FlowGate$Flow") (T := T_W) (N := 12) hx hb hts (fun w hw => mc (in_W w hw)) ty_W ty_W_ok nm_W hown hK hP hD hS 0 rfl rfl 2 (by decide) (hts _ (mc m_fl_W_11)) (fun _ h9 => h9) rfl hin rfl (by decide +kernel) rfl rfl (Nat.le_of_ble_eq_true rfl) d_W_init_10 (fun H locs hP hD hS => ?_)
  have hP : va_P (dC, dI) vwCl [(h0, .inr (4, [.null, .null, .ref q7, .null, .null, .null, .null, .null, .int 0, .int 0, .int 0, .long 0])), (q7, .inl (cI 3, 48, .inr (.inr (.inr (.inr (fun _ => none))))))] H := hP
  have hD : va_D A [(h0, .inr (4, [.null, .null, .ref q7, .null, .null, .null, .null, .null, .int 0, .int 0, .int 0, .long 0])), (q7, .inl (cI 3, 48, .inr (.inr (.inr (.inr (fun _ => none))))))] := hD
  refine lv_aload_n hx hb d_W_init_13 rfl (lv_at hl 0 rfl) ?_
  refine lv_bipush (v := 48) hx hb d_W_init_14 (by decide) ?_
  refine n_newZ (N' := 48) hx hb (hts _ (mc m_ac_boolean)) hK hP hD hS hA (by decide) (by decide) (by decide) (by decide) (by decide) d_W_init_16 (fun q16 H hP hD hS => ?_)
  have hP : va_P (dC, dI) vwCl [(h0, .inr (4, [.null, .null, .ref q7, .null, .null, .null, .null, .null, .int 0, .int 0, .int 0, .long 0])), (q7, .inl (cI 3, 48, .inr (.inr (.inr (.inr (fun _ => none)))))), (q16, .inl (cI 1, 48, .inl (fun _ => 0)))] H := hP
  have hD : va_D A [(h0, .inr (4, [.null, .null, .ref q7, .null, .null, .null, .null, .null, .int 0, .int 0, .int 0, .long 0])), (q7, .inl (cI 3, 48, .inr (.inr (.inr (.inr (fun _ => none)))))), (q16, .inl (cI 1, 48, .inl (fun _ => 0)))] := hD
  refine W.widen (k := 2) (n := 96) (by decide) (by decide) ?_
  refine va_putF (D := (dC, dI)) (ci := 4) (v := .ref q16) (ty := (ty_W 3)) (C := "FlowGate$Flow") (T := T_W) (N := 12) hx hb hts (fun w hw => mc (in_W w hw)) ty_W ty_W_ok nm_W hown hK hP hD hS 0 rfl rfl 3 (by decide) (hts _ (mc m_fl_W_17)) (fun _ h9 => h9) rfl hin rfl (by decide +kernel) rfl rfl (Nat.le_of_ble_eq_true rfl) d_W_init_18 (fun H locs hP hD hS => ?_)
  have hP : va_P (dC, dI) vwCl [(h0, .inr (4, [.null, .null, .ref q7, .ref q16, .null, .null, .null, .null, .int 0, .int 0, .int 0, .long 0])), (q7, .inl (cI 3, 48, .inr (.inr (.inr (.inr (fun _ => none)))))), (q16, .inl (cI 1, 48, .inl (fun _ => 0)))] H := hP
  have hD : va_D A [(h0, .inr (4, [.null, .null, .ref q7, .ref q16, .null, .null, .null, .null, .int 0, .int 0, .int 0, .long 0])), (q7, .inl (cI 3, 48, .inr (.inr (.inr (.inr (fun _ => none)))))), (q16, .inl (cI 1, 48, .inl (fun _ => 0)))] := hD
  refine lv_aload_n hx hb d_W_init_21 rfl (lv_at hl 0 rfl) ?_
  refine lv_bipush (v := 48) hx hb d_W_init_22 (by decide) ?_
  refine n_newZ (N' := 48) hx hb (hts _ (mc m_ac_boolean)) hK hP hD hS hA (by decide) (by decide) (by decide) (by decide) (by decide) d_W_init_24 (fun q24 H hP hD hS => ?_)
  have hP : va_P (dC, dI) vwCl [(h0, .inr (4, [.null, .null, .ref q7, .ref q16, .null, .null, .null, .null, .int 0, .int 0, .int 0, .long 0])), (q7, .inl (cI 3, 48, .inr (.inr (.inr (.inr (fun _ => none)))))), (q16, .inl (cI 1, 48, .inl (fun _ => 0))), (q24, .inl (cI 1, 48, .inl (fun _ => 0)))] H := hP
  have hD : va_D A [(h0, .inr (4, [.null, .null, .ref q7, .ref q16, .null, .null, .null, .null, .int 0, .int 0, .int 0, .long 0])), (q7, .inl (cI 3, 48, .inr (.inr (.inr (.inr (fun _ => none)))))), (q16, .inl (cI 1, 48, .inl (fun _ => 0))), (q24, .inl (cI 1, 48, .inl (fun _ => 0)))] := hD
  refine W.widen (k := 3) (n := 144) (by decide) (by decide) ?_
  refine va_putF (D := (dC, dI)) (ci := 4) (v := .ref q24) (ty := (ty_W 4)) (C := "FlowGate$Flow") (T := T_W) (N := 12) hx hb hts (fun w hw => mc (in_W w hw)) ty_W ty_W_ok nm_W hown hK hP hD hS 0 rfl rfl 4 (by decide) (hts _ (mc m_fl_W_21)) (fun _ h9 => h9) rfl hin rfl (by decide +kernel) rfl rfl (Nat.le_of_ble_eq_true rfl) d_W_init_26 (fun H locs hP hD hS => ?_)
  have hP : va_P (dC, dI) vwCl [(h0, .inr (4, [.null, .null, .ref q7, .ref q16, .ref q24, .null, .null, .null, .int 0, .int 0, .int 0, .long 0])), (q7, .inl (cI 3, 48, .inr (.inr (.inr (.inr (fun _ => none)))))), (q16, .inl (cI 1, 48, .inl (fun _ => 0))), (q24, .inl (cI 1, 48, .inl (fun _ => 0)))] H := hP
  have hD : va_D A [(h0, .inr (4, [.null, .null, .ref q7, .ref q16, .ref q24, .null, .null, .null, .int 0, .int 0, .int 0, .long 0])), (q7, .inl (cI 3, 48, .inr (.inr (.inr (.inr (fun _ => none)))))), (q16, .inl (cI 1, 48, .inl (fun _ => 0))), (q24, .inl (cI 1, 48, .inl (fun _ => 0)))] := hD
  refine lv_aload_n hx hb d_W_init_29 rfl (lv_at hl 0 rfl) ?_
  refine lv_bipush (v := 48) hx hb d_W_init_30 (by decide) ?_
  refine n_newJ (N' := 48) hx hb (hts _ (mc m_ac_long)) hK hP hD hS hA (by decide) (by decide) (by decide) (by decide) (by decide) d_W_init_32 (fun q32 H hP hD hS => ?_)
  have hP : va_P (dC, dI) vwCl [(h0, .inr (4, [.null, .null, .ref q7, .ref q16, .ref q24, .null, .null, .null, .int 0, .int 0, .int 0, .long 0])), (q7, .inl (cI 3, 48, .inr (.inr (.inr (.inr (fun _ => none)))))), (q16, .inl (cI 1, 48, .inl (fun _ => 0))), (q24, .inl (cI 1, 48, .inl (fun _ => 0))), (q32, .inl (cI 2, 48, .inr (.inl (fun _ => 0))))] H := hP
  have hD : va_D A [(h0, .inr (4, [.null, .null, .ref q7, .ref q16, .ref q24, .null, .null, .null, .int 0, .int 0, .int 0, .long 0])), (q7, .inl (cI 3, 48, .inr (.inr (.inr (.inr (fun _ => none)))))), (q16, .inl (cI 1, 48, .inl (fun _ => 0))), (q24, .inl (cI 1, 48, .inl (fun _ => 0))), (q32, .inl (cI 2, 48, .inr (.inl (fun _ => 0))))] := hD
  refine W.widen (k := 4) (n := 192) (by decide) (by decide) ?_
  refine va_putF (D := (dC, dI)) (ci := 4) (v := .ref q32) (ty := (ty_W 5)) (C := "FlowGate$Flow") (T := T_W) (N := 12) hx hb hts (fun w hw => mc (in_W w hw)) ty_W ty_W_ok nm_W hown hK hP hD hS 0 rfl rfl 5 (by decide) (hts _ (mc m_fl_W_24)) (fun _ h9 => h9) rfl hin rfl (by decide +kernel) rfl rfl (Nat.le_of_ble_eq_true rfl) d_W_init_34 (fun H locs hP hD hS => ?_)
  have hP : va_P (dC, dI) vwCl [(h0, .inr (4, [.null, .null, .ref q7, .ref q16, .ref q24, .ref q32, .null, .null, .int 0, .int 0, .int 0, .long 0])), (q7, .inl (cI 3, 48, .inr (.inr (.inr (.inr (fun _ => none)))))), (q16, .inl (cI 1, 48, .inl (fun _ => 0))), (q24, .inl (cI 1, 48, .inl (fun _ => 0))), (q32, .inl (cI 2, 48, .inr (.inl (fun _ => 0))))] H := hP
  have hD : va_D A [(h0, .inr (4, [.null, .null, .ref q7, .ref q16, .ref q24, .ref q32, .null, .null, .int 0, .int 0, .int 0, .long 0])), (q7, .inl (cI 3, 48, .inr (.inr (.inr (.inr (fun _ => none)))))), (q16, .inl (cI 1, 48, .inl (fun _ => 0))), (q24, .inl (cI 1, 48, .inl (fun _ => 0))), (q32, .inl (cI 2, 48, .inr (.inl (fun _ => 0))))] := hD
  refine lv_aload_n hx hb d_W_init_37 rfl (lv_at hl 0 rfl) ?_
  refine va_new (ci := 5) (fs := [.null, .null, .int 0, .long 0, .null]) (C := "FlowGate$Frame") (T := T_R) (N := 5) hx hb hts (fun w hw => mc (in_R w hw)) ty_R ty_R_ok hown (hts _ (mc m_cl_W_9)) (hts _ (mc m_is_R)) (hts _ (mc m_in_R)) hK hP hD hS hA rfl (fun j hj => by rcases (show j = 0 ∨ j = 1 ∨ j = 2 ∨ j = 3 ∨ j = 4 by omega) with rfl | rfl | rfl | rfl | rfl <;> rfl) (by decide) (by decide) d_W_init_38 (fun q38 H hP hD hS => ?_)
  have hP : va_P (dC, dI) vwCl [(h0, .inr (4, [.null, .null, .ref q7, .ref q16, .ref q24, .ref q32, .null, .null, .int 0, .int 0, .int 0, .long 0])), (q7, .inl (cI 3, 48, .inr (.inr (.inr (.inr (fun _ => none)))))), (q16, .inl (cI 1, 48, .inl (fun _ => 0))), (q24, .inl (cI 1, 48, .inl (fun _ => 0))), (q32, .inl (cI 2, 48, .inr (.inl (fun _ => 0)))), (q38, .inr (5, [.null, .null, .int 0, .long 0, .null]))] H := hP
  have hD : va_D A [(h0, .inr (4, [.null, .null, .ref q7, .ref q16, .ref q24, .ref q32, .null, .null, .int 0, .int 0, .int 0, .long 0])), (q7, .inl (cI 3, 48, .inr (.inr (.inr (.inr (fun _ => none)))))), (q16, .inl (cI 1, 48, .inl (fun _ => 0))), (q24, .inl (cI 1, 48, .inl (fun _ => 0))), (q32, .inl (cI 2, 48, .inr (.inl (fun _ => 0)))), (q38, .inr (5, [.null, .null, .int 0, .long 0, .null]))] := hD
  refine W.widen (k := 5) (n := 197) (by decide) (by decide) ?_
  refine lv_dup hx hb d_W_init_41 rfl ?_
  have hPc := hP.sub (ws' := [(q38, .inr (5, [.null, .null, .int 0, .long 0, .null]))]) [5] rfl
  have hDc := hD.sub (ws' := [(q38, .inr (5, [.null, .null, .int 0, .long 0, .null]))]) [5] (by decide) rfl
  have hFc := va_free (wc := [(q38, .inr (5, [.null, .null, .int 0, .long 0, .null]))]) hD hS hA [5] rfl
  refine va_callv (va_runIN (As := []) (rest := [.ref q38, .ref h0]) ⟨hx, hb, hml, hown, hts⟩ (ci_R_init l dC dI cI q38  H.size) ⟨va_cnB 0 hts (g_C m_co_R_init) rfl rfl rfl (hN.1 ("FlowGate$Flow", 28, y_R_init, "FlowGate") (by decide +kernel)) (hts _ (mc m_in_R)) (by decide +kernel) ⟨by decide, by decide⟩, rfl, hts _ (mc m_im_R_init)⟩ ⟨fun a U g mk q => by obtain ⟨q0, q1, qP, qK, qD, qN⟩ := q; exact ⟨q0, q1, qP, va_K.moved (u := U) (U := U.calling g mk a) (Vm.Alike.refl U.vm) qK, qD, fun w hw => va_Nw.same rfl rfl (qN.1 w hw), va_AO.moved (u := U) (U := U.calling g mk a) (Vm.Alike.refl U.vm) qN.2⟩, fun U hU hW => ⟨rfl, by rw [hU], by rw [hU]; exact hPc, va_K.moved hW.alike hK, hDc.weaken (fun _ _ _ _ => trivial), fun q hq => va_Nw.warmM hW (hN.1 q hq), va_AO.moved hW.alike hN.2⟩⟩ rfl rfl hl.1 rfl (lv_room (Nat.le_of_ble_eq_true rfl)) d_W_init_42 ⟨by decide, by decide⟩) hS (fun q _ h => hFc q h) hFc (fun u42 t H1 locs ht hvm hw hB hz1 hk1 hS => ?_)
  obtain ⟨hP1, hD1⟩ := hB
  rw [ht] at hP1
  have hP1 : va_P (dC, dI) vwCl [(q38, .inr (5, [.ref (u42 0), .ref (u42 1), .int 0, .long 0, .ref (u42 2)])), ((u42 0), .inl (cI 0, 12, .inl (fun _ => 0))), ((u42 1), .inl (cI 0, 12, .inl (fun _ => 0))), ((u42 2), .inl (cI 0, 48, .inl (fun _ => 0)))] H1 := hP1
  have hD1 : va_D (va_A [(q38, .inr (5, [.null, .null, .int 0, .long 0, .null]))] H.size) [(q38, .inr (5, [.ref (u42 0), .ref (u42 1), .int 0, .long 0, .ref (u42 2)])), ((u42 0), .inl (cI 0, 12, .inl (fun _ => 0))), ((u42 1), .inl (cI 0, 12, .inl (fun _ => 0))), ((u42 2), .inl (cI 0, 48, .inl (fun _ => 0)))] := hD1
  obtain ⟨hP, hD⟩ := va_join (wr := [(h0, .inr (4, [.null, .null, .ref q7, .ref q16, .ref q24, .ref q32, .null, .null, .int 0, .int 0, .int 0, .long 0])), (q7, .inl (cI 3, 48, .inr (.inr (.inr (.inr (fun _ => none)))))), (q16, .inl (cI 1, 48, .inl (fun _ => 0))), (q24, .inl (cI 1, 48, .inl (fun _ => 0))), (q32, .inl (cI 2, 48, .inr (.inl (fun _ => 0))))]) (w1 := [(q38, .inr (5, [.ref (u42 0), .ref (u42 1), .int 0, .long 0, .ref (u42 2)])), ((u42 0), .inl (cI 0, 12, .inl (fun _ => 0))), ((u42 1), .inl (cI 0, 12, .inl (fun _ => 0))), ((u42 2), .inl (cI 0, 48, .inl (fun _ => 0)))]) hP hD [5] [0, 1, 2, 3, 4] rfl rfl (by decide) (by decide) hk1 hFc hP1 hD1
  generalize H1 = H at hP hS ⊢
  have hP : va_P (dC, dI) vwCl [(h0, .inr (4, [.null, .null, .ref q7, .ref q16, .ref q24, .ref q32, .null, .null, .int 0, .int 0, .int 0, .long 0])), (q7, .inl (cI 3, 48, .inr (.inr (.inr (.inr (fun _ => none)))))), (q16, .inl (cI 1, 48, .inl (fun _ => 0))), (q24, .inl (cI 1, 48, .inl (fun _ => 0))), (q32, .inl (cI 2, 48, .inr (.inl (fun _ => 0)))), (q38, .inr (5, [.ref (u42 0), .ref (u42 1), .int 0, .long 0, .ref (u42 2)])), ((u42 0), .inl (cI 0, 12, .inl (fun _ => 0))), ((u42 1), .inl (cI 0, 12, .inl (fun _ => 0))), ((u42 2), .inl (cI 0, 48, .inl (fun _ => 0)))] H := hP
  have hD : va_D A [(h0, .inr (4, [.null, .null, .ref q7, .ref q16, .ref q24, .ref q32, .null, .null, .int 0, .int 0, .int 0, .long 0])), (q7, .inl (cI 3, 48, .inr (.inr (.inr (.inr (fun _ => none)))))), (q16, .inl (cI 1, 48, .inl (fun _ => 0))), (q24, .inl (cI 1, 48, .inl (fun _ => 0))), (q32, .inl (cI 2, 48, .inr (.inl (fun _ => 0)))), (q38, .inr (5, [.ref (u42 0), .ref (u42 1), .int 0, .long 0, .ref (u42 2)])), ((u42 0), .inl (cI 0, 12, .inl (fun _ => 0))), ((u42 1), .inl (cI 0, 12, .inl (fun _ => 0))), ((u42 2), .inl (cI 0, 48, .inl (fun _ => 0)))] := hD
  refine W.widen (k := 8) (n := 269) (by decide) (by decide) ?_
  refine va_putF (D := (dC, dI)) (ci := 4) (v := .ref q38) (ty := (ty_W 6)) (C := "FlowGate$Flow") (T := T_W) (N := 12) hx hb hts (fun w hw => mc (in_W w hw)) ty_W ty_W_ok nm_W hown hK hP hD hS 0 rfl rfl 6 (by decide) (hts _ (mc m_fl_W_29)) (fun _ h9 => h9) rfl hin rfl (by decide +kernel) rfl rfl (Nat.le_of_ble_eq_true rfl) d_W_init_45 (fun H locs hP hD hS => ?_)
  have hP : va_P (dC, dI) vwCl [(h0, .inr (4, [.null, .null, .ref q7, .ref q16, .ref q24, .ref q32, .ref q38, .null, .int 0, .int 0, .int 0, .long 0])), (q7, .inl (cI 3, 48, .inr (.inr (.inr (.inr (fun _ => none)))))), (q16, .inl (cI 1, 48, .inl (fun _ => 0))), (q24, .inl (cI 1, 48, .inl (fun _ => 0))), (q32, .inl (cI 2, 48, .inr (.inl (fun _ => 0)))), (q38, .inr (5, [.ref (u42 0), .ref (u42 1), .int 0, .long 0, .ref (u42 2)])), ((u42 0), .inl (cI 0, 12, .inl (fun _ => 0))), ((u42 1), .inl (cI 0, 12, .inl (fun _ => 0))), ((u42 2), .inl (cI 0, 48, .inl (fun _ => 0)))] H := hP
  have hD : va_D A [(h0, .inr (4, [.null, .null, .ref q7, .ref q16, .ref q24, .ref q32, .ref q38, .null, .int 0, .int 0, .int 0, .long 0])), (q7, .inl (cI 3, 48, .inr (.inr (.inr (.inr (fun _ => none)))))), (q16, .inl (cI 1, 48, .inl (fun _ => 0))), (q24, .inl (cI 1, 48, .inl (fun _ => 0))), (q32, .inl (cI 2, 48, .inr (.inl (fun _ => 0)))), (q38, .inr (5, [.ref (u42 0), .ref (u42 1), .int 0, .long 0, .ref (u42 2)])), ((u42 0), .inl (cI 0, 12, .inl (fun _ => 0))), ((u42 1), .inl (cI 0, 12, .inl (fun _ => 0))), ((u42 2), .inl (cI 0, 48, .inl (fun _ => 0)))] := hD
  refine lv_aload_n hx hb d_W_init_48 rfl (lv_at hl 0 rfl) ?_
  refine va_new (ci := 5) (fs := [.null, .null, .int 0, .long 0, .null]) (C := "FlowGate$Frame") (T := T_R) (N := 5) hx hb hts (fun w hw => mc (in_R w hw)) ty_R ty_R_ok hown (hts _ (mc m_cl_W_9)) (hts _ (mc m_is_R)) (hts _ (mc m_in_R)) hK hP hD hS hA rfl (fun j hj => by rcases (show j = 0 ∨ j = 1 ∨ j = 2 ∨ j = 3 ∨ j = 4 by omega) with rfl | rfl | rfl | rfl | rfl <;> rfl) (by decide) (by decide) d_W_init_49 (fun q49 H hP hD hS => ?_)
  have hP : va_P (dC, dI) vwCl [(h0, .inr (4, [.null, .null, .ref q7, .ref q16, .ref q24, .ref q32, .ref q38, .null, .int 0, .int 0, .int 0, .long 0])), (q7, .inl (cI 3, 48, .inr (.inr (.inr (.inr (fun _ => none)))))), (q16, .inl (cI 1, 48, .inl (fun _ => 0))), (q24, .inl (cI 1, 48, .inl (fun _ => 0))), (q32, .inl (cI 2, 48, .inr (.inl (fun _ => 0)))), (q38, .inr (5, [.ref (u42 0), .ref (u42 1), .int 0, .long 0, .ref (u42 2)])), ((u42 0), .inl (cI 0, 12, .inl (fun _ => 0))), ((u42 1), .inl (cI 0, 12, .inl (fun _ => 0))), ((u42 2), .inl (cI 0, 48, .inl (fun _ => 0))), (q49, .inr (5, [.null, .null, .int 0, .long 0, .null]))] H := hP
  have hD : va_D A [(h0, .inr (4, [.null, .null, .ref q7, .ref q16, .ref q24, .ref q32, .ref q38, .null, .int 0, .int 0, .int 0, .long 0])), (q7, .inl (cI 3, 48, .inr (.inr (.inr (.inr (fun _ => none)))))), (q16, .inl (cI 1, 48, .inl (fun _ => 0))), (q24, .inl (cI 1, 48, .inl (fun _ => 0))), (q32, .inl (cI 2, 48, .inr (.inl (fun _ => 0)))), (q38, .inr (5, [.ref (u42 0), .ref (u42 1), .int 0, .long 0, .ref (u42 2)])), ((u42 0), .inl (cI 0, 12, .inl (fun _ => 0))), ((u42 1), .inl (cI 0, 12, .inl (fun _ => 0))), ((u42 2), .inl (cI 0, 48, .inl (fun _ => 0))), (q49, .inr (5, [.null, .null, .int 0, .long 0, .null]))] := hD
  refine W.widen (k := 9) (n := 274) (by decide) (by decide) ?_
  refine lv_dup hx hb d_W_init_52 rfl ?_
  have hPc := hP.sub (ws' := [(q49, .inr (5, [.null, .null, .int 0, .long 0, .null]))]) [9] rfl
  have hDc := hD.sub (ws' := [(q49, .inr (5, [.null, .null, .int 0, .long 0, .null]))]) [9] (by decide) rfl
  have hFc := va_free (wc := [(q49, .inr (5, [.null, .null, .int 0, .long 0, .null]))]) hD hS hA [9] rfl
  refine va_callv (va_runIN (As := []) (rest := [.ref q49, .ref h0]) ⟨hx, hb, hml, hown, hts⟩ (ci_R_init l dC dI cI q49  H.size) ⟨va_cnB 0 hts (g_C m_co_R_init) rfl rfl rfl (hN.1 ("FlowGate$Flow", 28, y_R_init, "FlowGate") (by decide +kernel)) (hts _ (mc m_in_R)) (by decide +kernel) ⟨by decide, by decide⟩, rfl, hts _ (mc m_im_R_init)⟩ ⟨fun a U g mk q => by obtain ⟨q0, q1, qP, qK, qD, qN⟩ := q; exact ⟨q0, q1, qP, va_K.moved (u := U) (U := U.calling g mk a) (Vm.Alike.refl U.vm) qK, qD, fun w hw => va_Nw.same rfl rfl (qN.1 w hw), va_AO.moved (u := U) (U := U.calling g mk a) (Vm.Alike.refl U.vm) qN.2⟩, fun U hU hW => ⟨rfl, by rw [hU], by rw [hU]; exact hPc, va_K.moved hW.alike hK, hDc.weaken (fun _ _ _ _ => trivial), fun q hq => va_Nw.warmM hW (hN.1 q hq), va_AO.moved hW.alike hN.2⟩⟩ rfl rfl hl.1 rfl (lv_room (Nat.le_of_ble_eq_true rfl)) d_W_init_53 ⟨by decide, by decide⟩) hS (fun q _ h => hFc q h) hFc (fun u53 t H1 locs ht hvm hw hB hz1 hk1 hS => ?_)
  obtain ⟨hP1, hD1⟩ := hB
  rw [ht] at hP1
  have hP1 : va_P (dC, dI) vwCl [(q49, .inr (5, [.ref (u53 0), .ref (u53 1), .int 0, .long 0, .ref (u53 2)])), ((u53 0), .inl (cI 0, 12, .inl (fun _ => 0))), ((u53 1), .inl (cI 0, 12, .inl (fun _ => 0))), ((u53 2), .inl (cI 0, 48, .inl (fun _ => 0)))] H1 := hP1
  have hD1 : va_D (va_A [(q49, .inr (5, [.null, .null, .int 0, .long 0, .null]))] H.size) [(q49, .inr (5, [.ref (u53 0), .ref (u53 1), .int 0, .long 0, .ref (u53 2)])), ((u53 0), .inl (cI 0, 12, .inl (fun _ => 0))), ((u53 1), .inl (cI 0, 12, .inl (fun _ => 0))), ((u53 2), .inl (cI 0, 48, .inl (fun _ => 0)))] := hD1
  obtain ⟨hP, hD⟩ := va_join (wr := [(h0, .inr (4, [.null, .null, .ref q7, .ref q16, .ref q24, .ref q32, .ref q38, .null, .int 0, .int 0, .int 0, .long 0])), (q7, .inl (cI 3, 48, .inr (.inr (.inr (.inr (fun _ => none)))))), (q16, .inl (cI 1, 48, .inl (fun _ => 0))), (q24, .inl (cI 1, 48, .inl (fun _ => 0))), (q32, .inl (cI 2, 48, .inr (.inl (fun _ => 0)))), (q38, .inr (5, [.ref (u42 0), .ref (u42 1), .int 0, .long 0, .ref (u42 2)])), ((u42 0), .inl (cI 0, 12, .inl (fun _ => 0))), ((u42 1), .inl (cI 0, 12, .inl (fun _ => 0))), ((u42 2), .inl (cI 0, 48, .inl (fun _ => 0)))]) (w1 := [(q49, .inr (5, [.ref (u53 0), .ref (u53 1), .int 0, .long 0, .ref (u53 2)])), ((u53 0), .inl (cI 0, 12, .inl (fun _ => 0))), ((u53 1), .inl (cI 0, 12, .inl (fun _ => 0))), ((u53 2), .inl (cI 0, 48, .inl (fun _ => 0)))]) hP hD [9] [0, 1, 2, 3, 4, 5, 6, 7, 8] rfl rfl (by decide) (by decide) hk1 hFc hP1 hD1
  generalize H1 = H at hP hS ⊢
  have hP : va_P (dC, dI) vwCl [(h0, .inr (4, [.null, .null, .ref q7, .ref q16, .ref q24, .ref q32, .ref q38, .null, .int 0, .int 0, .int 0, .long 0])), (q7, .inl (cI 3, 48, .inr (.inr (.inr (.inr (fun _ => none)))))), (q16, .inl (cI 1, 48, .inl (fun _ => 0))), (q24, .inl (cI 1, 48, .inl (fun _ => 0))), (q32, .inl (cI 2, 48, .inr (.inl (fun _ => 0)))), (q38, .inr (5, [.ref (u42 0), .ref (u42 1), .int 0, .long 0, .ref (u42 2)])), ((u42 0), .inl (cI 0, 12, .inl (fun _ => 0))), ((u42 1), .inl (cI 0, 12, .inl (fun _ => 0))), ((u42 2), .inl (cI 0, 48, .inl (fun _ => 0))), (q49, .inr (5, [.ref (u53 0), .ref (u53 1), .int 0, .long 0, .ref (u53 2)])), ((u53 0), .inl (cI 0, 12, .inl (fun _ => 0))), ((u53 1), .inl (cI 0, 12, .inl (fun _ => 0))), ((u53 2), .inl (cI 0, 48, .inl (fun _ => 0)))] H := hP
  have hD : va_D A [(h0, .inr (4, [.null, .null, .ref q7, .ref q16, .ref q24, .ref q32, .ref q38, .null, .int 0, .int 0, .int 0, .long 0])), (q7, .inl (cI 3, 48, .inr (.inr (.inr (.inr (fun _ => none)))))), (q16, .inl (cI 1, 48, .inl (fun _ => 0))), (q24, .inl (cI 1, 48, .inl (fun _ => 0))), (q32, .inl (cI 2, 48, .inr (.inl (fun _ => 0)))), (q38, .inr (5, [.ref (u42 0), .ref (u42 1), .int 0, .long 0, .ref (u42 2)])), ((u42 0), .inl (cI 0, 12, .inl (fun _ => 0))), ((u42 1), .inl (cI 0, 12, .inl (fun _ => 0))), ((u42 2), .inl (cI 0, 48, .inl (fun _ => 0))), (q49, .inr (5, [.ref (u53 0), .ref (u53 1), .int 0, .long 0, .ref (u53 2)])), ((u53 0), .inl (cI 0, 12, .inl (fun _ => 0))), ((u53 1), .inl (cI 0, 12, .inl (fun _ => 0))), ((u53 2), .inl (cI 0, 48, .inl (fun _ => 0)))] := hD
  refine W.widen (k := 12) (n := 346) (by decide) (by decide) ?_
  refine va_putF (D := (dC, dI)) (ci := 4) (v := .ref q49) (ty := (ty_W 7)) (C := "FlowGate$Flow") (T := T_W) (N := 12) hx hb hts (fun w hw => mc (in_W w hw)) ty_W ty_W_ok nm_W hown hK hP hD hS 0 rfl rfl 7 (by decide) (hts _ (mc m_fl_W_33)) (fun _ h9 => h9) rfl hin rfl (by decide +kernel) rfl rfl (Nat.le_of_ble_eq_true rfl) d_W_init_56 (fun H locs hP hD hS => ?_)
  have hP : va_P (dC, dI) vwCl [(h0, .inr (4, [.null, .null, .ref q7, .ref q16, .ref q24, .ref q32, .ref q38, .ref q49, .int 0, .int 0, .int 0, .long 0])), (q7, .inl (cI 3, 48, .inr (.inr (.inr (.inr (fun _ => none)))))), (q16, .inl (cI 1, 48, .inl (fun _ => 0))), (q24, .inl (cI 1, 48, .inl (fun _ => 0))), (q32, .inl (cI 2, 48, .inr (.inl (fun _ => 0)))), (q38, .inr (5, [.ref (u42 0), .ref (u42 1), .int 0, .long 0, .ref (u42 2)])), ((u42 0), .inl (cI 0, 12, .inl (fun _ => 0))), ((u42 1), .inl (cI 0, 12, .inl (fun _ => 0))), ((u42 2), .inl (cI 0, 48, .inl (fun _ => 0))), (q49, .inr (5, [.ref (u53 0), .ref (u53 1), .int 0, .long 0, .ref (u53 2)])), ((u53 0), .inl (cI 0, 12, .inl (fun _ => 0))), ((u53 1), .inl (cI 0, 12, .inl (fun _ => 0))), ((u53 2), .inl (cI 0, 48, .inl (fun _ => 0)))] H := hP
  have hD : va_D A [(h0, .inr (4, [.null, .null, .ref q7, .ref q16, .ref q24, .ref q32, .ref q38, .ref q49, .int 0, .int 0, .int 0, .long 0])), (q7, .inl (cI 3, 48, .inr (.inr (.inr (.inr (fun _ => none)))))), (q16, .inl (cI 1, 48, .inl (fun _ => 0))), (q24, .inl (cI 1, 48, .inl (fun _ => 0))), (q32, .inl (cI 2, 48, .inr (.inl (fun _ => 0)))), (q38, .inr (5, [.ref (u42 0), .ref (u42 1), .int 0, .long 0, .ref (u42 2)])), ((u42 0), .inl (cI 0, 12, .inl (fun _ => 0))), ((u42 1), .inl (cI 0, 12, .inl (fun _ => 0))), ((u42 2), .inl (cI 0, 48, .inl (fun _ => 0))), (q49, .inr (5, [.ref (u53 0), .ref (u53 1), .int 0, .long 0, .ref (u53 2)])), ((u53 0), .inl (cI 0, 12, .inl (fun _ => 0))), ((u53 1), .inl (cI 0, 12, .inl (fun _ => 0))), ((u53 2), .inl (cI 0, 48, .inl (fun _ => 0)))] := hD
  refine lv_aload_n hx hb d_W_init_59 rfl (lv_at hl 0 rfl) ?_
  refine lv_aload_n hx hb d_W_init_60 rfl (lv_at hl 1 rfl) ?_
  refine va_putF (D := (dC, dI)) (ci := 4) (v := .ref a1) (ty := (ty_W 0)) (C := "FlowGate$Flow") (T := T_W) (N := 12) hx hb hts (fun w hw => mc (in_W w hw)) ty_W ty_W_ok nm_W hown hK hP hD hS 0 rfl rfl 0 (by decide) (hts _ (mc m_fl_W_36)) (fun _ h9 => h9) rfl hin rfl (by decide +kernel) rfl rfl (Nat.le_of_ble_eq_true rfl) d_W_init_61 (fun H locs hP hD hS => ?_)
  have hP : va_P (dC, dI) vwCl [(h0, .inr (4, [.ref a1, .null, .ref q7, .ref q16, .ref q24, .ref q32, .ref q38, .ref q49, .int 0, .int 0, .int 0, .long 0])), (q7, .inl (cI 3, 48, .inr (.inr (.inr (.inr (fun _ => none)))))), (q16, .inl (cI 1, 48, .inl (fun _ => 0))), (q24, .inl (cI 1, 48, .inl (fun _ => 0))), (q32, .inl (cI 2, 48, .inr (.inl (fun _ => 0)))), (q38, .inr (5, [.ref (u42 0), .ref (u42 1), .int 0, .long 0, .ref (u42 2)])), ((u42 0), .inl (cI 0, 12, .inl (fun _ => 0))), ((u42 1), .inl (cI 0, 12, .inl (fun _ => 0))), ((u42 2), .inl (cI 0, 48, .inl (fun _ => 0))), (q49, .inr (5, [.ref (u53 0), .ref (u53 1), .int 0, .long 0, .ref (u53 2)])), ((u53 0), .inl (cI 0, 12, .inl (fun _ => 0))), ((u53 1), .inl (cI 0, 12, .inl (fun _ => 0))), ((u53 2), .inl (cI 0, 48, .inl (fun _ => 0)))] H := hP
  have hD : va_D A [(h0, .inr (4, [.ref a1, .null, .ref q7, .ref q16, .ref q24, .ref q32, .ref q38, .ref q49, .int 0, .int 0, .int 0, .long 0])), (q7, .inl (cI 3, 48, .inr (.inr (.inr (.inr (fun _ => none)))))), (q16, .inl (cI 1, 48, .inl (fun _ => 0))), (q24, .inl (cI 1, 48, .inl (fun _ => 0))), (q32, .inl (cI 2, 48, .inr (.inl (fun _ => 0)))), (q38, .inr (5, [.ref (u42 0), .ref (u42 1), .int 0, .long 0, .ref (u42 2)])), ((u42 0), .inl (cI 0, 12, .inl (fun _ => 0))), ((u42 1), .inl (cI 0, 12, .inl (fun _ => 0))), ((u42 2), .inl (cI 0, 48, .inl (fun _ => 0))), (q49, .inr (5, [.ref (u53 0), .ref (u53 1), .int 0, .long 0, .ref (u53 2)])), ((u53 0), .inl (cI 0, 12, .inl (fun _ => 0))), ((u53 1), .inl (cI 0, 12, .inl (fun _ => 0))), ((u53 2), .inl (cI 0, 48, .inl (fun _ => 0)))] := hD
  refine lv_aload_n hx hb d_W_init_64 rfl (lv_at hl 0 rfl) ?_
  refine lv_aload_n hx hb d_W_init_65 rfl (lv_at hl 2 rfl) ?_
  refine va_putF (D := (dC, dI)) (ci := 4) (v := .ref a2) (ty := (ty_W 1)) (C := "FlowGate$Flow") (T := T_W) (N := 12) hx hb hts (fun w hw => mc (in_W w hw)) ty_W ty_W_ok nm_W hown hK hP hD hS 0 rfl rfl 1 (by decide) (hts _ (mc m_fl_W_40)) (fun _ h9 => h9) rfl hin rfl (by decide +kernel) rfl rfl (Nat.le_of_ble_eq_true rfl) d_W_init_66 (fun H locs hP hD hS => ?_)
  have hP : va_P (dC, dI) vwCl [(h0, .inr (4, [.ref a1, .ref a2, .ref q7, .ref q16, .ref q24, .ref q32, .ref q38, .ref q49, .int 0, .int 0, .int 0, .long 0])), (q7, .inl (cI 3, 48, .inr (.inr (.inr (.inr (fun _ => none)))))), (q16, .inl (cI 1, 48, .inl (fun _ => 0))), (q24, .inl (cI 1, 48, .inl (fun _ => 0))), (q32, .inl (cI 2, 48, .inr (.inl (fun _ => 0)))), (q38, .inr (5, [.ref (u42 0), .ref (u42 1), .int 0, .long 0, .ref (u42 2)])), ((u42 0), .inl (cI 0, 12, .inl (fun _ => 0))), ((u42 1), .inl (cI 0, 12, .inl (fun _ => 0))), ((u42 2), .inl (cI 0, 48, .inl (fun _ => 0))), (q49, .inr (5, [.ref (u53 0), .ref (u53 1), .int 0, .long 0, .ref (u53 2)])), ((u53 0), .inl (cI 0, 12, .inl (fun _ => 0))), ((u53 1), .inl (cI 0, 12, .inl (fun _ => 0))), ((u53 2), .inl (cI 0, 48, .inl (fun _ => 0)))] H := hP
  have hD : va_D A [(h0, .inr (4, [.ref a1, .ref a2, .ref q7, .ref q16, .ref q24, .ref q32, .ref q38, .ref q49, .int 0, .int 0, .int 0, .long 0])), (q7, .inl (cI 3, 48, .inr (.inr (.inr (.inr (fun _ => none)))))), (q16, .inl (cI 1, 48, .inl (fun _ => 0))), (q24, .inl (cI 1, 48, .inl (fun _ => 0))), (q32, .inl (cI 2, 48, .inr (.inl (fun _ => 0)))), (q38, .inr (5, [.ref (u42 0), .ref (u42 1), .int 0, .long 0, .ref (u42 2)])), ((u42 0), .inl (cI 0, 12, .inl (fun _ => 0))), ((u42 1), .inl (cI 0, 12, .inl (fun _ => 0))), ((u42 2), .inl (cI 0, 48, .inl (fun _ => 0))), (q49, .inr (5, [.ref (u53 0), .ref (u53 1), .int 0, .long 0, .ref (u53 2)])), ((u53 0), .inl (cI 0, 12, .inl (fun _ => 0))), ((u53 1), .inl (cI 0, 12, .inl (fun _ => 0))), ((u53 2), .inl (cI 0, 48, .inl (fun _ => 0)))] := hD
  refine lv_iconst (v := 0) hx hb d_W_init_69 (by decide) ?_
  refine lv_istore_n (lv' := [(3, .int 0), (0, .ref h0), (1, .ref a1), (2, .ref a2)]) hx hb d_W_init_70 rfl hl (by decide) rfl (fun ls hl => ?_)
  refine W_init_loop (v := fun j => ([q7, q16, q24, q32, q38, (u42 0), (u42 1), (u42 2), q49, (u53 0), (u53 1), (u53 2)] : List Nat).getD j 0) hx hb hml hown hts hN hK hA (fun b H locs ls hP hD hS => ?_) 49 0 (by omega) (by omega) (fun _ => 0) H locs ls hP hD hS (lv_sub hl [1, 0] rfl)
  have e1 : wW_init cI h0 a1 a2 (fun j => if j < 12 then ([q7, q16, q24, q32, q38, (u42 0), (u42 1), (u42 2), q49, (u53 0), (u53 1), (u53 2)] : List Nat).getD j 0 else b (j - 12)) = wW_init_f cI h0 a1 a2 (fun j => ([q7, q16, q24, q32, q38, (u42 0), (u42 1), (u42 2), q49, (u53 0), (u53 1), (u53 2)] : List Nat).getD j 0) (wW_init_g b 48) ++ wW_init_p cI b 48 := by
    have e2 : (fun j => (fun j => if j < 12 then ([q7, q16, q24, q32, q38, (u42 0), (u42 1), (u42 2), q49, (u53 0), (u53 1), (u53 2)] : List Nat).getD j 0 else b (j - 12)) (12 + j)) = b := by
      funext j
      show (if 12 + j < 12 then _ else b (12 + j - 12)) = b j
      rw [if_neg (by omega)]
      congr 1
      omega
    unfold wW_init
    rw [e2]
    rfl
  exact W.vret hx hb hr (fun t ht hW => ⟨⟨fun j => if j < 12 then ([q7, q16, q24, q32, q38, (u42 0), (u42 1), (u42 2), q49, (u53 0), (u53 1), (u53 2)] : List Nat).getD j 0 else b (j - 12), rfl, trivial, by rw [ht, e1]; exact hP, by rw [e1]; exact hD⟩, hS.F ht⟩) hS.2.2 d_W_init_96
