def el (a : Int32) : Int32 := if a = 76 then 1 else a - 64
theorem q_o20 {k a b : Int32} {M : Mm} : F_D_objects k (nI 20) a b M = bd (F_D_top 0 M) (fun _ M50 => F_D_objects_b67 fuel k 0 M50) := rfl
theorem q_o21 {k a b : Int32} {M : Mm} : F_D_objects k (nI 21) a b M = bd (F_D_top 0 M) (fun r51 M50 => lt (P_D_in r51 1000 1047 M50) fun r57 => (if r57 = 0 then some (0, M50) else bnd (r51 - 1000) 48 ((if (M50.1 34 0 (r51 - 1000 : Int32).toNatClampNeg) = a then bv (F_D_drop M50) (fun M62 => F_D_objects_b186 fuel a r51 0 M62) else some (0, M50))))) := rfl
theorem q_o22 {k a b : Int32} {M : Mm} : F_D_objects k (nI 22) a b M = bd (F_D_top 0 M) (fun _ M50 => bd (F_D_takesFor ((16 : Int32) + a) M50) (kP b)) := rfl
theorem q_o23 {k a b : Int32} {M : Mm} : F_D_objects k (nI 23) a b M = bd (F_D_top 0 M) (fun _ M50 => bd (F_D_takesFor b M50) (kT (F_D_takesFor ((16 : Int32) + a)) kB)) := rfl
theorem q_o24 {k a b : Int32} {M : Mm} : F_D_objects k (nI 24) a b M = bd (F_D_top 0 M) (fun _ M50 => bd (F_D_takesFor a M50) (kP b)) := rfl
theorem q_o25 {k a b : Int32} {M : Mm} : F_D_objects k (nI 25) a b M = bd (F_D_top 0 M) (fun _ M50 => bd (F_D_takesRef M50) (kP a)) := rfl
theorem q_o26 {k a b : Int32} {M : Mm} : F_D_objects k (nI 26) a b M = bd (F_D_top 0 M) (fun _ M50 => bd (F_D_takes 1 M50) (kP ((64 : Int32) + a))) := rfl
theorem q_o27' {k a b : Int32} {M : Mm} : F_D_objects k (nI 27) a b M = bd (F_D_top 0 M) (fun _ M50 => bd (F_D_takes 1 M50) (kT (F_D_takesRow a) (fun r109 M108 => (if r109 = 0 then some (0, M108) else (if a = 76 then F_D_objects_b417 1 M108 else F_D_objects_b417 (a - 64) M108))))) := rfl
theorem q_o27 {k a b : Int32} {M : Mm} : F_D_objects k (nI 27) a b M = bd (F_D_top 0 M) (fun _ M50 => bd (F_D_takes 1 M50) (kT (F_D_takesRow a) (kP (el a)))) := by
  rw [q_o27']
  have e : (fun (r109 : Int32) (M108 : Mm) => (if r109 = 0 then some (0, M108) else (if a = 76 then F_D_objects_b417 1 M108 else F_D_objects_b417 (a - 64) M108))) = kP (el a) := by
    funext r M'
    unfold F_D_objects_b417 el
    by_cases c : a = 76
    · simp only [if_pos c, kP, kB]
    · simp only [if_neg c, kP, kB]
  rw [e]
theorem q_o28' {k a b : Int32} {M : Mm} : F_D_objects k (nI 28) a b M = bd (F_D_top 0 M) (fun _ M50 => (if a = 76 then F_D_objects_b444 a 1 M50 else F_D_objects_b444 a (a - 64) M50)) := rfl
theorem q_o28 {k a b : Int32} {M : Mm} : F_D_objects k (nI 28) a b M = bd (F_D_top 0 M) (fun _ M50 => bd (F_D_takesFor (el a) M50) (kT (F_D_takes 1) (kT (F_D_takesRow a) kB))) := by
  rw [q_o28']
  have e : (fun (_ : Int32) (M50 : Mm) => (if a = 76 then F_D_objects_b444 a 1 M50 else F_D_objects_b444 a (a - 64) M50)) = fun (_ : Int32) (M50 : Mm) => bd (F_D_takesFor (el a) M50) (kT (F_D_takes 1) (kT (F_D_takesRow a) kB)) := by
    funext r M'
    unfold F_D_objects_b444 el
    by_cases c : a = 76
    · rw [if_pos c, if_pos c]
    · rw [if_neg c, if_neg c]
  rw [e]
theorem q_o29 {k a b : Int32} {M : Mm} : F_D_objects k (nI 29) a b M = bd (F_D_top 0 M) (fun r51 M50 => (if r51 = 5 then F_D_objects_b496 M50 else (if r51 < 64 then some (0, M50) else lt (P_D_isRef r51 M50) fun r116 => (if r116 = 0 then some (0, M50) else F_D_objects_b496 M50)))) := rfl
theorem q_u22 {a b : Int32} {M : Mm} : F_W_useObject (nI 22) a b M = bd (F_R_top 0 0 M) (fun r6 M5 => bd (F_T_goesFor r6 ((16 : Int32) + a) M5) (fun r14 M13 => bd (F_W_exchangeIf r14 1 b M13) (fun r17 M16 => some (r17, M16)))) := rfl
theorem q_u23 {a b : Int32} {M : Mm} : F_W_useObject (nI 23) a b M = bd (F_R_top 0 0 M) (fun r6 M5 => bd (F_T_goesFor r6 b M5) (fun r20 M19 => (if r20 = 0 then bd (F_W_takeIf 0 2 M19) (fun r3 M2 => some (r3, M2)) else bd (F_R_top 0 1 M19) (fun r24 M23 => bd (F_T_goesFor r24 ((16 : Int32) + a) M23) (fun r27 M26 => (if r27 = 0 then bd (F_W_takeIf 0 2 M26) (fun r3 M2 => some (r3, M2)) else bd (F_W_takeIf 1 2 M26) (fun r3 M2 => some (r3, M2)))))))) := rfl
theorem q_u24 {a b : Int32} {M : Mm} : F_W_useObject (nI 24) a b M = bd (F_R_top 0 0 M) (fun r6 M5 => bd (F_T_goesFor r6 a M5) (fun r14 M13 => bd (F_W_exchangeIf r14 1 b M13) (fun r17 M16 => some (r17, M16)))) := rfl
theorem q_u25 {a b : Int32} {M : Mm} : F_W_useObject (nI 25) a b M = bd (F_R_top 0 0 M) (fun r6 M5 => lt (P_T_isRefOrNull r6 M5) fun r8 => bd (F_W_exchangeIf r8 1 a M5) (fun r11 M10 => some (r11, M10))) := rfl
theorem q_r26 {a : Int32} {M : Mm} : F_W_useRow (nI 26) a M = bd (F_R_top 0 0 M) (fun r17 M16 => (if r17 = 1 then bd (F_W_exchangeIf 1 1 (a + 64) M16) (fun r3 M2 => some (r3, M2)) else bd (F_W_exchangeIf 0 1 (a + 64) M16) (fun r3 M2 => some (r3, M2)))) := rfl
theorem q_r27 {a : Int32} {M : Mm} : F_W_useRow (nI 27) a M = bd (F_R_top 0 0 M) (fun r17 M16 => (if r17 = 1 then bd (F_R_top 0 1 M16) (fun r26 M25 => (if P_W_isRowOf r26 a M25 = 0 then bd (F_W_exchangeIf 0 2 (el a) M25) (fun r8 M7 => some (r8, M7)) else bd (F_W_exchangeIf 1 2 (el a) M25) (fun r8 M7 => some (r8, M7)))) else bd (F_W_exchangeIf 0 2 (el a) M16) (fun r8 M7 => some (r8, M7)))) := rfl
theorem q_r28 {a : Int32} {M : Mm} : F_W_useRow (nI 28) a M = bd (F_R_top 0 0 M) (fun r17 M16 => bd (F_T_goesFor r17 (el a) M16) (fun r34 M33 => (if r34 = 0 then bd (F_W_takeIf 0 3 M33) (fun r11 M10 => some (r11, M10)) else bd (F_R_top 0 1 M33) (fun r38 M37 => (if r38 = 1 then bd (F_R_top 0 2 M37) (fun r42 M41 => (if P_W_isRowOf r42 a M41 = 0 then bd (F_W_takeIf 0 3 M41) (fun r11 M10 => some (r11, M10)) else bd (F_W_takeIf 1 3 M41) (fun r11 M10 => some (r11, M10)))) else bd (F_W_takeIf 0 3 M37) (fun r11 M10 => some (r11, M10))))))) := rfl
theorem q_r29 {a : Int32} {M : Mm} : F_W_useRow (nI 29) a M = bd (F_R_top 0 0 M) (fun r17 M16 => (if r17 = 5 then bd (F_W_exchangeIf 1 1 1 M16) (fun r14 M13 => some (r14, M13)) else (if P_T_isRow r17 M16 = 0 then bd (F_W_exchangeIf 0 1 1 M16) (fun r14 M13 => some (r14, M13)) else bd (F_W_exchangeIf 1 1 1 M16) (fun r14 M13 => some (r14, M13))))) := rfl
theorem gs_in {n : Nat} {sup : Nat → Nat} {fc : Nat → Int32} {f : Fr} {e : Nat} {v : Int32} (hv : ¬ v = -1) (h : gs n sup fc (tp f e) v = true) : e < fd f := tp_in (fun w => by rw [w, gs_m1 hv] at h; cases h)
theorem rn_in {n : Nat} {f : Fr} {e : Nat} (h : tp f e = 5 ∨ rf n (tp f e) = true) : e < fd f := tp_in (fun w => by
  rcases h with h | h
  · rw [w] at h
    exact absurd h (by decide)
  · rw [w, rf_neg (by decide)] at h
    cases h)
theorem op_get {n : Nat} {sup : Nat → Nat} {fc : Nat → Int32} {P : MT} {f : Fr} {Mc Mr : Mm} {k a b : Int32} (h : Cx n sup fc P f Mc Mr) (ha : tok ((16 : Int32) + a)) (hb : tok b) : Ou P Mc Mr (F_W_useObject (nI 22) a b Mc) (F_D_objects k (nI 22) a b Mr) := by
  obtain ⟨hT, hC, hR, hO, hP, hD, hc, hh, tk, hw⟩ := h
  have hfd := hc.1
  have et0 : F_R_top 0 0 Mc = some (tp f 0, Mc) := e_topC (e := 0) hc (by omega)
  have dt0 : F_D_top 0 Mr = some (tp f 0, Mr) := e_topD (e := 0) hh (by omega)
  have hv := tok_m1 ha
  have T := rs_p (v := b) (e_takesFor hT hR hh hv).rs (show fd f - 1 < 16 by omega)
  rw [q_u22, q_o22, et0, bd_some, dt0, bd_some, e_goesC hT hC, bd_some, bd_ret]
  exact ou_exch (m := 1) hO hP hc tk hb (gs_in hv) gs_fg T.1 T.2
theorem op_set {n : Nat} {sup : Nat → Nat} {fc : Nat → Int32} {P : MT} {f : Fr} {Mc Mr : Mm} {k a b : Int32} (h : Cx n sup fc P f Mc Mr) (ha : tok ((16 : Int32) + a)) (hb : tok b) : Ou P Mc Mr (F_W_useObject (nI 23) a b Mc) (F_D_objects k (nI 23) a b Mr) := by
  obtain ⟨hT, hC, hR, hO, hP, hD, hc, hh, tk, hw⟩ := h
  have hfd := hc.1
  have et0 : F_R_top 0 0 Mc = some (tp f 0, Mc) := e_topC (e := 0) hc (by omega)
  have et1 : F_R_top 0 1 Mc = some (tp f 1, Mc) := e_topC (e := 1) hc (by omega)
  have dt0 : F_D_top 0 Mr = some (tp f 0, Mr) := e_topD (e := 0) hh (by omega)
  have hva := tok_m1 ha
  have hvb := tok_m1 hb
  have T : Rs (gs n sup fc (tp f 0) b = true ∧ gs n sup fc (tp f 1) ((16 : Int32) + a) = true) (drp f 2) Mr (bd (F_D_takesFor b Mr) (kT (F_D_takesFor ((16 : Int32) + a)) kB)) := by
    refine rs_tb (e_takesFor hT hR hh hvb).rs (fun _ M' q kq => ?_)
    have := (e_takesFor hT (TRe_kh hR kq) q hva).rs
    rw [tp_drp] at this
    exact this
  rw [q_u23, q_o23, et0, bd_some, dt0, bd_some, e_goesC hT hC, bd_some]
  have E : ∀ r, fg r (gs n sup fc (tp f 0) b = true ∧ gs n sup fc (tp f 1) ((16 : Int32) + a) = true) → Ou P Mc Mr (F_W_takeIf r 2 Mc) (bd (F_D_takesFor b Mr) (kT (F_D_takesFor ((16 : Int32) + a)) kB)) := fun r hr => ou_take (m := 2) hc tk hw (fun z => gs_in hva z.2) hr T.1 T.2
  by_cases c : gs n sup fc (tp f 0) b = true
  · rw [if_pos c, if_neg (by decide), et1, bd_some, e_goesC hT hC, bd_some]
    by_cases c1 : gs n sup fc (tp f 1) ((16 : Int32) + a) = true
    · rw [if_pos c1, if_neg (by decide), bd_ret]
      exact E 1 (fg.y ⟨c, c1⟩)
    · rw [if_neg c1, if_pos rfl, bd_ret]
      exact E 0 (fg.n (fun z => c1 z.2))
  · rw [if_neg c, if_pos rfl, bd_ret]
    exact E 0 (fg.n (fun z => c z.1))
theorem op_call {n : Nat} {sup : Nat → Nat} {fc : Nat → Int32} {P : MT} {f : Fr} {Mc Mr : Mm} {k a b : Int32} (h : Cx n sup fc P f Mc Mr) (ha : tok a) (hb : tok b) : Ou P Mc Mr (F_W_useObject (nI 24) a b Mc) (F_D_objects k (nI 24) a b Mr) := by
  obtain ⟨hT, hC, hR, hO, hP, hD, hc, hh, tk, hw⟩ := h
  have hfd := hc.1
  have et0 : F_R_top 0 0 Mc = some (tp f 0, Mc) := e_topC (e := 0) hc (by omega)
  have dt0 : F_D_top 0 Mr = some (tp f 0, Mr) := e_topD (e := 0) hh (by omega)
  have hv := tok_m1 ha
  have T := rs_p (v := b) (e_takesFor hT hR hh hv).rs (show fd f - 1 < 16 by omega)
  rw [q_u24, q_o24, et0, bd_some, dt0, bd_some, e_goesC hT hC, bd_some, bd_ret]
  exact ou_exch (m := 1) hO hP hc tk hb (gs_in hv) gs_fg T.1 T.2
theorem op_cast {n : Nat} {sup : Nat → Nat} {fc : Nat → Int32} {P : MT} {f : Fr} {Mc Mr : Mm} {k a b : Int32} (h : Cx n sup fc P f Mc Mr) (ha : tok a) : Ou P Mc Mr (F_W_useObject (nI 25) a b Mc) (F_D_objects k (nI 25) a b Mr) := by
  obtain ⟨hT, hC, hR, hO, hP, hD, hc, hh, tk, hw⟩ := h
  have hfd := hc.1
  have et0 : F_R_top 0 0 Mc = some (tp f 0, Mc) := e_topC (e := 0) hc (by omega)
  have dt0 : F_D_top 0 Mr = some (tp f 0, Mr) := e_topD (e := 0) hh (by omega)
  have T := rs_p (v := a) (e_takesRef hT hR hh).rs (show fd f - 1 < 16 by omega)
  rw [q_u25, q_o25, et0, bd_some, dt0, bd_some, lt_v, bd_ret]
  exact ou_exch (m := 1) hO hP hc tk ha rn_in (e_refNullC hT hC _) T.1 T.2
theorem op_row {n : Nat} {sup : Nat → Nat} {fc : Nat → Int32} {P : MT} {f : Fr} {Mc Mr : Mm} {k a b : Int32} (h : Cx n sup fc P f Mc Mr) (ha : tok (a + 64)) : Ou P Mc Mr (F_W_useRow (nI 26) a Mc) (F_D_objects k (nI 26) a b Mr) := by
  obtain ⟨hT, hC, hR, hO, hP, hD, hc, hh, tk, hw⟩ := h
  have hfd := hc.1
  have et0 : F_R_top 0 0 Mc = some (tp f 0, Mc) := e_topC (e := 0) hc (by omega)
  have dt0 : F_D_top 0 Mr = some (tp f 0, Mr) := e_topD (e := 0) hh (by omega)
  have h1 : ¬ (1 : Int32) = -1 := by decide
  have T := rs_p (v := a + 64) (e_takes (v := 1) hh h1).rs (show fd f - 1 < 16 by omega)
  have hm : tp f 0 = 1 → 1 ≤ fd f := fun z => tp_in (fun w => by rw [w] at z; exact absurd z (by decide))
  rw [q_r26, q_o26, et0, bd_some, dt0, bd_some, show (64 : Int32) + a = a + 64 from Int32.add_comm _ _]
  by_cases c : tp f 0 = 1
  · rw [if_pos c, bd_ret]
    exact ou_exch (m := 1) hO hP hc tk ha hm (fg.y c) T.1 T.2
  · rw [if_neg c, bd_ret]
    exact ou_exch (m := 1) hO hP hc tk ha hm (fg.n c) T.1 T.2
theorem e_rowOf {v a : Int32} {M : Mm} : fg (P_W_isRowOf v a M) (v = a ∨ v = 5) := by
  unfold P_W_isRowOf
  by_cases c : v = 5
  · rw [if_pos c]
    exact fg.y (Or.inr c)
  · rw [if_neg c]
    by_cases c2 : v = a
    · rw [if_pos c2]
      exact fg.y (Or.inl c2)
    · rw [if_neg c2]
      exact fg.n (fun z => z.elim c2 c)
theorem op_at {n : Nat} {sup : Nat → Nat} {fc : Nat → Int32} {P : MT} {f : Fr} {Mc Mr : Mm} {k a b : Int32} (h : Cx n sup fc P f Mc Mr) (ha : tok a) (he : tok (el a)) : Ou P Mc Mr (F_W_useRow (nI 27) a Mc) (F_D_objects k (nI 27) a b Mr) := by
  obtain ⟨hT, hC, hR, hO, hP, hD, hc, hh, tk, hw⟩ := h
  have hfd := hc.1
  have et0 : F_R_top 0 0 Mc = some (tp f 0, Mc) := e_topC (e := 0) hc (by omega)
  have et1 : F_R_top 0 1 Mc = some (tp f 1, Mc) := e_topC (e := 1) hc (by omega)
  have dt0 : F_D_top 0 Mr = some (tp f 0, Mr) := e_topD (e := 0) hh (by omega)
  have h1 : ¬ (1 : Int32) = -1 := by decide
  have hva := tok_m1 ha
  have T : Rs (tp f 0 = 1 ∧ (tp f 1 = a ∨ tp f 1 = 5)) (psh (drp f 2) (el a)) Mr (bd (F_D_takes 1 Mr) (kT (F_D_takesRow a) (kP (el a)))) := by
    refine rs_tp (e_takes (v := 1) hh h1).rs (fun _ M' q _ => ?_) (by show fd f - 2 < 16; omega)
    have := (e_takesRow q hva).rs
    rw [tp_drp] at this
    exact this
  have hm : (tp f 0 = 1 ∧ (tp f 1 = a ∨ tp f 1 = 5)) → 2 ≤ fd f := fun z => tp_in (fun w => by
    rcases z.2 with z | z
    · exact hva (by rw [← z, w])
    · rw [w] at z
      exact absurd z (by decide))
  have E : ∀ r, fg r (tp f 0 = 1 ∧ (tp f 1 = a ∨ tp f 1 = 5)) → Ou P Mc Mr (F_W_exchangeIf r 2 (el a) Mc) (bd (F_D_takes 1 Mr) (kT (F_D_takesRow a) (kP (el a)))) := fun r hr => ou_exch (m := 2) hO hP hc tk he hm hr T.1 T.2
  rw [q_r27, q_o27, et0, bd_some, dt0, bd_some]
  by_cases c : tp f 0 = 1
  · rw [if_pos c, et1, bd_some]
    have er := e_rowOf (v := tp f 1) (a := a) (M := Mc)
    by_cases c1 : tp f 1 = a ∨ tp f 1 = 5
    · rw [if_neg (fun z => er.z.mp z c1), bd_ret]
      exact E 1 (fg.y ⟨c, c1⟩)
    · rw [if_pos (er.z.mpr c1), bd_ret]
      exact E 0 (fg.n (fun z => c1 z.2))
  · rw [if_neg c, bd_ret]
    exact E 0 (fg.n (fun z => c z.1))
theorem op_putrow {n : Nat} {sup : Nat → Nat} {fc : Nat → Int32} {P : MT} {f : Fr} {Mc Mr : Mm} {k a b : Int32} (h : Cx n sup fc P f Mc Mr) (ha : tok a) (he : tok (el a)) : Ou P Mc Mr (F_W_useRow (nI 28) a Mc) (F_D_objects k (nI 28) a b Mr) := by
  obtain ⟨hT, hC, hR, hO, hP, hD, hc, hh, tk, hw⟩ := h
  have hfd := hc.1
  have et0 : F_R_top 0 0 Mc = some (tp f 0, Mc) := e_topC (e := 0) hc (by omega)
  have et1 : F_R_top 0 1 Mc = some (tp f 1, Mc) := e_topC (e := 1) hc (by omega)
  have et2 : F_R_top 0 2 Mc = some (tp f 2, Mc) := e_topC (e := 2) hc (by omega)
  have dt0 : F_D_top 0 Mr = some (tp f 0, Mr) := e_topD (e := 0) hh (by omega)
  have h1 : ¬ (1 : Int32) = -1 := by decide
  have hva := tok_m1 ha
  have hve := tok_m1 he
  have T2 : ∀ M', Dh M' (drp f 1) → Rs (tp f 1 = 1 ∧ (tp f 2 = a ∨ tp f 2 = 5)) (drp f 3) M' (bd (F_D_takes 1 M') (kT (F_D_takesRow a) kB)) := by
    intro M' q
    have q1 := (e_takes (v := 1) q h1).rs
    rw [tp_drp] at q1
    refine rs_tb q1 (fun _ M2 q2 _ => ?_)
    have := (e_takesRow q2 hva).rs
    rw [tp_drp, tp_drp] at this
    exact this
  have T : Rs (gs n sup fc (tp f 0) (el a) = true ∧ (tp f 1 = 1 ∧ (tp f 2 = a ∨ tp f 2 = 5))) (drp f 3) Mr (bd (F_D_takesFor (el a) Mr) (kT (F_D_takes 1) (kT (F_D_takesRow a) kB))) := by
    have q0 := (e_takesFor hT hR hh hve).rs
    constructor
    · rintro ⟨z1, z2⟩
      obtain ⟨M', e1, e2, e3⟩ := q0.1 z1
      obtain ⟨M2, g1, g2, g3⟩ := (T2 M' e2).1 z2
      refine ⟨M2, ?_, g2, e3.tr g3⟩
      rw [e1, bd_some, kT, if_neg (by decide), g1]
    · intro z
      by_cases c : gs n sup fc (tp f 0) (el a) = true
      · obtain ⟨M', e1, e2, e3⟩ := q0.1 c
        obtain ⟨M2, g1, g2⟩ := (T2 M' e2).2 (fun w => z ⟨c, w⟩)
        refine ⟨M2, ?_, e3.tr g2⟩
        rw [e1, bd_some, kT, if_neg (by decide), g1]
      · obtain ⟨M', e1, e2⟩ := q0.2 c
        refine ⟨M', ?_, e2⟩
        rw [e1, bd_some, kT, if_pos rfl]
  have E : ∀ r, fg r (gs n sup fc (tp f 0) (el a) = true ∧ (tp f 1 = 1 ∧ (tp f 2 = a ∨ tp f 2 = 5))) → Ou P Mc Mr (F_W_takeIf r 3 Mc) (bd (F_D_takesFor (el a) Mr) (kT (F_D_takes 1) (kT (F_D_takesRow a) kB))) := fun r hr => ou_take (m := 3) hc tk hw (fun z => tp_in (fun w => by
    rcases z.2.2 with z | z
    · exact hva (by rw [← z, w])
    · rw [w] at z
      exact absurd z (by decide))) hr T.1 T.2
  rw [q_r28, q_o28, et0, bd_some, dt0, bd_some, e_goesC hT hC, bd_some]
  by_cases c : gs n sup fc (tp f 0) (el a) = true
  · rw [if_pos c, if_neg (by decide), et1, bd_some]
    by_cases c1 : tp f 1 = 1
    · rw [if_pos c1, et2, bd_some]
      have er := e_rowOf (v := tp f 2) (a := a) (M := Mc)
      by_cases c2 : tp f 2 = a ∨ tp f 2 = 5
      · rw [if_neg (fun z => er.z.mp z c2), bd_ret]
        exact E 1 (fg.y ⟨c, c1, c2⟩)
      · rw [if_pos (er.z.mpr c2), bd_ret]
        exact E 0 (fg.n (fun z => c2 z.2.2))
    · rw [if_neg c1, bd_ret]
      exact E 0 (fg.n (fun z => c1 z.2.1))
  · rw [if_neg c, if_pos rfl, bd_ret]
    exact E 0 (fg.n (fun z => c z.1))
theorem op_size {n : Nat} {sup : Nat → Nat} {fc : Nat → Int32} {P : MT} {f : Fr} {Mc Mr : Mm} {k a b : Int32} (h : Cx n sup fc P f Mc Mr) : Ou P Mc Mr (F_W_useRow (nI 29) a Mc) (F_D_objects k (nI 29) a b Mr) := by
  obtain ⟨hT, hC, hR, hO, hP, hD, hc, hh, tk, hw⟩ := h
  have hfd := hc.1
  have et0 : F_R_top 0 0 Mc = some (tp f 0, Mc) := e_topC (e := 0) hc (by omega)
  have dt0 : F_D_top 0 Mr = some (tp f 0, Mr) := e_topD (e := 0) hh (by omega)
  have need : ∀ oc od, oc = some (2, Mc) → od = some (0, Mr) → Ou P Mc Mr oc od := fun oc od h1 h2 => Or.inl ⟨Mc, Mr, h1, h2, KF.rf, KX.rf⟩
  have Y : 0 < fd f → Ou P Mc Mr (F_W_exchangeIf 1 1 1 Mc) (F_D_objects_b496 Mr) := by
    intro hd
    obtain ⟨M1, e1, e2, e3⟩ := e_dropD hh hd
    obtain ⟨M2, g1, g2, g3⟩ := e_put (v := 1) e2 (show fd f - 1 < 16 by omega)
    unfold F_D_objects_b496
    rw [e1, bv_some, g1, bd_some, bnz_ok (Or.inr rfl)]
    exact ou_exch (m := 1) (p := True) hO hP hc tk (tokN (j := 1) (by omega)) (fun _ => hd) (fg.y trivial) (fun _ => ⟨M2, rfl, g2, e3.tr g3⟩) (fun z => absurd trivial z)
  rw [q_r29, q_o29, et0, bd_some, dt0, bd_some]
  by_cases c : tp f 0 = 5
  · rw [if_pos c, if_pos c, bd_ret]
    exact Y (tp_in (fun w => by rw [w] at c; exact absurd c (by decide)))
  · rw [if_neg c, if_neg c]
    unfold P_T_isRow
    by_cases c1 : tp f 0 < 64
    · rw [if_pos c1, if_pos c1, if_pos rfl, bd_ret]
      exact need _ _ rfl rfl
    · rw [if_neg c1, if_neg c1, lt_v, lt_v, e_isRefC hT hC, e_isRefD hT hR]
      by_cases c2 : rf n (tp f 0) = true
      · rw [if_pos c2, if_neg (by decide), if_neg (by decide), bd_ret]
        exact Y (rn_in (Or.inr c2))
      · rw [if_neg c2, if_pos rfl, if_pos rfl, bd_ret]
        exact need _ _ rfl rfl
