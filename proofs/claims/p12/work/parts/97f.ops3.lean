theorem q_s4 {M : Mm} : F_W_shuffle (nI 4) M = bd (F_R_top 0 0 M) (fun r36 M35 => bd (F_R_hasNarrow 0 0 M35) (fun r3 M2 => (if r3 = 0 then some (2, M2) else bd (F_W_takeIf 1 1 M2) (fun r33 M32 => some (r33, M32))))) := rfl
theorem q_s5 {M : Mm} : F_W_shuffle (nI 5) M = bd (F_R_top 0 0 M) (fun r36 M35 => bd (F_R_hasNarrow 0 0 M35) (fun r3 M2 => (if r3 = 0 then some (2, M2) else bd (F_R_push 0 r36 (M2.1 4 0 13) M2) (fun r30 M29 => some (r30, M29))))) := rfl
theorem q_s6 {M : Mm} : F_W_shuffle (nI 6) M = bd (F_R_top 0 0 M) (fun r36 M35 => bd (F_R_hasNarrow 0 0 M35) (fun r3 M2 => (if r3 = 0 then some (2, M2) else bd (F_R_hasNarrow 0 1 M2) (fun r9 M8 => (if r9 = 0 then some (2, M8) else bd (F_R_top 0 1 M8) (fun r13 M12 => bv (F_R_drop 0 2 M12) (fun M16 => bd (F_W_pushBoth r36 r13 M16) (fun r19 M18 => (if r19 = 0 then bd (F_R_push 0 r36 (M18.1 4 0 13) M18) (fun r24 M23 => some (r24, M23)) else some (r19, M18)))))))))) := rfl
theorem q_s7 {M : Mm} : F_W_shuffle (nI 7) M = bd (F_R_top 0 0 M) (fun r36 M35 => bd (F_R_hasNarrow 0 0 M35) (fun r3 M2 => (if r3 = 0 then some (2, M2) else bd (F_R_hasNarrow 0 1 M2) (fun r9 M8 => (if r9 = 0 then some (2, M8) else bd (F_R_top 0 1 M8) (fun r13 M12 => bv (F_R_drop 0 2 M12) (fun M16 => bd (F_W_pushBoth r36 r13 M16) (fun r19 M18 => (if r19 = 0 then some (r19, M18) else some (r19, M18)))))))))) := rfl
theorem q_s8 {M : Mm} : F_W_shuffle (nI 8) M = bd (F_R_top 0 0 M) (fun r36 M35 => lt (P_G_isWide r36 M35) fun r39 => (if r39 = 0 then bd (F_R_hasNarrow 0 0 M35) (fun r3 M2 => (if r3 = 0 then some (2, M2) else bd (F_R_hasNarrow 0 1 M2) (fun r9 M8 => (if r9 = 0 then some (2, M8) else bd (F_R_top 0 1 M8) (fun r13 M12 => bd (F_W_pushBoth r13 r36 M12) (fun r27 M26 => some (r27, M26))))))) else bd (F_R_push 0 r36 (M35.1 4 0 13) M35) (fun r43 M42 => some (r43, M42)))) := rfl
theorem q_m4 {a : Int32} {M : Mm} : F_D_moves (nI 4) a M = bd (F_D_single 0 M) (fun r80 M79 => (if r80 = 0 then some (0, M79) else bv (F_D_drop M79) (fun M83 => some (1, M83)))) := rfl
theorem q_m5 {a : Int32} {M : Mm} : F_D_moves (nI 5) a M = bd (F_D_single 0 M) (fun r86 M85 => (if r86 = 0 then some (0, M85) else bd (F_D_top 0 M85) (fun r90 M89 => bd (F_D_put r90 M89) kB))) := rfl
theorem q_m6 {a : Int32} {M : Mm} : F_D_moves (nI 6) a M = bd (F_D_single 0 M) (fun r97 M96 => (if r97 = 0 then some (0, M96) else bd (F_D_single 1 M96) (fun r101 M100 => (if r101 = 0 then some (0, M100) else bd (F_D_top 0 M100) (fun r105 M104 => bd (F_D_top 1 M104) (fun r108 M107 => bv (F_D_drop M107) (fun M110 => bv (F_D_drop M110) (fun M112 => bd (F_D_put r105 M112) (fun r115 M114 => bd (F_D_put r108 M114) (fun r118 M117 => bd (F_D_put r105 M117) kB)))))))))) := rfl
theorem q_m7 {a : Int32} {M : Mm} : F_D_moves (nI 7) a M = bd (F_D_single 0 M) (fun r97 M96 => (if r97 = 0 then some (0, M96) else bd (F_D_single 1 M96) (fun r101 M100 => (if r101 = 0 then some (0, M100) else bd (F_D_top 0 M100) (fun r105 M104 => bd (F_D_top 1 M104) (fun r108 M107 => bv (F_D_drop M107) (fun M110 => bv (F_D_drop M110) (fun M112 => bd (F_D_put r105 M112) (fun r115 M114 => bd (F_D_put r108 M114) (fun r118 M117 => some (1, M117))))))))))) := rfl
theorem q_m8 {a : Int32} {M : Mm} : F_D_moves (nI 8) a M = (if (M.1 30 0 31) ≤ 0 then F_D_moves_b336 M else bd (F_D_single 0 M) (fun r49 M48 => (if r49 = 0 then bd (F_D_top 0 M48) (fun r53 M52 => bd (F_D_put r53 M52) kZ) else F_D_moves_b336 M48))) := rfl
abbrev nr (f : Fr) (e : Nat) : Prop := e < fd f ∧ wid (fs f (fd f - 1 - e)) = 1
theorem nr_tp {f : Fr} {e : Nat} (h : e < fd f) : tp f e = fs f (fd f - 1 - e) := if_pos h
theorem nr_tok {f : Fr} {e : Nat} (h : e < fd f) (tk : TK f) : tok (tp f e) := by
  rw [nr_tp h]
  exact tk.2 _ (by omega)
/-- class: two pushes -/
theorem e_pushBoth {P : MT} {f : Fr} {M : Mm} {x y : Int32} (hO : MOk P) (hP : CMe P M) (hc : Cf M 0 f) : (wt (psh (psh f x) y) ≤ pS P → ∃ M', F_W_pushBoth x y M = some (0, M') ∧ Cf M' 0 (psh (psh f x) y) ∧ KF 0 M M') ∧ (¬ wt (psh (psh f x) y) ≤ pS P → ∃ M', F_W_pushBoth x y M = some (3, M') ∧ KF 0 M M') := by
  obtain ⟨p1, p2⟩ := e_push (v := x) (m := pS P) hc hO.2.2.2.2.1
  unfold F_W_pushBoth
  rw [hP.2.2.2.2.2.1]
  have hm : wt (psh f x) ≤ wt (psh (psh f x) y) := by
    rw [wt_psh (f := psh f x)]
    omega
  constructor
  · intro w
    obtain ⟨M1, e1, e2, e3⟩ := p1 (Nat.le_trans hm w)
    obtain ⟨p3, p4⟩ := e_push (v := y) (m := pS P) e2 hO.2.2.2.2.1
    obtain ⟨M2, b1, b2, b3⟩ := p3 w
    rw [e1, bd_some, if_pos rfl, (e3.me hP).2.2.2.2.2.1, b1]
    exact ⟨M2, rfl, b2, e3.tr b3⟩
  · intro w
    by_cases c : wt (psh f x) ≤ pS P
    · obtain ⟨M1, e1, e2, e3⟩ := p1 c
      obtain ⟨p3, p4⟩ := e_push (v := y) (m := pS P) e2 hO.2.2.2.2.1
      rw [e1, bd_some, if_pos rfl, (e3.me hP).2.2.2.2.2.1, p4 w]
      exact ⟨M1, rfl, e3⟩
    · rw [p2 c, bd_some, if_neg (by decide)]
      exact ⟨M, rfl, KF.rf⟩
theorem if10 {p : Prop} [Decidable p] : ((if p then (1 : Int32) else 0) = 0) ↔ ¬ p := by
  by_cases h : p
  · rw [if_pos h]
    exact ⟨fun z => absurd z (by decide), fun z => absurd h z⟩
  · rw [if_neg h]
    exact ⟨fun _ => h, fun _ => rfl⟩
theorem op_shuffle {n : Nat} {sup : Nat → Nat} {fc : Nat → Int32} {P : MT} {f : Fr} {Mc Mr : Mm} {a : Int32} {o : Nat} (h : Cx n sup fc P f Mc Mr) (ho : o = 4 ∨ o = 5 ∨ o = 6 ∨ o = 7 ∨ o = 8) : Ou P Mc Mr (F_W_shuffle (nI o) Mc) (F_D_moves (nI o) a Mr) := by
  obtain ⟨hT, hC, hR, hO, hP, hD, hc, hh, tk, hw⟩ := h
  have hfd := hc.1
  have et0 : F_R_top 0 0 Mc = some (tp f 0, Mc) := e_topC (e := 0) hc (by omega)
  have et1 : F_R_top 0 1 Mc = some (tp f 1, Mc) := e_topC (e := 1) hc (by omega)
  have en0 : F_R_hasNarrow 0 0 Mc = some (if nr f 0 then 1 else 0, Mc) := e_narrow (e := 0) hc (by omega)
  have en1 : F_R_hasNarrow 0 1 Mc = some (if nr f 1 then 1 else 0, Mc) := e_narrow (e := 1) hc (by omega)
  have dt0 : F_D_top 0 Mr = some (tp f 0, Mr) := e_topD (e := 0) hh (by omega)
  have dt1 : F_D_top 1 Mr = some (tp f 1, Mr) := e_topD (e := 1) hh (by omega)
  have dn0 : F_D_single 0 Mr = some (if nr f 0 then 1 else 0, Mr) := e_single (e := 0) hh (by omega)
  have dn1 : F_D_single 1 Mr = some (if nr f 1 then 1 else 0, Mr) := e_single (e := 1) hh (by omega)
  have need : ∀ oc od, oc = some (2, Mc) → od = some (0, Mr) → Ou P Mc Mr oc od := fun oc od h1 h2 => Or.inl ⟨Mc, Mr, h1, h2, KF.rf, KX.rf⟩
  rcases ho with rfl | rfl | rfl | rfl | rfl
  · rw [q_s4, q_m4, et0, bd_some, en0, bd_some, dn0, bd_some]
    by_cases c : nr f 0
    · rw [if_neg (fun z => if10.mp z c), if_neg (fun z => if10.mp z c), bd_ret]
      obtain ⟨M', e1, e2, e3⟩ := e_dropD hh (show 0 < fd f from c.1)
      rw [e1, bv_some]
      exact ou_take (m := 1) (p := True) hc tk hw (fun _ => c.1) (fg.y trivial) (fun _ => ⟨M', rfl, e2, e3⟩) (fun z => absurd trivial z)
    · rw [if_pos (if10.mpr c), if_pos (if10.mpr c)]
      exact need _ _ rfl rfl
  · rw [q_s5, q_m5, et0, bd_some, en0, bd_some, dn0, bd_some]
    by_cases c : nr f 0
    · rw [if_neg (fun z => if10.mp z c), if_neg (fun z => if10.mp z c), bd_ret, dt0, bd_some]
      obtain ⟨M2, b1, b2, b3⟩ := e_put (v := tp f 0) hh (by omega)
      rw [b1, bd_some]
      exact ou_push hO hP hc KF.rf tk (nr_tok c.1 tk) ⟨M2, rfl, b2, b3⟩
    · rw [if_pos (if10.mpr c), if_pos (if10.mpr c)]
      exact need _ _ rfl rfl
  · rw [q_s6, q_m6, et0, bd_some, en0, bd_some, dn0, bd_some]
    by_cases c : nr f 0
    · rw [if_neg (fun z => if10.mp z c), if_neg (fun z => if10.mp z c), en1, bd_some, dn1, bd_some]
      by_cases c1 : nr f 1
      · rw [if_neg (fun z => if10.mp z c1), if_neg (fun z => if10.mp z c1), et1, bd_some, dt0, bd_some, dt1, bd_some]
        have c1' : 1 < fd f := c1.1
        obtain ⟨M1, d1, d2, d3⟩ := e_dropD hh c.1
        obtain ⟨M2, g1, g2, g3⟩ := e_dropD d2 (show 0 < fd f - 1 by omega)
        obtain ⟨M3, h1, h2, h3⟩ := e_put (v := tp f 0) g2 (show fd f - 1 - 1 < 16 by omega)
        obtain ⟨M4, i1, i2, i3⟩ := e_put (v := tp f 1) h2 (show fd f - 1 - 1 + 1 < 16 by omega)
        obtain ⟨M5, j1, j2, j3⟩ := e_put (v := tp f 0) i2 (show fd f - 1 - 1 + 1 + 1 < 16 by omega)
        rw [d1, bv_some, g1, bv_some, h1, bd_some, i1, bd_some, j1, bd_some]
        obtain ⟨N1, k1, k2, k3⟩ := e_drop hc (show 2 ≤ fd f from c1')
        rw [show F_R_drop 0 2 Mc = some N1 from k1, bv_some]
        obtain ⟨p1, p2⟩ := e_pushBoth (x := tp f 0) (y := tp f 1) hO (k3.me hP) k2
        have hmono : wt (psh (psh (drp f 2) (tp f 0)) (tp f 1)) ≤ wt (psh (psh (psh (drp f 2) (tp f 0)) (tp f 1)) (tp f 0)) := by
          rw [wt_psh (f := psh (psh (drp f 2) (tp f 0)) (tp f 1))]
          omega
        have tk2 : TK (psh (psh (drp f 2) (tp f 0)) (tp f 1)) := TK_psh (TK_psh (TK_drp tk) (nr_tok c.1 tk)) (nr_tok c1.1 tk)
        by_cases w : wt (psh (psh (drp f 2) (tp f 0)) (tp f 1)) ≤ pS P
        · obtain ⟨N2, l1, l2, l3⟩ := p1 w
          rw [l1, bd_some, if_pos rfl, bd_ret]
          exact ou_push hO ((k3.tr l3).me hP) l2 (k3.tr l3) tk2 (nr_tok c.1 tk) ⟨M5, rfl, j2, (((d3.tr g3).tr h3).tr i3).tr j3⟩
        · obtain ⟨N2, l1, l2⟩ := p2 w
          rw [l1, bd_some, if_neg (by decide)]
          exact Or.inr ⟨psh (psh (psh (drp f 2) (tp f 0)) (tp f 1)) (tp f 0), M5, rfl, j2, (((d3.tr g3).tr h3).tr i3).tr j3, TK_psh tk2 (nr_tok c.1 tk), fun q => absurd (Nat.le_trans hmono q) w, fun _ => ⟨N2, rfl, k3.tr l2⟩⟩
      · rw [if_pos (if10.mpr c1), if_pos (if10.mpr c1)]
        exact need _ _ rfl rfl
    · rw [if_pos (if10.mpr c), if_pos (if10.mpr c)]
      exact need _ _ rfl rfl
  · rw [q_s7, q_m7, et0, bd_some, en0, bd_some, dn0, bd_some]
    by_cases c : nr f 0
    · rw [if_neg (fun z => if10.mp z c), if_neg (fun z => if10.mp z c), en1, bd_some, dn1, bd_some]
      by_cases c1 : nr f 1
      · rw [if_neg (fun z => if10.mp z c1), if_neg (fun z => if10.mp z c1), et1, bd_some, dt0, bd_some, dt1, bd_some]
        have c1' : 1 < fd f := c1.1
        obtain ⟨M1, d1, d2, d3⟩ := e_dropD hh c.1
        obtain ⟨M2, g1, g2, g3⟩ := e_dropD d2 (show 0 < fd f - 1 by omega)
        obtain ⟨M3, h1, h2, h3⟩ := e_put (v := tp f 0) g2 (show fd f - 1 - 1 < 16 by omega)
        obtain ⟨M4, i1, i2, i3⟩ := e_put (v := tp f 1) h2 (show fd f - 1 - 1 + 1 < 16 by omega)
        rw [d1, bv_some, g1, bv_some, h1, bd_some, i1, bd_some]
        obtain ⟨N1, k1, k2, k3⟩ := e_drop hc (show 2 ≤ fd f from c1')
        rw [show F_R_drop 0 2 Mc = some N1 from k1, bv_some]
        obtain ⟨p1, p2⟩ := e_pushBoth (x := tp f 0) (y := tp f 1) hO (k3.me hP) k2
        have tk2 : TK (psh (psh (drp f 2) (tp f 0)) (tp f 1)) := TK_psh (TK_psh (TK_drp tk) (nr_tok c.1 tk)) (nr_tok c1.1 tk)
        refine Or.inr ⟨psh (psh (drp f 2) (tp f 0)) (tp f 1), M4, rfl, i2, ((d3.tr g3).tr h3).tr i3, tk2, fun w => ?_, fun w => ?_⟩
        · obtain ⟨N2, l1, l2, l3⟩ := p1 w
          rw [l1, bd_some, if_pos rfl]
          exact ⟨N2, rfl, l2, k3.tr l3⟩
        · obtain ⟨N2, l1, l2⟩ := p2 w
          rw [l1, bd_some, if_neg (by decide)]
          exact ⟨N2, rfl, k3.tr l2⟩
      · rw [if_pos (if10.mpr c1), if_pos (if10.mpr c1)]
        exact need _ _ rfl rfl
    · rw [if_pos (if10.mpr c), if_pos (if10.mpr c)]
      exact need _ _ rfl rfl
  · rw [q_s8, q_m8, et0, bd_some, lt_v, e_wideC]
    have T : Ou P Mc Mr (bd (F_R_hasNarrow 0 0 Mc) (fun r3 M2 => (if r3 = 0 then some (2, M2) else bd (F_R_hasNarrow 0 1 M2) (fun r9 M8 => (if r9 = 0 then some (2, M8) else bd (F_R_top 0 1 M8) (fun r13 M12 => bd (F_W_pushBoth r13 (tp f 0) M12) (fun r27 M26 => some (r27, M26)))))))) (F_D_moves_b336 Mr) := by
      unfold F_D_moves_b336
      rw [en0, bd_some, dn0, bd_some]
      by_cases c : nr f 0
      · rw [if_neg (fun z => if10.mp z c), if_neg (fun z => if10.mp z c), en1, bd_some, dn1, bd_some]
        by_cases c1 : nr f 1
        · rw [if_neg (fun z => if10.mp z c1), if_neg (fun z => if10.mp z c1), et1, bd_some, bd_ret, dt1, bd_some, dt0, bd_some]
          obtain ⟨M3, h1, h2, h3⟩ := e_put (v := tp f 1) hh (show fd f < 16 by omega)
          obtain ⟨M4, i1, i2, i3⟩ := e_put (v := tp f 0) h2 (show fd f + 1 < 16 by omega)
          rw [h1, bd_some, i1, bd_some, bnz_ok (Or.inr rfl)]
          obtain ⟨p1, p2⟩ := e_pushBoth (x := tp f 1) (y := tp f 0) hO hP hc
          exact Or.inr ⟨psh (psh f (tp f 1)) (tp f 0), M4, rfl, i2, h3.tr i3, TK_psh (TK_psh tk (nr_tok c1.1 tk)) (nr_tok c.1 tk), p1, p2⟩
        · rw [if_pos (if10.mpr c1), if_pos (if10.mpr c1)]
          exact need _ _ rfl rfl
      · rw [if_pos (if10.mpr c), if_pos (if10.mpr c)]
        exact need _ _ rfl rfl
    by_cases c0 : fd f = 0
    · have m1 : tp f 0 = -1 := if_neg (by omega)
      have r0 : Mr.1 30 0 31 ≤ 0 := by
        rw [(fd0 hh).mpr c0]
        decide
      rw [if_pos r0, if_neg (show ¬ (tp f 0 = 3 ∨ tp f 0 = 4) by rw [m1]; decide), if_pos rfl]
      exact T
    · have r0 : ¬ Mr.1 30 0 31 ≤ 0 := by
        rw [hh.2.1]
        exact nI_nle (by omega) (by omega)
      rw [if_neg r0, dn0, bd_some]
      by_cases c : nr f 0
      · have m1 : ¬ (tp f 0 = 3 ∨ tp f 0 = 4) := fun z => by
          have := wid2.mpr z
          rw [nr_tp c.1, c.2] at this
          exact absurd this (by decide)
        rw [if_neg m1, if_pos rfl, if_neg (fun z => if10.mp z c)]
        exact T
      · have m1 : tp f 0 = 3 ∨ tp f 0 = 4 := by
          rw [nr_tp (show 0 < fd f by omega)]
          apply wid2.mp
          have w1 := wid_1 (fs f (fd f - 1 - 0))
          have : ¬ wid (fs f (fd f - 1 - 0)) = 1 := fun z => c ⟨by omega, z⟩
          omega
        rw [if_pos m1, if_neg (by decide), bd_ret, if_pos (if10.mpr c), dt0, bd_some]
        obtain ⟨M2, b1, b2, b3⟩ := e_put (v := tp f 0) hh (by omega)
        rw [b1, bd_some]
        exact ou_push hO hP hc KF.rf tk (nr_tok (by omega) tk) ⟨M2, bnz_ok (Or.inr rfl), b2, b3⟩
