theorem q_m2 {a : Int32} {M : Mm} : F_D_moves (nI 2) a M = bnd a 14 (lt (M.1 49 0 (a : Int32).toNatClampNeg : Int32) fun n63 => (if n63 = 0 then some (0, M) else (if 2000 ≤ n63 then some (0, M) else lt (P_D_isWide n63 M) fun r67 => (if r67 = 0 then F_D_moves_b93 a n63 M else (if (a + 1) < (M.1 30 0 15) then F_D_moves_b93 a n63 M else some (0, M)))))) := rfl
theorem q_m3 {a : Int32} {M : Mm} : F_D_moves (nI 3) a M = bd (F_D_top 0 M) (fun r72 M71 => (if r72 < 1 then some (0, M71) else lt (P_D_isWide r72 M71) fun r75 => (if r75 = 0 then F_D_moves_b135 a r72 M71 else (if (a + 1) < (M71.1 30 0 15) then F_D_moves_b135 a r72 M71 else some (0, M71))))) := rfl
theorem q_o30 {k a b : Int32} {M : Mm} : F_D_objects k (nI 30) a b M = bd (F_D_top 0 M) (fun r51 M50 => bv (F_D_touches a 1 M50) (fun M53 => bnd a 14 ((if (M53.1 49 0 (a : Int32).toNatClampNeg) = 1 then some (1, M53) else some (0, M53))))) := rfl
theorem e_fits {P : MT} {M : Mm} {a : Nat} {t : Int32} (hO : MOk P) (hP : CMe P M) (ha : a < 100) : fg (P_W_fitsLocal (nI a) t M) (a + wid t ≤ pL P) := by
  unfold P_W_fitsLocal
  have hw := wid_1 t
  have hL := hO.2.2.2.1
  rw [lt_v, e_width, nI_add, hP.2.2.2.2.1]
  by_cases c : a + wid t ≤ pL P
  · rw [if_neg (nI_nlt c (by omega))]
    exact fg.y c
  · rw [if_pos (nI_lt (by omega) (by omega))]
    exact fg.n c
theorem e_ret {t : Int32} {M : Mm} (h : tok t) : fg (P_G_isReturn t M) (2000 ≤ t) := by
  obtain ⟨j, rfl, hj⟩ := h
  unfold P_G_isReturn
  have e1 : nI j < 2000 ↔ j < 2000 := nI_ltI (b := 2000) (by omega) (by decide)
  have e2 : (2048 : Int32) ≤ nI j ↔ 2048 ≤ j := nI_leI (a := 2048) (by decide) (by omega)
  have e3 : (2000 : Int32) ≤ nI j ↔ 2000 ≤ j := nI_leI (a := 2000) (by decide) (by omega)
  simp only [e1, e2]
  by_cases c : j < 2000
  · rw [if_pos c]
    exact fg.n (fun z => by have := e3.mp z; omega)
  · rw [if_neg c, if_neg (by omega)]
    exact fg.y (e3.mpr (by omega))
/-- WIDE and no room in the reference's words -/
theorem wfit {P : MT} {a : Nat} {t : Int32} {M : Mm} {α : Type} {x y : α} (hO : MOk P) (hD : DMe P M) (ha : a < pL P) : (if (if t = 3 ∨ t = 4 then (1 : Int32) else 0) = 0 then x else if (nI a + 1) < (M.1 30 0 15) then x else y) = if a + wid t ≤ pL P then x else y := by
  have hL := hO.2.2.2.1
  rw [hD.2.2.2.2.1]
  by_cases c : t = 3 ∨ t = 4
  · rw [if_pos c, if_neg (by decide), nI_1, wid2.mpr c]
    by_cases c2 : a + 2 ≤ pL P
    · rw [if_pos c2, if_pos (nI_lt (by omega) (by omega))]
    · rw [if_neg c2, if_neg (nI_nlt (by omega) (by omega))]
  · rw [if_neg c, if_pos rfl]
    have w1 := wid_1 t
    have : ¬ wid t = 2 := fun z => c (wid2.mp z)
    rw [if_pos (show a + wid t ≤ pL P by omega)]
theorem op_load {n : Nat} {sup : Nat → Nat} {fc : Nat → Int32} {P : MT} {f : Fr} {Mc Mr : Mm} {a : Nat} (h : Cx n sup fc P f Mc Mr) (ha : a < pL P) : Ou P Mc Mr (F_W_load (nI a) Mc) (F_D_moves (nI 2) (nI a) Mr) := by
  obtain ⟨hT, hC, hR, hO, hP, hD, hc, hh, tk, hw⟩ := h
  have hfd := hc.1
  have hL := hO.2.2.2.1
  have need : ∀ oc od, oc = some (2, Mc) → od = some (0, Mr) → Ou P Mc Mr oc od := fun oc od h1 h2 => Or.inl ⟨Mc, Mr, h1, h2, KF.rf, KX.rf⟩
  have tka := tk.1 a (by omega)
  rw [q_m2]
  unfold F_W_load
  simp only [lt_v]
  rw [bnd_nI (by omega) (by decide), bnd_nI (by omega) (by decide), nI_clamp (by omega), hc.2.2.1 a (by omega), hh.2.2.2.1 a (by omega)]
  by_cases c0 : fl f a = 0
  · rw [if_pos c0, if_pos c0]
    exact need _ _ rfl rfl
  · have er := e_ret (M := Mc) tka
    rw [if_neg c0, if_neg c0]
    by_cases c1 : 2000 ≤ fl f a
    · rw [if_neg (fun z => er.z.mp z c1), if_pos c1]
      exact need _ _ rfl rfl
    · have ef := e_fits (t := fl f a) (a := a) hO hP (by omega)
      rw [if_pos (er.z.mpr c1), if_neg c1, e_wideD, wfit hO hD ha]
      by_cases c2 : a + wid (fl f a) ≤ pL P
      · rw [if_neg (fun z => ef.z.mp z c2), if_pos c2]
        obtain ⟨M1, e1, e2, e3⟩ := e_touch (a := a) (t := fl f a) hc
        obtain ⟨N1, d1, d2, d3⟩ := e_touches (a := a) (t := fl f a) hh (by omega)
        obtain ⟨N2, g1, g2, g3⟩ := e_put (v := fl f a) d2 (show fd f < 16 by omega)
        rw [e1, bv_some, bd_ret, F_D_moves_b93, d1, bv_some, g1, bd_some, bnz_ok (Or.inr rfl)]
        exact ou_push hO (e3.me hP) e2 e3 (TK_tch tk) tka ⟨N2, rfl, g2, d3.tr g3⟩
      · rw [if_pos (ef.z.mpr c2), if_neg c2]
        exact need _ _ rfl rfl
theorem Dh.loc {M M' : Mm} {f : Fr} {g : Nat → Int32} (h : Dh M f) (k1 : ∀ t k, ¬ t = 49 → M'.1 t 0 k = M.1 t 0 k) (k2 : M'.2 = M.2) (k3 : ∀ j, j < 12 → M'.1 49 0 j = g j) : Dh M' (g, fs f, fd f, fb f, ft f) := by
  obtain ⟨h1, h2, h3, h4, h5, h6, h7, h8⟩ := h
  refine ⟨h1, ?_, ?_, k3, fun j hj => ?_, ?_, h7, fun b hb hq => ?_⟩
  · rw [k1 _ _ (by omega)]
    exact h2
  · rw [k1 _ _ (by omega)]
    exact h3
  · rw [k1 _ _ (by omega)]
    exact h5 j hj
  · rw [k2]
    exact h6
  · rw [k1 _ _ (by omega)]
    exact h8 b hb hq
theorem e_stoD {a : Nat} {t : Int32} {f : Fr} {M : Mm} (h : Dh M f) (ha : a < 12) (hw : wid t = 2 → a + 1 < 12) : ∃ M', (if nI a ≤ 0 then F_D_moves_b172 (nI a) t M else bnd (nI a - 1) 14 (lt (P_D_isWide (M.1 49 0 (nI a - 1 : Int32).toNatClampNeg) M) fun r21 => (if r21 = 0 then F_D_moves_b172 (nI a) t M else bnd (nI a - 1) 14 (lt (sI M 49 0 (nI a - 1 : Int32).toNatClampNeg 0) fun M24 => F_D_moves_b172 (nI a) t M24)))) = some (1, M') ∧ Dh M' (sto f a t) ∧ KH M M' := by
  have b27 : ∀ M0 : Mm, F_D_moves_b172 (nI a) t M0 = some (1, if wid t = 2 then sI (sI M0 49 0 a t) 49 0 (a + 1) 0 else sI M0 49 0 a t) := by
    intro M0
    unfold F_D_moves_b172
    rw [bnd_nI (by omega) (by decide), lt_v, lt_v, nI_clamp (by omega), e_wideD]
    by_cases c : t = 3 ∨ t = 4
    · rw [if_pos c, if_neg (by decide), nI_1, bnd_nI (by omega) (by decide), lt_v, nI_clamp (by omega), if_pos (wid2.mpr c)]
    · rw [if_neg c, if_pos rfl, if_neg (fun z => c (wid2.mp z))]
  have k27 : ∀ M0 : Mm, KH M0 (if wid t = 2 then sI (sI M0 49 0 a t) 49 0 (a + 1) 0 else sI M0 49 0 a t) := by
    intro M0
    split
    · exact kx_i (kx_i KX.rf (by omega)) (by omega)
    · exact kx_i KX.rf (by omega)
  have r27 : ∀ (M0 : Mm) (s k : Nat), (if wid t = 2 then sI (sI M0 49 0 a t) 49 0 (a + 1) 0 else sI M0 49 0 a t).1 s 0 k = if s = 49 ∧ k = a + 1 ∧ wid t = 2 then 0 else if s = 49 ∧ k = a then t else M0.1 s 0 k := by
    intro M0 s k
    by_cases c : wid t = 2
    · rw [if_pos c]
      simp [sI1, c]
    · rw [if_neg c]
      simp [sI1, c]
  have s27 : ∀ (M0 : Mm), (if wid t = 2 then sI (sI M0 49 0 a t) 49 0 (a + 1) 0 else sI M0 49 0 a t).2 = M0.2 := by
    intro M0
    split <;> rfl
  have h3 := h.2.2.2.1
  by_cases a0 : a = 0
  · subst a0
    rw [if_pos (show nI 0 ≤ 0 by decide), b27]
    refine ⟨_, rfl, Dh.loc h (fun s k hs => ?_) ?_ (fun j hj => ?_), k27 M⟩
    · rw [r27, if_neg (fun z => hs z.1), if_neg (fun z => hs z.1)]
    · rw [s27]
    · rw [r27]
      simp [h3 j hj]
  · have e1 : nI a - 1 = nI (a - 1) := by rw [show (1 : Int32) = nI 1 from rfl, pk_sub (by omega)]
    rw [if_neg (nI_nle (by omega) (by omega)), e1, bnd_nI (by omega) (by decide), lt_v, nI_clamp (by omega), h3 _ (by omega), e_wideD]
    by_cases c : fl f (a - 1) = 3 ∨ fl f (a - 1) = 4
    · rw [if_pos c, if_neg (by decide), bnd_nI (by omega) (by decide), lt_v, b27]
      refine ⟨_, rfl, Dh.loc h (fun s k hs => ?_) ?_ (fun j hj => ?_), KX.tr (kx_i KX.rf (by omega)) (k27 _)⟩
      · rw [r27, if_neg (fun z => hs z.1), if_neg (fun z => hs z.1), sI1, if_neg (fun z => hs z.1)]
      · rw [s27]
        rfl
      · rw [r27, sI1]
        by_cases q : j = a - 1
        · have q2 : j + 1 = a := by omega
          have q3 : wid (fl f j) = 2 := by rw [q]; exact wid2.mpr c
          simp [q, q2, q3, show ¬ a - 1 = a by omega, show ¬ a - 1 = a + 1 by omega, show a - 1 + 1 = a by omega, wid2.mpr c]
        · have q2 : ¬ j + 1 = a := by omega
          simp [q, q2, h3 j hj]
    · rw [if_neg c, if_pos rfl, b27]
      refine ⟨_, rfl, Dh.loc h (fun s k hs => ?_) ?_ (fun j hj => ?_), k27 M⟩
      · rw [r27, if_neg (fun z => hs z.1), if_neg (fun z => hs z.1)]
      · rw [s27]
      · rw [r27]
        by_cases q2 : j + 1 = a
        · have q3 : ¬ wid (fl f j) = 2 := by
            rw [show j = a - 1 by omega]
            exact fun z => c (wid2.mp z)
          simp [q3, h3 j hj]
        · simp [q2, h3 j hj]
theorem TK_sto {f : Fr} {a : Nat} {t : Int32} (h : TK f) (ht : tok t) : TK (sto f a t) := by
  refine ⟨fun j hj => ?_, h.2⟩
  show tok (if j = a + 1 ∧ wid t = 2 then 0 else if j = a then t else if j + 1 = a ∧ wid (fl f j) = 2 then 0 else fl f j)
  split
  · exact tokN (j := 0) (by omega)
  · split
    · exact ht
    · split
      · exact tokN (j := 0) (by omega)
      · exact h.1 j hj
theorem tok_lt1 {t : Int32} (h : tok t) : t < 1 ↔ t = 0 := by
  obtain ⟨j, rfl, hj⟩ := h
  rw [show (1 : Int32) = nI 1 from rfl, nI_ltI (by omega) (by decide), nI_eqz (by omega)]
  omega
theorem op_store {n : Nat} {sup : Nat → Nat} {fc : Nat → Int32} {P : MT} {f : Fr} {Mc Mr : Mm} {a : Nat} (h : Cx n sup fc P f Mc Mr) (ha : a < pL P) : Ou P Mc Mr (F_W_store (nI a) Mc) (F_D_moves (nI 3) (nI a) Mr) := by
  obtain ⟨hT, hC, hR, hO, hP, hD, hc, hh, tk, hw⟩ := h
  have hfd := hc.1
  have hL := hO.2.2.2.1
  have need : ∀ oc od, oc = some (2, Mc) → od = some (0, Mr) → Ou P Mc Mr oc od := fun oc od h1 h2 => Or.inl ⟨Mc, Mr, h1, h2, KF.rf, KX.rf⟩
  have et0 : F_R_top 0 0 Mc = some (tp f 0, Mc) := e_topC (e := 0) hc (by omega)
  have dt0 : F_D_top 0 Mr = some (tp f 0, Mr) := e_topD (e := 0) hh (by omega)
  rw [q_m3, dt0, bd_some]
  unfold F_W_store
  rw [et0, bd_some]
  by_cases c0 : tp f 0 = -1
  · rw [if_pos c0, if_pos (show tp f 0 < 1 by rw [c0]; decide)]
    exact need _ _ rfl rfl
  · have tkt := tok_tp tk c0
    have hd := tp_in c0
    rw [if_neg c0]
    by_cases c1 : tp f 0 = 0
    · rw [if_pos c1, if_pos ((tok_lt1 tkt).mpr c1)]
      exact need _ _ rfl rfl
    · have ef := e_fits (t := tp f 0) (a := a) hO hP (by omega)
      rw [if_neg c1, if_neg (fun z => c1 ((tok_lt1 tkt).mp z)), lt_v, lt_v, e_wideD, wfit hO hD ha]
      by_cases c2 : a + wid (tp f 0) ≤ pL P
      · rw [if_neg (fun z => ef.z.mp z c2), if_pos c2]
        obtain ⟨M1, e1, e2, e3⟩ := e_drop hc (show 1 ≤ fd f from hd)
        obtain ⟨M2, g1, g2, g3⟩ := e_store (a := a) (t := tp f 0) e2 (by omega) (fun z => by omega)
        obtain ⟨M3, i1, i2, i3⟩ := e_touch (a := a) (t := tp f 0) g2
        rw [show F_R_drop 0 1 Mc = some M1 from e1, bv_some, g1, bv_some, i1, bv_some]
        obtain ⟨N1, d1, d2, d3⟩ := e_dropD hh hd
        obtain ⟨N2, j1, j2, j3⟩ := e_touches (a := a) (t := tp f 0) d2 (by omega)
        obtain ⟨N3, k1, k2, k3⟩ := e_stoD (a := a) (t := tp f 0) j2 (by omega) (fun z => by omega)
        rw [F_D_moves_b135, d1, bv_some, j1, bv_some, k1]
        have hw2 : wt (drp f 1) ≤ pS P := Nat.le_trans wt_drp_le hw
        exact Or.inr ⟨tch (sto (drp f 1) a (tp f 0)) (msk a (tp f 0)), N3, rfl, k2, (d3.tr j3).tr k3, TK_tch (TK_sto (TK_drp tk) tkt), fun _ => ⟨M3, rfl, i2, (e3.tr g3).tr i3⟩, fun w => absurd hw2 w⟩
      · rw [if_pos (ef.z.mpr c2), if_neg c2]
        exact need _ _ rfl rfl
theorem op_add {n : Nat} {sup : Nat → Nat} {fc : Nat → Int32} {P : MT} {f : Fr} {Mc Mr : Mm} {a : Nat} {k b : Int32} (h : Cx n sup fc P f Mc Mr) (ha : a < pL P) : Ou P Mc Mr (F_W_increase (nI a) Mc) (F_D_objects k (nI 30) (nI a) b Mr) := by
  obtain ⟨hT, hC, hR, hO, hP, hD, hc, hh, tk, hw⟩ := h
  have hL := hO.2.2.2.1
  have dt0 : F_D_top 0 Mr = some (tp f 0, Mr) := e_topD (e := 0) hh (by omega)
  obtain ⟨N1, d1, d2, d3⟩ := e_touches (a := a) (t := 1) hh (by omega)
  rw [q_o30, dt0, bd_some, d1, bv_some, bnd_nI (by omega) (by decide), nI_clamp (by omega), d2.2.2.2.1 a (by omega)]
  unfold F_W_increase
  rw [bnd_nI (by omega) (by decide), nI_clamp (by omega), hc.2.2.1 a (by omega)]
  by_cases c : fl f a = 1
  · rw [if_pos c, if_pos c]
    obtain ⟨M1, e1, e2, e3⟩ := e_touch (a := a) (t := 1) hc
    rw [e1, bv_some]
    exact Or.inr ⟨tch f (msk a 1), N1, rfl, d2, d3, TK_tch tk, fun _ => ⟨M1, rfl, e2, e3⟩, fun w => absurd hw w⟩
  · rw [if_neg c, if_neg c]
    exact Or.inl ⟨Mc, N1, rfl, rfl, KF.rf, d3⟩
