theorem wt_rep {f : Fr} {t u : Int32} (h : wid t = wid u) : wt (rep f t u) = wt f := by
  show wsum (fun j => if fs f j = t then u else fs f j) (fd f) = wsum (fs f) (fd f)
  have : ∀ m, wsum (fun j => if fs f j = t then u else fs f j) m = wsum (fs f) m := by
    intro m
    induction m with
    | zero => rfl
    | succ m ih =>
      show wsum _ m + wid (if fs f m = t then u else fs f m) = wsum (fs f) m + wid (fs f m)
      rw [ih]
      by_cases c : fs f m = t
      · rw [if_pos c, c, h]
      · rw [if_neg c]
  exact this _
theorem TK_rep {f : Fr} {t u : Int32} (h : TK f) (hu : tok u) : TK (rep f t u) := by
  constructor
  · intro j hj
    show tok (if fl f j = t then u else fl f j)
    split
    · exact hu
    · exact h.1 j hj
  · intro j hj
    show tok (if fs f j = t then u else fs f j)
    split
    · exact hu
    · exact h.2 j hj
theorem wid_big {j : Nat} (h : 5 ≤ j) (hj : j < 2 ^ 31) : wid (nI j) = 1 := by
  unfold wid
  rw [if_neg]
  rintro (z | z)
  · exact neN (k := 3) rfl hj (by decide) (by omega) z
  · exact neN (k := 4) rfl hj (by decide) (by omega) z
/-- NEW in the reference: LOCALS that hold such a one become NOTHING, then it is put -/
theorem e_o102 {k : Nat} {f : Fr} {M : Mm} (h : Dh M f) : ∃ M', F_D_objects_b102 fuel (nI k) 0 M = bd (F_D_put ((1000 : Int32) + nI k) M') kZ ∧ Dh M' (fun j => if fl f j = (1000 : Int32) + nI k then 0 else fl f j, fs f, fd f, fb f, ft f) ∧ KH M M' := by
  have h4 := h.2.2.2.1
  have key : F_D_objects_b102 fuel (nI k) 0 M = (fun M => bd (F_D_put ((1000 : Int32) + nI k) M) kZ) (rg M 49 0 0 12 (fun j => if fl f j = (1000 : Int32) + nI k then 0 else fl f j)) := by
    refine (lpR (σ := Unit) (L := fun n i _ M => F_D_objects_b102 n (nI k) i M) (t := 49) (lo := 0) (N := 12) (v := fun j => if fl f j = (1000 : Int32) + nI k then 0 else fl f j) (Q := fun j _ M' => ∀ b, j ≤ b → b < 12 → M'.1 49 0 b = fl f b) (fin := fun _ M => bd (F_D_put ((1000 : Int32) + nI k) M) kZ) (fun n j s M' hj q => ?_) (fun n s M' q => ?_) fuel 0 () M (by show 12 < 0 + 100000; omega) (by omega) (fun b _ hb => h4 b hb)).elim (fun s q => q.2)
    · refine ⟨(), fun b hb hb2 => ?_, ?_⟩
      · rw [sI1, if_neg (by omega)]
        exact q b (by omega) hb2
      · show F_D_objects_b102 (n + 1) (nI k) (nI j) M' = F_D_objects_b102 n (nI k) (nI (j + 1)) _
        rw [F_D_objects_b102, if_neg (ge12 hj), bnd_nI (by omega) (by decide), nI_clamp (by omega), q j (Nat.le_refl j) hj, Nat.zero_add]
        by_cases c : fl f j = (1000 : Int32) + nI k
        · rw [if_pos c, if_pos c, bnd_nI (by omega) (by decide), lt_v, F_D_objects_b132, lt_v, nI_1]
        · rw [if_neg c, if_neg c, F_D_objects_b132, lt_v, nI_1, ← q j (Nat.le_refl j) hj, sI_same]
    · show F_D_objects_b102 (n + 1) (nI k) (nI 12) M' = _
      rw [F_D_objects_b102, if_pos le12]
  refine ⟨_, key, Dh.loc h (fun t c q => rg_out (by omega)) rfl (fun j hj => ?_), kx_g KX.rf (fun c _ _ => by omega)⟩
  have := rg_in (M := M) (t := 49) (lo := 0) (N := 12) (v := fun j => if fl f j = (1000 : Int32) + nI k then 0 else fl f j) hj
  rw [Nat.zero_add] at this
  exact this
theorem e_o67 {k : Nat} {f : Fr} {M : Mm} (h : Dh M f) : ∀ n j, fd f < j + n → j ≤ fd f → (∀ i, i < j → ¬ fs f i = (1000 : Int32) + nI k) → ((∃ i, i < fd f ∧ fs f i = (1000 : Int32) + nI k) → F_D_objects_b67 n (nI k) (nI j) M = some (0, M)) ∧ ((∀ i, i < fd f → ¬ fs f i = (1000 : Int32) + nI k) → F_D_objects_b67 n (nI k) (nI j) M = F_D_objects_b102 fuel (nI k) 0 M) := by
  have h1 := h.1
  have h5 := h.2.2.2.2.1
  intro n
  induction n with
  | zero =>
    intro j q1 q2
    omega
  | succ n ih =>
    intro j q1 q2 q3
    rw [F_D_objects_b67, h.2.1]
    by_cases c : j = fd f
    · rw [c, if_pos (nI_le (Nat.le_refl _) (by omega))]
      refine ⟨fun ⟨i, i1, i2⟩ => absurd i2 (q3 i (by omega)), fun _ => rfl⟩
    · rw [if_neg (nI_ge (by omega) (by omega)), bnd_nI (by omega) (by decide), nI_clamp (by omega), h5 j (by omega)]
      by_cases c2 : fs f j = (1000 : Int32) + nI k
      · rw [if_pos c2]
        exact ⟨fun _ => rfl, fun z => absurd c2 (z j (by omega))⟩
      · rw [if_neg c2, lt_v, nI_1]
        refine ih (j + 1) (by omega) (by omega) (fun i hi => ?_)
        by_cases w : i = j
        · rw [w]
          exact c2
        · exact q3 i (by omega)
theorem op_new {n : Nat} {sup : Nat → Nat} {fc : Nat → Int32} {P : MT} {f : Fr} {Mc Mr : Mm} {k : Nat} {a b : Int32} (h : Cx n sup fc P f Mc Mr) (hk : k < 48) : Ou P Mc Mr (F_W_create (nI k) Mc) (F_D_objects (nI k) (nI 20) a b Mr) := by
  obtain ⟨hT, hC, hR, hO, hP, hD, hc, hh, tk, hw⟩ := h
  have hfd := hc.1
  have dt0 : F_D_top 0 Mr = some (tp f 0, Mr) := e_topD (e := 0) hh (by omega)
  have eR : (1000 : Int32) + nI k = nI (1000 + k) := by rw [show (1000 : Int32) = nI 1000 from rfl, nI_add]
  have tR : tok ((1000 : Int32) + nI k) := by
    rw [eR]
    exact ⟨_, rfl, Or.inr (Or.inl ⟨by omega, by omega⟩)⟩
  obtain ⟨E1, E2⟩ := e_o67 (k := k) hh fuel 0 (by show fd f < 0 + 100000; omega) (by omega) (fun i hi => absurd hi (Nat.not_lt_zero i))
  rw [q_o20, dt0, bd_some]
  unfold F_W_create
  obtain ⟨r, g1, g2⟩ := e_onStack (t := (1000 : Int32) + nI k) hc
  rw [g1, bd_some]
  rcases g2 with ⟨g2, g3⟩ | ⟨g2, g3⟩
  · rw [g2, if_neg (by decide), show F_D_objects_b67 fuel (nI k) 0 Mr = some (0, Mr) from E1 g3]
    exact Or.inl ⟨Mc, Mr, rfl, rfl, KF.rf, KX.rf⟩
  · rw [g2, if_pos rfl, show F_D_objects_b67 fuel (nI k) 0 Mr = _ from E2 g3]
    obtain ⟨N1, d1, d2, d3⟩ := e_o102 (k := k) hh
    have d2' : Dh N1 (rep f ((1000 : Int32) + nI k) 0) := by
      obtain ⟨x1, x2, x3, x4, x5, x6, x7, x8⟩ := d2
      have fe : ∀ j, j < fd f → (if fs f j = (1000 : Int32) + nI k then 0 else fs f j) = fs f j := fun j hj => if_neg (g3 j hj)
      refine ⟨x1, x2, ?_, x4, fun j hj => ?_, x6, x7, x8⟩
      · rw [x3]
        congr 1
        exact wsum_cg _ (fun j hj => (fe j hj).symm)
      · have hj' : j < fd f := hj
        rw [x5 j hj]
        exact (fe j hj').symm
    obtain ⟨N2, p1, p2, p3⟩ := e_put (v := (1000 : Int32) + nI k) d2' (show fd f < 16 by omega)
    obtain ⟨M1, e1, e2, e3⟩ := e_replace (t := (1000 : Int32) + nI k) (u := 0) hc
    rw [d1, p1, bd_some, e1, bv_some, bd_ret]
    exact ou_push hO (e3.me hP) e2 e3 (TK_rep tk (tokN (j := 0) (by omega))) tR ⟨N2, bnz_ok (Or.inr rfl), p2, d3.tr p3⟩
/-- BUILD in the reference: replacing on the STACK, then in LOCALS -/
theorem e_o186 {t a : Int32} {f : Fr} {M : Mm} (h : Dh M f) (hw : wid t = wid ((16 : Int32) + a)) : ∃ M', F_D_objects_b186 fuel a t 0 M = some (1, M') ∧ Dh M' (rep f t ((16 : Int32) + a)) ∧ KH M M' := by
  obtain ⟨h1, h2, h3, h4, h5, h6, h7, h8⟩ := h
  have k2 : ∀ M1 : Mm, (∀ b, b < 12 → M1.1 49 0 b = fl f b) → F_D_objects_b227 fuel a t 0 M1 = some (1, rg M1 49 0 0 12 (fun j => if fl f j = t then (16 : Int32) + a else fl f j)) := by
    intro M1 hl
    refine (lpR (σ := Unit) (L := fun n i _ M => F_D_objects_b227 n a t i M) (t := 49) (lo := 0) (N := 12) (v := fun j => if fl f j = t then (16 : Int32) + a else fl f j) (Q := fun j _ M' => ∀ b, j ≤ b → b < 12 → M'.1 49 0 b = fl f b) (fin := fun _ M => some (1, M)) (fun n j s M' hj q => ?_) (fun n s M' q => ?_) fuel 0 () M1 (by show 12 < 0 + 100000; omega) (by omega) (fun b _ hb => hl b hb)).elim (fun s q => q.2)
    · refine ⟨(), fun b hb hb2 => ?_, ?_⟩
      · rw [sI1, if_neg (by omega)]
        exact q b (by omega) hb2
      · show F_D_objects_b227 (n + 1) a t (nI j) M' = F_D_objects_b227 n a t (nI (j + 1)) _
        rw [F_D_objects_b227, if_neg (ge12 hj), bnd_nI (by omega) (by decide), nI_clamp (by omega), q j (Nat.le_refl j) hj, Nat.zero_add]
        by_cases c : fl f j = t
        · rw [if_pos c, if_pos c, bnd_nI (by omega) (by decide), lt_v, F_D_objects_b257, lt_v, nI_1]
        · rw [if_neg c, if_neg c, F_D_objects_b257, lt_v, nI_1, ← q j (Nat.le_refl j) hj, sI_same]
    · show F_D_objects_b227 (n + 1) a t (nI 12) M' = _
      rw [F_D_objects_b227, if_pos le12]
  have k1 : F_D_objects_b186 fuel a t 0 M = F_D_objects_b227 fuel a t 0 (rg M 50 0 0 (fd f) (fun j => if fs f j = t then (16 : Int32) + a else fs f j)) := by
    refine (lpR (σ := Unit) (L := fun n i _ M => F_D_objects_b186 n a t i M) (t := 50) (lo := 0) (N := fd f) (v := fun j => if fs f j = t then (16 : Int32) + a else fs f j) (Q := fun j _ M' => M'.1 30 0 31 = nI (fd f) ∧ ∀ b, j ≤ b → b < fd f → M'.1 50 0 b = fs f b) (fin := fun _ M => F_D_objects_b227 fuel a t 0 M) (fun n j s M' hj q => ?_) (fun n s M' q => ?_) fuel 0 () M (by show fd f < 0 + 100000; omega) (by omega) ⟨h2, fun b _ hb => h5 b hb⟩).elim (fun s q => q.2)
    · refine ⟨(), ⟨?_, fun b hb hb2 => ?_⟩, ?_⟩
      · rw [sI1, if_neg (by omega)]
        exact q.1
      · rw [sI1, if_neg (by omega)]
        exact q.2 b (by omega) hb2
      · show F_D_objects_b186 (n + 1) a t (nI j) M' = F_D_objects_b186 n a t (nI (j + 1)) _
        rw [F_D_objects_b186, q.1, if_neg (nI_ge hj (by omega)), bnd_nI (by omega) (by decide), nI_clamp (by omega), q.2 j (Nat.le_refl j) hj, Nat.zero_add]
        by_cases c : fs f j = t
        · rw [if_pos c, if_pos c, bnd_nI (by omega) (by decide), lt_v, F_D_objects_b218, lt_v, nI_1]
        · rw [if_neg c, if_neg c, F_D_objects_b218, lt_v, nI_1, ← q.2 j (Nat.le_refl j) hj, sI_same]
    · show F_D_objects_b186 (n + 1) a t (nI (fd f)) M' = _
      rw [F_D_objects_b186, q.1, if_pos (nI_le (Nat.le_refl _) (by omega))]
  rw [k1, k2 _ (fun b hb => by rw [rg_out (by omega)]; exact h4 b hb)]
  refine ⟨_, rfl, ⟨h1, ?_, ?_, fun j hj => ?_, fun j hj => ?_, h6, h7, fun b hb hq => ?_⟩, kx_g (kx_g KX.rf (fun c _ _ => by omega)) (fun c _ _ => by omega)⟩
  · rw [rg_out (by omega), rg_out (by omega)]
    exact h2
  · rw [rg_out (by omega), rg_out (by omega), wt_rep hw]
    exact h3
  · have := rg_in (M := rg M 50 0 0 (fd f) (fun j => if fs f j = t then (16 : Int32) + a else fs f j)) (t := 49) (lo := 0) (N := 12) (v := fun j => if fl f j = t then (16 : Int32) + a else fl f j) hj
    rw [Nat.zero_add] at this
    exact this
  · rw [rg_out (by omega)]
    have := rg_in (M := M) (t := 50) (lo := 0) (N := fd f) (v := fun j => if fs f j = t then (16 : Int32) + a else fs f j) hj
    rw [Nat.zero_add] at this
    exact this
  · rw [rg_out (by omega), rg_out (by omega)]
    exact h8 b hb hq
theorem op_build {n : Nat} {sup : Nat → Nat} {fc : Nat → Int32} {P : MT} {f : Fr} {Mc Mr : Mm} {k b : Int32} {a : Nat} (h : Cx n sup fc P f Mc Mr) (ha : a < 10) : Ou P Mc Mr (F_W_build (nI a) Mc) (F_D_objects k (nI 21) (nI a) b Mr) := by
  obtain ⟨hT, hC, hR, hO, hP, hD, hc, hh, tk, hw⟩ := h
  have hfd := hc.1
  have et0 : F_R_top 0 0 Mc = some (tp f 0, Mc) := e_topC (e := 0) hc (by omega)
  have dt0 : F_D_top 0 Mr = some (tp f 0, Mr) := e_topD (e := 0) hh (by omega)
  have need : ∀ oc od, oc = some (2, Mc) → od = some (0, Mr) → Ou P Mc Mr oc od := fun oc od h1 h2 => Or.inl ⟨Mc, Mr, h1, h2, KF.rf, KX.rf⟩
  rw [q_o21, dt0, bd_some]
  unfold F_W_build
  rw [et0, bd_some, lt_v, lt_v, inD]
  have e16 : (16 : Int32) + nI a = nI (16 + a) := by rw [show (16 : Int32) = nI 16 from rfl, nI_add]
  have wr : (if tp f 0 < 1000 then (0 : Int32) else if 1047 < tp f 0 then 0 else 1) = 0 ↔ ¬ raw (tp f 0) := by
    unfold raw
    by_cases c : tp f 0 < 1000
    · rw [if_pos c]
      exact ⟨fun _ z => z.1 c, fun _ => rfl⟩
    · rw [if_neg c]
      have e : (1047 : Int32) < tp f 0 ↔ 1048 ≤ tp f 0 := by
        rw [Int32.lt_iff_toInt_lt, Int32.le_iff_toInt_le, show (1047 : Int32).toInt = 1047 by decide, show (1048 : Int32).toInt = 1048 by decide]
        omega
      by_cases c2 : (1048 : Int32) ≤ tp f 0
      · rw [if_pos (e.mpr c2)]
        exact ⟨fun _ z => z.2 c2, fun _ => rfl⟩
      · rw [if_neg (fun z => c2 (e.mp z))]
        exact ⟨fun z => absurd z (by decide), fun z => absurd ⟨c, c2⟩ z⟩
  by_cases c : raw (tp f 0)
  · rw [e_raw.1 c, if_neg (by decide), if_neg (fun z => wr.mp z c)]
    have c0 : ¬ tp f 0 = -1 := fun w => by
      rw [w] at c
      exact c.1 (by decide)
    have hd := tp_in c0
    have hx : ∃ j, j < 48 ∧ tp f 0 = nI (1000 + j) := by
      obtain ⟨j, e1, e2⟩ := tok_tp tk c0
      rw [e1] at c
      have g1 : ¬ nI j < 1000 := c.1
      have g2 : ¬ (1048 : Int32) ≤ nI j := c.2
      rw [show (1000 : Int32) = nI 1000 from rfl, nI_ltI (by omega) (by decide)] at g1
      rw [show (1048 : Int32) = nI 1048 from rfl, nI_leI (by decide) (by omega)] at g2
      exact ⟨j - 1000, by omega, by rw [e1, show 1000 + (j - 1000) = j by omega]⟩
    obtain ⟨j, hj, ej⟩ := hx
    have es : tp f 0 - 1000 = nI j := by
      rw [ej, show (1000 : Int32) = nI 1000 from rfl, pk_sub (by omega), show 1000 + j - 1000 = j by omega]
    rw [es, bnd_nI hj (by decide), bnd_nI hj (by decide), nI_clamp (by omega), (hP.2.2.2.2.2.2.1 j hj).2.1, (hD.2.2.2.2.2.2.1 j hj).2.1]
    by_cases c2 : P.2 1 j = nI a
    · rw [if_pos c2, if_pos c2]
      obtain ⟨M1, e1, e2, e3⟩ := e_drop hc (show 1 ≤ fd f from hd)
      obtain ⟨M2, g1, g2, g3⟩ := e_replace (t := tp f 0) (u := (16 : Int32) + nI a) e2
      obtain ⟨N1, d1, d2, d3⟩ := e_dropD hh hd
      have hwt : wid (tp f 0) = wid ((16 : Int32) + nI a) := by
        rw [ej, e16, wid_big (by omega) (by omega), wid_big (by omega) (by omega)]
      obtain ⟨N2, i1, i2, i3⟩ := e_o186 (t := tp f 0) (a := nI a) d2 hwt
      rw [show F_R_drop 0 1 Mc = some M1 from e1, bv_some, g1, bv_some, d1, bv_some, i1]
      have hw2 : wt (rep (drp f 1) (tp f 0) ((16 : Int32) + nI a)) ≤ pS P := by
        rw [wt_rep hwt]
        exact Nat.le_trans wt_drp_le hw
      exact Or.inr ⟨rep (drp f 1) (tp f 0) ((16 : Int32) + nI a), N2, rfl, i2, d3.tr i3, TK_rep (TK_drp tk) (by rw [e16]; exact tokN (by omega)), fun _ => ⟨M2, rfl, g2, e3.tr g3⟩, fun w => absurd hw2 w⟩
    · rw [if_neg c2, if_neg c2]
      exact need _ _ rfl rfl
  · rw [e_raw.2 c, if_pos rfl, if_pos (wr.mpr c)]
    exact need _ _ rfl rfl
