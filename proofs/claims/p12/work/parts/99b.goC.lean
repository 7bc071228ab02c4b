/-! The class's going ends, and keeps what it must: types and THE METHOD, room, its STATES. -/
def Iv (n : Nat) (sup : Nat → Nat) (fc : Nat → Int32) (P : MT) (A : AS) (M : Mm) : Prop := TCl n sup fc M ∧ CMe P M ∧ CA P A M ∧ AOk P A
section IvC
variable {n : Nat} {sup : Nat → Nat} {fc : Nat → Int32} {P : MT} {A : AS} {M : Mm}
theorem Iv.kf {i : Nat} {M' : Mm} (h : Iv n sup fc P A M) (k : KF i M M') (hi : i < 2) : Iv n sup fc P A M' := ⟨k.ty h.1, k.me h.2.1, h.2.2.1.kf k hi, h.2.2.2⟩
theorem Cf_s {t c i : Nat} {v : Int32} {f : Fr} (h : Cf M i f) (ht : t < 19) : Cf (sI M t 0 c v) i f := by
  obtain ⟨h1, h2, h3, h4, h5, h6, h7⟩ := h
  refine ⟨h1, ?_, fun a ha => ?_, fun a ha => ?_, h5, h6, fun b hb => ?_⟩
  · rw [sI1, if_neg (by omega)]; exact h2
  · rw [sI1, if_neg (by omega)]; exact h3 a ha
  · rw [sI1, if_neg (by omega)]; exact h4 a ha
  · rw [sI1, if_neg (by omega)]; exact h7 b hb
theorem Cf_l {t c i : Nat} {v : Int64} {f : Fr} (h : Cf M i f) (ht : t < 19) : Cf (sL M t 0 c v) i f := by
  obtain ⟨h1, h2, h3, h4, h5, h6, h7⟩ := h
  refine ⟨h1, h2, h3, h4, ?_, h6, h7⟩
  rw [sL2, if_neg (by omega)]; exact h5
theorem Iv.s14 {c : Nat} {v : Int32} (h : Iv n sup fc P A M) (hc : ¬ c = 10) : Iv n sup fc P A (sI M 14 0 c v) := by
  obtain ⟨h1, h2, ⟨a1, a2, a3⟩, h4⟩ := h
  refine ⟨TCl_cg h1 (fun t i k _ q => ?_), CMe_cg h2 (fun t i k q => ?_), ⟨fun k hk => ?_, ?_, a3⟩, h4⟩
  · rw [sI1, if_neg (by omega)]
  · rw [sI1, if_neg (by omega)]
  · obtain ⟨b1, b2, b3, b4⟩ := a1 k hk
    refine ⟨?_, ?_, b3, fun q => Cf_s (b4 q) (by omega)⟩
    · rw [sI1, if_neg (by omega)]; exact b1
    · rw [sI1, if_neg (by omega)]; exact b2
  · rw [sI1, if_neg (by omega)]; exact a2
theorem Iv.s17 {k : Nat} {b : Bool} (h : Iv n sup fc P A M) (hb : b = true → ah A k = true) : Iv n sup fc P (ah A, sg (ac A) k b, an A, af A) (sI M 17 0 k (bI b)) := by
  obtain ⟨h1, h2, ⟨a1, a2, a3⟩, h4⟩ := h
  refine ⟨TCl_cg h1 (fun t i k _ q => ?_), CMe_cg h2 (fun t i k q => ?_), ⟨fun j hj => ?_, ?_, a3⟩, AOk_c h4 hb⟩
  · rw [sI1, if_neg (by omega)]
  · rw [sI1, if_neg (by omega)]
  · obtain ⟨b1, b2, b3, b4⟩ := a1 j hj
    refine ⟨?_, ?_, b3, fun q => Cf_s (b4 q) (by omega)⟩
    · rw [sI1, if_neg (by omega)]; exact b1
    · show (sI M 17 0 k (bI b)).1 17 0 j = bI (sg (ac A) k b j)
      rw [sI1]
      by_cases z : j = k
      · rw [if_pos ⟨rfl, rfl, z⟩, z, sg_s]
      · rw [if_neg (fun w => z w.2.2), sg_n z]
        exact b2
  · rw [sI1, if_neg (by omega)]; exact a2
theorem Iv.s18 {k : Nat} {x : Int64} (h : Iv n sup fc P A M) (hb : ah A k = true) : Iv n sup fc P (ah A, ac A, sg (an A) k x, af A) (sL M 18 0 k x) := by
  obtain ⟨h1, h2, ⟨a1, a2, a3⟩, h4⟩ := h
  refine ⟨TCl_cg h1 (fun _ _ _ _ _ => rfl), CMe_cg h2 (fun _ _ _ _ => rfl), ⟨fun j hj => ?_, a2, ?_⟩, AOk_n h4 hb⟩
  · obtain ⟨b1, b2, b3, b4⟩ := a1 j hj
    refine ⟨b1, b2, ?_, fun q => Cf_l (b4 q) (by omega)⟩
    show (sL M 18 0 k x).2 18 0 j = sg (an A) k x j
    rw [sL2]
    by_cases z : j = k
    · rw [if_pos ⟨rfl, rfl, z⟩, z, sg_s]
    · rw [if_neg (fun w => z w.2.2), sg_n z]
      exact b3
  · rw [sL2, if_neg (by omega)]; exact a3
/-- a piece of the going: it ends with fault e, and keeps what it must -/
def Tc (n : Nat) (sup : Nat → Nat) (fc : Nat → Int32) (P : MT) (A : AS) (k : Nat) (M : Mm) (o : Option (Int32 × Mm)) : Prop := ∃ e A' M', o = some (nI e, M') ∧ e ≤ 9 ∧ Iv n sup fc P A' M' ∧ (∀ j, ah A j = true → ah A' j = true) ∧ KC 0 M M' ∧ (e = 0 → M'.1 14 0 9 = nI k)
theorem Tc.tr {A2 : AS} {M2 : Mm} {k : Nat} {o : Option (Int32 × Mm)} (h : Tc n sup fc P A2 k M2 o) (ha : ∀ j, ah A j = true → ah A2 j = true) (kc : KC 0 M M2) : Tc n sup fc P A k M o := by
  obtain ⟨e, A', M', h1, h2, h3, h4, h5, h6⟩ := h
  exact ⟨e, A', M', h1, h2, h3, fun j q => h4 j (ha j q), kc.tr h5, h6⟩
theorem Tc.fin {e k : Nat} (h : Iv n sup fc P A M) (he : e ≤ 9) (hp : M.1 14 0 9 = nI k) : Tc n sup fc P A k M (some (nI e, M)) := ⟨e, A, M, rfl, he, h, fun _ q => q, KC.rf, fun _ => hp⟩
theorem t_meet {i g k : Nat} {f : Fr} (hG : GP n sup fc P) (h : Iv n sup fc P A M) (hf : Cf M i f) (hi : i < 2) (tk : TK f) (hw : wt f ≤ pS P) (hk : k < 48) (hg : g ≤ 48) (hp : M.1 14 0 9 = nI k) : ∃ e A' M', F_W_meet (nI k) (nI g) i M = some (nI e, M') ∧ e ≤ 9 ∧ Iv n sup fc P A' M' ∧ (∀ j, ah A j = true → ah A' j = true) ∧ KC 2 M M' ∧ (e = 0 → M'.1 14 0 9 = nI k) := by
  obtain ⟨hT, hO, hS, -⟩ := hG
  obtain ⟨h1, h2, h3, h4⟩ := h
  obtain ⟨M', e1, e2, e3, e4⟩ := e_meetC hT h1 hO h2 hS h3 hf hi hk hg hp
  refine ⟨_, _, M', e1, goE_9, ⟨e3.ty h1, e3.me h2, e2, AOk_go hT h4 tk hw⟩, fun j q => ah_go q, e3, fun z => ?_⟩
  rw [e4]
  unfold goP
  rw [z, if_neg (by decide)]
theorem t_meet0 {i g k : Nat} {f : Fr} (hG : GP n sup fc P) (h : Iv n sup fc P A M) (hf : Cf M i f) (hi : i < 2) (tk : TK f) (hw : wt f ≤ pS P) (hg : g < pm P) (hp : M.1 14 0 9 = nI k) : ∃ e A' M', F_W_meet (-1) (nI g) i M = some (nI e, M') ∧ e ≤ 9 ∧ Iv n sup fc P A' M' ∧ ((∀ j, ah A j = true → ah A' j = true) ∧ ah A' g = true) ∧ KC 2 M M' ∧ (e = 0 → M'.1 14 0 9 = nI k) := by
  obtain ⟨hT, hO, hS, -⟩ := hG
  obtain ⟨h1, h2, h3, h4⟩ := h
  obtain ⟨M', e1, e2, e3, e4⟩ := e_meetC0 hT h1 hO h2 hS h3 hf hi hg
  refine ⟨_, _, M', e1, mtE_9 A g f, ⟨e3.ty h1, e3.me h2, e2, AOk_mt hT h4 tk hw⟩, ⟨fun j q => ah_mt q, ah_mtg⟩, e3, fun z => ?_⟩
  rw [e4, z, if_neg (by decide)]
  exact hp
theorem t_covers {h : Nat} {v : Int32} (hh : h < 3) : ∃ r, F_M_covers (nI h) v M = some (r, M) ∧ zo r := by
  unfold F_M_covers
  rw [bnd_nI hh (by decide)]
  split
  · exact ⟨0, rfl, zo_0⟩
  · rw [bnd_nI hh (by decide)]
    split
    · exact ⟨0, rfl, zo_0⟩
    · exact ⟨1, rfl, zo_1⟩
theorem t_handlers {k : Nat} (hG : GP n sup fc P) (hk : k < 48) : ∀ m h A M, ph P < h + m → h ≤ ph P → Iv n sup fc P A M → ah A k = true → M.1 14 0 9 = nI k → Tc n sup fc P A k M (F_W_meetHandlers_b2 m (nI k) (nI h) M) := by
  have hO := hG.2.1
  have hp3 := hO.2.1
  intro m
  induction m with
  | zero =>
    intro h A M h1 h2
    omega
  | succ m ih =>
    intro h A M h1 h2 hI hr hp
    have hP := hI.2.1
    rw [F_W_meetHandlers_b2, hP.2.1]
    by_cases c : h = ph P
    · rw [c, if_pos (nI_le (Nat.le_refl _) (by omega))]
      exact Tc.fin (e := 0) hI (by decide) hp
    · rw [if_neg (nI_ge (by omega) (by omega))]
      have hh : h < ph P := by omega
      obtain ⟨r, e1, e2⟩ := t_covers (M := M) (h := h) (v := nI k) (by omega)
      rw [e1, bd_some]
      unfold F_W_meetHandlers_b105
      rcases e2 with rfl | rfl
      · rw [if_pos rfl, lt_v, nI_1]
        exact ih (h + 1) A M (by omega) (by omega) hI hr hp
      · rw [if_neg (by decide), bnd_nI hk (by decide), nI_clamp (by omega)]
        have hf := (hI.2.2.1.1 k hk).2.2.2 hr
        obtain ⟨tk, hw⟩ := (hI.2.2.2 k hk).1 hr
        obtain ⟨r, r1, r2⟩ := e_rawLoc hf
        rw [r1, bd_some]
        rcases r2 with ⟨rfl, -⟩ | ⟨rfl, -⟩
        · rw [if_neg (by decide)]
          exact Tc.fin (e := 8) hI (by decide) hp
        · rw [if_pos rfl, hP.2.2.2.2.2.1]
          by_cases c0 : pS P = 0
          · rw [c0, if_pos (show nI 0 = 0 from rfl)]
            exact Tc.fin (e := 3) hI (by decide) hp
          · rw [if_neg (fun z => c0 ((nI_eqz (by have := hO.2.2.2.2.1; omega)).mp z)), bnd_nI hk (by decide), bnd_nI (show h < 3 by omega) (by decide), nI_clamp (by omega)]
            obtain ⟨g, cc, g1, g2, g3, g4⟩ := hG.2.2.2.2.1 h hh
            obtain ⟨p1, p2, p3, p4⟩ := hP.2.2.2.2.2.2.2.1 h (by omega)
            rw [p4, g4]
            obtain ⟨M1, m1, m2, m3⟩ := e_catch (i := 1) (v := (16 : Int32) + nI cc) hf (by omega)
            have hI1 := hI.kf m3 (by decide)
            obtain ⟨-, -, q5, -⟩ := hI1.2.1.2.2.2.2.2.2.2.1 h (by omega)
            rw [m1, bv_some, bnd_nI (show h < 3 by omega) (by decide), q5, g3]
            obtain ⟨t1, t2⟩ := TK_ctc (f := af A k) (c := cc) tk g2
            have hp1 : M1.1 14 0 9 = nI k := (m3.1 14 0 9 (by omega)).trans hp
            obtain ⟨e, A2, M2, s1, s2, s3, ⟨s4, -⟩, s5, s6⟩ := t_meet0 (k := k) hG hI1 m2 (by decide) t1 (by omega) g1 hp1
            rw [s1, bd_some]
            have kc : KC 0 M M2 := (m3.kc (Nat.zero_le 1)).tr (s5.lo (Nat.zero_le 2))
            by_cases ce : e = 0
            · rw [ce, if_pos (show nI 0 = 0 from rfl), lt_v, nI_1]
              exact (ih (h + 1) A2 M2 (by omega) (by omega) s3 (s4 k hr) (s6 ce)).tr s4 kc
            · rw [if_neg (fun z => ce ((nI9 s2).mp z))]
              exact ⟨e, A2, M2, rfl, s2, s3, s4, kc, fun z => absurd z ce⟩
/-- a memory of the reference in whose 'here' a STATE lies; one of the class in whose 'out' it lies -/
def mkD (f : Fr) (M : Mm) : Mm := (fun t i k => if t = 49 then fl f k else if t = 50 then fs f k else if t = 51 then ft f k else if t = 30 ∧ k = 31 then nI (fd f) else if t = 30 ∧ k = 32 then nI (wt f) else M.1 t i k, fun t i k => if t = 30 ∧ k = 39 then fb f else M.2 t i k)
def mkC (f : Fr) (M : Mm) : Mm := (fun t i k => if i = 0 ∧ t = 19 then nI (fd f) else if i = 0 ∧ t = 20 then fl f k else if i = 0 ∧ t = 21 then fs f k else if i = 0 ∧ t = 22 then (if bq (fb f) k then ft f k else 0) else M.1 t i k, fun t i k => if i = 0 ∧ t = 19 then fb f else M.2 t i k)
theorem mkD_ok {f : Fr} (h1 : TRe n sup fc M) (h2 : DMe P M) (hd : fd f ≤ 16) (hb : ∀ b, 48 ≤ b → bq (fb f) b = false) : TRe n sup fc (mkD f M) ∧ DMe P (mkD f M) ∧ Dh (mkD f M) f := by
  have kx : KX (fun t k => t = 49 ∨ t = 50 ∨ t = 51 ∨ (t = 30 ∧ (k = 31 ∨ k = 32))) (fun t k => t = 30 ∧ k = 39) M (mkD f M) := by
    refine ⟨fun t k q => ?_, fun t k q => ?_⟩
    · show (if t = 49 then fl f k else if t = 50 then fs f k else if t = 51 then ft f k else if t = 30 ∧ k = 31 then nI (fd f) else if t = 30 ∧ k = 32 then nI (wt f) else M.1 t 0 k) = _
      rw [if_neg (by omega), if_neg (by omega), if_neg (by omega), if_neg (by omega), if_neg (by omega)]
    · show (if t = 30 ∧ k = 39 then fb f else M.2 t 0 k) = _
      rw [if_neg q]
  exact ⟨TRe_kx h1 kx (fun t c q z => by omega), DMe_kx h2 kx (fun t c q z => by omega), hd, rfl, rfl, fun _ _ => rfl, fun _ _ => rfl, rfl, hb, fun _ _ _ => rfl⟩
theorem mkC_ok {f : Fr} (h1 : TCl n sup fc M) (h2 : CMe P M) (hd : fd f ≤ 12) (hb : ∀ b, 48 ≤ b → bq (fb f) b = false) : TCl n sup fc (mkC f M) ∧ CMe P (mkC f M) ∧ Cf (mkC f M) 0 f := by
  have e : ∀ t i k, t < 19 → (mkC f M).1 t i k = M.1 t i k := fun t i k q => by
    show (if i = 0 ∧ t = 19 then nI (fd f) else if i = 0 ∧ t = 20 then fl f k else if i = 0 ∧ t = 21 then fs f k else if i = 0 ∧ t = 22 then (if bq (fb f) k then ft f k else 0) else M.1 t i k) = _
    rw [if_neg (by omega), if_neg (by omega), if_neg (by omega), if_neg (by omega)]
  exact ⟨TCl_cg h1 (fun t i k _ q => e t i k (by omega)), CMe_cg h2 (fun t i k q => e t i k (by omega)), hd, rfl, fun _ _ => rfl, fun _ _ => rfl, rfl, hb, fun _ _ => rfl⟩
/-- perform(k) in the class -/
def Tp (n : Nat) (sup : Nat → Nat) (fc : Nat → Int32) (P : MT) (A : AS) (k : Nat) (M : Mm) (o : Option (Int32 × Mm)) : Prop := ∃ e A' M', o = some (nI e, M') ∧ e ≤ 9 ∧ Iv n sup fc P A' M' ∧ (∀ j, ah A j = true → ah A' j = true) ∧ KC 0 M M' ∧ M'.1 14 0 9 = nI k ∧ (e = 0 → ∃ f, Cf M' 0 f ∧ TK f ∧ wt f ≤ pS P ∧ (P.2 0 k = 16 → ∃ a b, a < 12 ∧ b < 48 ∧ P.2 1 k = nI a ∧ fl f a = nI (2000 + b) ∧ bq (fb f) b = true))
theorem t_perform {k : Nat} {f : Fr} (hG : GP n sup fc P) (hk : k < pm P) (h : Iv n sup fc P A M) (hf : Cf M 0 f) (tk : TK f) (hw : wt f ≤ pS P) (ha : ah A k = true) (hp : M.1 14 0 9 = nI k) : Tp n sup fc P A k M (F_W_perform (nI k) M) := by
  obtain ⟨hT, hO, hS, hF, -, -, -, ⟨Mr, r1, r2⟩, -⟩ := hG
  have hpm := hO.1
  have hk8 : k < 48 := by omega
  obtain ⟨o, ho, eo, fo⟩ := hF k hk
  have hP := h.2.1
  rw [q_pf hk8 hP ho eo]
  have kf : ∀ {e : Nat} {M' : Mm}, e ≤ 9 → ¬ e = 0 → KF 0 M M' → Tp n sup fc P A k M (some (nI e, M')) := fun {e M'} q1 q2 q3 => ⟨e, A, M', rfl, q1, h.kf q3 (by decide), fun _ q => q, q3.kc (Nat.le_refl 0), (q3.1 14 0 9 (by omega)).trans hp, fun z => absurd z q2⟩
  have pS12 := hO.2.2.2.2.1
  by_cases c15 : o = 15
  · subst c15
    obtain ⟨b, b1, b2⟩ := fo.2.2.2.2.1 (by omega)
    show Tp n sup fc P A k M (F_W_enterSub (P.2 2 k) M)
    unfold F_W_enterSub
    rw [b2, lt_v, e_isIn hf (by omega)]
    by_cases c : bq (fb f) b = true
    · rw [if_pos c, if_neg (by decide)]
      exact kf (e := 6) (by decide) (by decide) KF.rf
    · rw [if_neg c, if_pos rfl]
      obtain ⟨M1, m1, m2, m3⟩ := e_enter (b := b) hf (by omega)
      rw [m1, bv_some, (m3.me hP).2.2.2.2.2.1]
      simp only [bd_ret]
      obtain ⟨q1, q2⟩ := e_push (v := 2000 + nI b) m2 pS12
      have tk1 : TK (ent f b) := tk
      have hv : tok (2000 + nI b) := ⟨2000 + b, by rw [show (2000 : Int32) = nI 2000 from rfl, nI_add], by omega⟩
      by_cases cw : wt (psh (ent f b) (2000 + nI b)) ≤ pS P
      · obtain ⟨M2, s1, s2, s3⟩ := q1 cw
        rw [s1]
        have k2 := m3.tr s3
        refine ⟨0, A, M2, rfl, by decide, h.kf k2 (by decide), fun _ q => q, k2.kc (Nat.le_refl 0), (k2.1 14 0 9 (by omega)).trans hp, fun _ => ⟨_, s2, TK_psh tk1 hv, cw, fun z => ?_⟩⟩
        rw [eo] at z
        exact absurd z (by decide)
      · rw [q2 cw]
        exact kf (e := 3) (by decide) (by decide) m3
  by_cases c16 : o = 16
  · subst c16
    obtain ⟨a, a1, a2⟩ := fo.2.1 (by omega)
    have hL := hO.2.2.2.1
    show Tp n sup fc P A k M (F_W_prepareReturn (nI k) (P.2 1 k) M)
    unfold F_W_prepareReturn
    rw [a2, bnd_nI (show a < 12 by omega) (by decide), lt_v, nI_clamp (by omega), hf.2.2.1 a (by omega), lt_v]
    have ht := tk.1 a (by omega)
    have hr := e_ret (M := M) ht
    by_cases c : (2000 : Int32) ≤ fl f a
    · rw [if_neg (fun z => hr.z.mp z c), lt_v]
      obtain ⟨j, j1, j2⟩ := ht
      have j3 : 2000 ≤ j := by
        rw [j1] at c
        exact (nI_leI (a := 2000) (by decide) (by omega)).mp c
      obtain ⟨b, rfl⟩ : ∃ b, j = 2000 + b := ⟨j - 2000, by omega⟩
      have hb : b < 48 := by omega
      have es : fl f a - 2000 = nI b := by
        rw [j1, show (2000 : Int32) = nI 2000 from rfl, pk_sub (by omega), show 2000 + b - 2000 = b by omega]
      rw [es, lt_v, e_isIn hf (by omega)]
      by_cases ci : bq (fb f) b = true
      · rw [if_pos ci, if_neg (by decide)]
        obtain ⟨M1, m1, m2, m3⟩ := e_touch (a := a) (t := fl f a) hf
        rw [m1, bv_some, bnd_nI hk8 (by decide), bnd_nI hk8 (by decide), lt_v, nI_clamp (by omega)]
        have h1 := h.kf m3 (by decide)
        refine ⟨0, _, _, rfl, by decide, Iv.s18 h1 ha, fun _ q => q, (m3.kc (Nat.le_refl 0)).tr (KC.sL (by decide)), (m3.1 14 0 9 (by omega)).trans hp, fun _ => ⟨_, Cf_l m2 (by decide), TK_tch tk, hw, fun _ => ⟨a, b, by omega, hb, a2, j1, ci⟩⟩⟩
      · rw [if_neg ci, if_pos rfl]
        exact kf (e := 7) (by decide) (by decide) KF.rf
    · rw [if_pos (hr.z.mpr c)]
      exact kf (e := 2) (by decide) (by decide) KF.rf
  · have hge := wsum_ge (fs f) (fd f)
    obtain ⟨d1, d2, d3⟩ := mkD_ok (f := f) r1 r2 (by have := hf.1; omega) hf.2.2.2.2.2.1
    have hx : Cx n sup fc P f M (mkD f Mr) := ⟨hT, h.1, d1, hO, hP, d2, hf, d3, tk, hw⟩
    rcases pf_all hx hk8 ho fo c15 c16 with ⟨Mc', Mr', u1, -, u3, -⟩ | ⟨f', Mr', -, -, -, u4, u5, u6⟩
    · rw [u1]
      exact kf (e := 2) (by decide) (by decide) u3
    · by_cases cw : wt f' ≤ pS P
      · obtain ⟨Mc', v1, v2, v3⟩ := u5 cw
        rw [v1]
        refine ⟨0, A, Mc', rfl, by decide, h.kf v3 (by decide), fun _ q => q, v3.kc (Nat.le_refl 0), (v3.1 14 0 9 (by omega)).trans hp, fun _ => ⟨f', v2, u4, cw, fun z => ?_⟩⟩
        rw [eo] at z
        exact absurd ((nI_eq (b := 16) (by omega) (by decide)).mp z) c16
      · obtain ⟨Mc', v1, v3⟩ := u6 cw
        rw [v1]
        exact kf (e := 3) (by decide) (by decide) v3
/-- one MEETING from 'out' -/
theorem t_one {k g : Nat} {f : Fr} (hG : GP n sup fc P) (hk : k < 48) (hg : g ≤ 48) (h : Iv n sup fc P A M) (hf : Cf M 0 f) (tk : TK f) (hw : wt f ≤ pS P) (hp : M.1 14 0 9 = nI k) : Tc n sup fc P A k M (F_W_meet (nI k) (nI g) 0 M) := by
  obtain ⟨e, A', M', h1, h2, h3, h4, h5, h6⟩ := t_meet hG h hf (by decide) tk hw hk hg hp
  exact ⟨e, A', M', h1, h2, h3, h4, h5.lo (Nat.zero_le 2), h6⟩
theorem t_two {k g g2 : Nat} {f : Fr} (hG : GP n sup fc P) (hk : k < 48) (hg : g ≤ 48) (hg2 : g2 ≤ 48) (h : Iv n sup fc P A M) (hf : Cf M 0 f) (tk : TK f) (hw : wt f ≤ pS P) (hp : M.1 14 0 9 = nI k) : Tc n sup fc P A k M (bd (F_W_meet (nI k) (nI g) 0 M) (fun r10 M9 => (if r10 = 0 then F_W_meet (nI k) (nI g2) 0 M9 else some (r10, M9)))) := by
  obtain ⟨e, A', M', h1, h2, h3, h4, h5, h6⟩ := t_meet hG h hf (by decide) tk hw hk hg hp
  rw [h1, bd_some]
  by_cases c : e = 0
  · rw [c, if_pos (show nI 0 = 0 from rfl)]
    exact (t_one hG hk hg2 h3 (hf.kc h5 (by decide)) tk hw (h6 c)).tr h4 (h5.lo (Nat.zero_le 2))
  · rw [if_neg (fun z => c ((nI9 h2).mp z))]
    exact ⟨e, A', M', rfl, h2, h3, h4, h5.lo (Nat.zero_le 2), h6⟩
theorem t_wake {b k : Nat} {e : Nat} (hO : MOk P) (hb : b < 48) : ∀ m j A M, pm P < j + m → j ≤ pm P → Iv n sup fc P A M → ∃ A' M', F_W_wakeReturns_b2 m (nI b) (nI j) M = some M' ∧ Iv n sup fc P A' M' ∧ (∀ i, ah A i = true → ah A' i = true) ∧ KC 0 M M' ∧ M'.1 14 0 9 = M.1 14 0 9 := by
  have hpm := hO.1
  intro m
  induction m with
  | zero =>
    intro j A M h1 h2
    omega
  | succ m ih =>
    intro j A M h1 h2 hI
    rw [F_W_wakeReturns_b2, hI.2.1.1]
    by_cases c : j = pm P
    · rw [c, if_pos (nI_le (Nat.le_refl _) (by omega))]
      exact ⟨A, M, rfl, hI, fun _ q => q, KC.rf, rfl⟩
    · have hj : j < 48 := by omega
      rw [if_neg (nI_ge (by omega) (by omega)), bnd_nI hj (by decide), nI_clamp (by omega), (hI.2.2.1.1 j hj).2.2.1]
      unfold F_W_wakeReturns_b35
      by_cases c2 : bq (an A j) b = true
      · rw [if_neg (fun z => by rw [(bq_t0 (by omega)).mp z] at c2; cases c2), bnd_nI hj (by decide), lt_v, lt_v, nI_1, nar1]
        have hr : ah A j = true := by
          rcases (hI.2.2.2 j hj).2.2 with q | q
          · rw [q, bq_0] at c2
            cases c2
          · exact q
        have h3 := hI.s17 (k := j) (b := true) (fun _ => hr)
        obtain ⟨A', M', i1, i2, i3, i4, i5⟩ := ih (j + 1) _ _ (by omega) (by omega) h3
        refine ⟨A', M', i1, i2, i3, (KC.sI (Or.inr (Or.inl rfl))).tr i4, i5.trans ?_⟩
        rw [sI1, if_neg (by omega)]
      · rw [if_pos ((bq_t0 (by omega)).mpr (by cases q : bq (an A j) b <;> simp_all)), lt_v, nI_1]
        exact ih (j + 1) A M (by omega) (by omega) hI
theorem t_leave {k : Nat} {f : Fr} (hG : GP n sup fc P) (hk : k < pm P) (h : Iv n sup fc P A M) (hf : Cf M 0 f) (tk : TK f) (hw : wt f ≤ pS P) (hp : M.1 14 0 9 = nI k) : Tc n sup fc P A k M (F_W_leave (nI k) M) := by
  have hO := hG.2.1
  have hpm := hO.1
  have hk8 : k < 48 := by omega
  obtain ⟨o, ho, eo, fo⟩ := hG.2.2.2.1 k hk
  obtain ⟨p1, p2, p3⟩ := h.2.1.2.2.2.2.2.2.1 k hk8
  have nx : Tc n sup fc P A k M (F_W_meet (nI k) (nI k + 1) 0 M) := by
    rw [nI_1]
    exact t_one hG hk8 (by omega) h hf tk hw hp
  unfold F_W_leave
  rw [bnd_nI hk8 (by decide), lt_v, bnd_nI hk8 (by decide), lt_v, nI_clamp (by omega), p1, p2, p3, eo]
  simp only [bd_ret]
  obtain ⟨-, -, -, -, f5, f6, -⟩ := fo
  rcases cases30 ho with rfl | rfl | rfl | rfl | rfl | rfl | rfl | rfl | rfl | rfl | rfl | rfl | rfl | rfl | rfl | rfl | rfl | rfl | rfl | rfl | rfl | rfl | rfl | rfl | rfl | rfl | rfl | rfl | rfl | rfl | rfl
  · exact nx
  · exact nx
  · exact nx
  · exact nx
  · exact nx
  · exact nx
  · exact nx
  · exact nx
  · exact nx
  · exact nx
  · exact nx
  · exact nx
  · obtain ⟨b, b1, b2⟩ := f5 (by omega)
    rw [b2]
    rw [if_pos (show nI 12 = 12 from rfl), nI_1]
    exact t_two hG hk8 (by omega) (by omega) h hf tk hw hp
  · obtain ⟨b, b1, b2⟩ := f5 (by omega)
    rw [b2]
    rw [if_neg (show ¬ nI 13 = 12 by decide), if_pos (show nI 13 = 13 from rfl), nI_1]
    exact t_two hG hk8 (by omega) (by omega) h hf tk hw hp
  · obtain ⟨b, b1, b2⟩ := f5 (by omega)
    rw [b2]
    exact t_one (g := b) hG hk8 (by omega) h hf tk hw hp
  · obtain ⟨b, b1, b2⟩ := f5 (by omega)
    rw [b2]
    show Tc n sup fc P A k M (bd (F_W_meet (nI k) (nI b) 0 M) (fun r27 M26 => bv (F_W_wakeReturns (nI b) M26) (fun M29 => some (r27, M29))))
    obtain ⟨e, A', M', h1, h2, h3, h4, h5, h6⟩ := t_one (g := b) hG hk8 (by omega) h hf tk hw hp
    rw [h1, bd_some]
    obtain ⟨A2, M2, w1, w2, w3, w4, w5⟩ := t_wake (n := n) (sup := sup) (fc := fc) (b := b) (k := k) (e := e) hO (by omega) fuel 0 A' M' (Nat.lt_of_le_of_lt hpm (fuel_pos (by decide))) (Nat.zero_le _) h3
    have w1' : F_W_wakeReturns (nI b) M' = some M2 := w1
    rw [w1', bv_some]
    exact ⟨e, A2, M2, rfl, h2, w2, fun j q => w3 j (h4 j q), h5.tr w4, fun z => w5.trans (h6 z)⟩
  · exact nx
  · obtain ⟨b, b1, b2⟩ := f5 (by omega)
    obtain ⟨a, a1, a2⟩ := f6 rfl
    rw [b2, a2]
    show Tc n sup fc P A k M (bnd (nI k) 48 (bd (F_W_meet (nI k) (nI a) 0 M) (fun r36 M35 => (if r36 = 0 then F_W_meet (nI k) (nI b) 0 M35 else some (r36, M35)))))
    rw [bnd_nI hk8 (by decide)]
    exact t_two hG hk8 (by omega) (by omega) h hf tk hw hp
  · exact Tc.fin (e := 0) h (by decide) hp
  · exact Tc.fin (e := 0) h (by decide) hp
  · exact nx
  · exact nx
  · exact nx
  · exact nx
  · exact nx
  · exact nx
  · exact nx
  · exact nx
  · exact nx
  · exact nx
  · exact nx
theorem t_back {k b : Nat} {f : Fr} (hG : GP n sup fc P) (hk : k < pm P) (hb : b < 48) (tk : TK f) (hw : wt f ≤ pS P) (hin : bq (fb f) b = true) : ∀ m s A M, pm P < s + m → s ≤ pm P → Iv n sup fc P A M → Cf M 0 f → M.1 14 0 9 = nI k → Tc n sup fc P A k M (F_W_comeBack_b24 m (nI k) (nI b) (nI s) M) := by
  have hO := hG.2.1
  have hpm := hO.1
  intro m
  induction m with
  | zero =>
    intro s A M h1 h2
    omega
  | succ m ih =>
    intro s A M h1 h2 hI hf hp
    rw [F_W_comeBack_b24, hI.2.1.1]
    by_cases c : s = pm P
    · rw [c, if_pos (nI_le (Nat.le_refl _) (by omega))]
      exact Tc.fin (e := 0) hI (by decide) hp
    · have hs : s < 48 := by omega
      obtain ⟨b1, -, -, b4⟩ := hI.2.2.1.1 s hs
      unfold F_W_comeBack_b114
      have nx : Tc n sup fc P A k M (F_W_comeBack_b24 m (nI k) (nI b) (nI s + 1) M) := by
        rw [nI_1]
        exact ih (s + 1) A M (by omega) (by omega) hI hf hp
      rw [if_neg (nI_ge (by omega) (by omega)), bnd_nI hs (by decide), nI_clamp (by omega), b1]
      by_cases c1 : ah A s = true
      · rw [if_neg (fun z => by rw [bI0.mp z] at c1; cases c1), bnd_nI hs (by decide)]
        split
        · rw [bnd_nI hs (by decide)]
          split
          · rw [bnd_nI hs (by decide)]
            obtain ⟨M1, m1, m2, m3⟩ := e_comeBack (j := s + 2) hf (b4 c1) (by omega) hb hin
            obtain ⟨t1, t2⟩ := TK_cmb (b := b) tk ((hI.2.2.2 s hs).1 c1).1
            rw [m1, bv_some, nI_1]
            obtain ⟨e, A', M', i1, i2, i3, i4, i5, i6⟩ := t_meet (g := s + 1) hG (hI.kf m3 (by decide)) m2 (by decide) t1 (Nat.le_trans t2 hw) (show k < 48 by omega) (by omega) ((m3.1 14 0 9 (by omega)).trans hp)
            rw [i1, bd_some]
            have kc : KC 0 M M' := (m3.kc (Nat.zero_le 1)).tr (i5.lo (Nat.zero_le 2))
            by_cases ce : e = 0
            · rw [ce, if_pos (show nI 0 = 0 from rfl), lt_v]
              exact (ih (s + 1) A' M' (by omega) (by omega) i3 ((hf.kp m3 (by decide)).kc i5 (by decide)) (i6 ce)).tr i4 kc
            · rw [if_neg (fun z => ce ((nI9 i2).mp z))]
              exact ⟨e, A', M', rfl, i2, i3, i4, kc, i6⟩
          · exact nx
        · exact nx
      · rw [if_pos (bI0.mpr (by cases q : ah A s <;> simp_all))]
        exact nx
theorem t_look {k : Nat} (hG : GP n sup fc P) (hk : k < pm P) (h : Iv n sup fc P A M) (ha : ah A k = true) : ∃ e A' M', F_W_look (nI k) M = some (nI e, M') ∧ e ≤ 9 ∧ Iv n sup fc P A' M' ∧ KC 0 M M' := by
  have hO := hG.2.1
  have hpm := hO.1
  have hk8 : k < 48 := by omega
  have out : ∀ {A0 : AS} {M0 : Mm} {o : Option (Int32 × Mm)}, Tc n sup fc P A0 k M0 o → KC 0 M M0 → ∃ e A' M', o = some (nI e, M') ∧ e ≤ 9 ∧ Iv n sup fc P A' M' ∧ KC 0 M M' := by
    rintro A0 M0 o ⟨e, A', M', h1, h2, h3, -, h5, -⟩ kc
    exact ⟨e, A', M', h1, h2, h3, kc.tr h5⟩
  unfold F_W_look
  rw [bnd_nI hk8 (by decide), lt_v, lt_v, nI_clamp (by omega), nar0]
  have h1 := (h.s17 (k := k) (b := false) (fun z => by cases z)).s14 (c := 9) (v := nI k) (by decide)
  have kc1 : KC 0 M (sI (sI M 17 0 k 0) 14 0 9 (nI k)) := (KC.sI (Or.inr (Or.inl rfl))).tr (KC.sI (Or.inr (Or.inr ⟨rfl, by decide⟩)))
  have hp1 : (sI (sI M 17 0 k 0) 14 0 9 (nI k)).1 14 0 9 = nI k := by rw [sI1, if_pos ⟨rfl, rfl, rfl⟩]
  have t1 := t_handlers hG hk8 fuel 0 _ _ (Nat.lt_of_le_of_lt hO.2.1 (fuel_pos (by decide))) (Nat.zero_le _) h1 ha hp1
  unfold F_W_meetHandlers
  obtain ⟨e, A2, M2, e1, e2, e3, e4, e5, e6⟩ := t1
  have e1' : F_W_meetHandlers_b2 fuel (nI k) 0 (sI (sI M 17 0 k 0) 14 0 9 (nI k)) = some (nI e, M2) := e1
  rw [e1', bd_some]
  have kc2 := kc1.tr e5
  by_cases c : e = 0
  · rw [if_pos (show nI e = 0 by rw [c]; rfl), bnd_nI hk8 (by decide)]
    have ha2 : ah A2 k = true := e4 k ha
    obtain ⟨M3, m1, m2, m3⟩ := e_copy (i := 0) ((e3.2.2.1.1 k hk8).2.2.2 ha2) (by omega)
    obtain ⟨tk, hw⟩ := (e3.2.2.2 k hk8).1 ha2
    rw [m1, bv_some]
    have h3 := e3.kf m3 (by decide)
    have kc3 := kc2.tr (m3.kc (Nat.le_refl 0))
    obtain ⟨e', A4, M4, p1, p2, p3, p4, p5, p6, p7⟩ := t_perform hG hk h3 m2 tk hw ha2 ((m3.1 14 0 9 (by omega)).trans (e6 c))
    rw [p1, bd_some]
    have kc4 := kc3.tr p5
    by_cases c2 : e' = 0
    · obtain ⟨f, q1, q2, q3, q4⟩ := p7 c2
      rw [if_pos (show nI e' = 0 by rw [c2]; rfl), bnd_nI hk8 (by decide), (p3.2.1.2.2.2.2.2.2.1 k hk8).1]
      simp only [bd_ret]
      by_cases c16 : P.2 0 k = 16
      · rw [if_pos c16]
        obtain ⟨a, b, a1, a2, a3, a4, a5⟩ := q4 c16
        unfold F_W_comeBack
        rw [bnd_nI hk8 (by decide), nI_clamp (by omega), (p3.2.1.2.2.2.2.2.2.1 k hk8).2.1, a3, bnd_nI a1 (by decide), nI_clamp (by omega), q1.2.2.1 a a1, a4, lt_v, show (2000 : Int32) = nI 2000 from rfl, pk_sub (by omega), show 2000 + b - 2000 = b by omega]
        exact out (t_back hG hk a2 q2 q3 a5 fuel 0 A4 M4 (Nat.lt_of_le_of_lt hpm (fuel_pos (by decide))) (Nat.zero_le _) p3 q1 p6) kc4
      · rw [if_neg c16]
        exact out (t_leave hG hk p3 q1 q2 q3 p6) kc4
    · rw [if_neg (fun z => c2 ((nI9 p2).mp z))]
      exact ⟨e', A4, M4, rfl, p2, p3, kc4⟩
  · rw [if_neg (fun z => c ((nI9 e2).mp z))]
    exact ⟨e, A2, M2, rfl, e2, e3, kc2⟩
theorem t_find (hO : MOk P) (h : Iv n sup fc P A M) : ∀ m j, pm P < j + m → j ≤ pm P → ∃ r, F_W_findChanged_b2 m (nI j) M = some (nI r, M) ∧ r ≤ pm P ∧ (r < pm P → ah A r = true) := by
  have hpm := hO.1
  intro m
  induction m with
  | zero =>
    intro j h1 h2
    omega
  | succ m ih =>
    intro j h1 h2
    rw [F_W_findChanged_b2, h.2.1.1]
    by_cases c : j = pm P
    · rw [c, if_pos (nI_le (Nat.le_refl _) (by omega))]
      exact ⟨pm P, rfl, Nat.le_refl _, fun z => absurd z (Nat.lt_irrefl _)⟩
    · have hj : j < 48 := by omega
      obtain ⟨-, b2, -, -⟩ := h.2.2.1.1 j hj
      rw [if_neg (nI_ge (by omega) (by omega)), bnd_nI hj (by decide), nI_clamp (by omega), b2]
      by_cases c2 : ac A j = true
      · rw [if_neg (fun z => by rw [bI0.mp z] at c2; cases c2)]
        exact ⟨j, rfl, h2, fun _ => (h.2.2.2 j hj).2.1 c2⟩
      · rw [if_pos (bI0.mpr (by cases q : ac A j <;> simp_all)), lt_v, nI_1]
        exact ih (j + 1) (by omega) (by omega)
theorem t_b73 {e k : Nat} (h : Iv n sup fc P A M) (he : e ≤ 9) : ∃ e' M', F_W_run_b73 (nI e) (nI k) M = some (nI e', M') ∧ e' ≤ 9 ∧ Iv n sup fc P A M' ∧ ∀ t i c, t < 14 → M'.1 t i c = M.1 t i c := by
  unfold F_W_run_b73
  split
  · split
    · exact ⟨e, M, rfl, he, h, fun _ _ _ _ => rfl⟩
    · refine ⟨9, _, rfl, by decide, h.s14 (by decide), fun t i c q => ?_⟩
      rw [sI1, if_neg (by omega)]
  · exact ⟨e, M, rfl, he, h, fun _ _ _ _ => rfl⟩
theorem t_run (hG : GP n sup fc P) : ∀ m e k q A M, Iv n sup fc P A M → M.1 14 0 8 = nI q → q ≤ 2999 → 3000 ≤ q + m → e ≤ 9 → k ≤ pm P → (k < pm P → ah A k = true) → ∃ e' A' M', F_W_run_b24 m (nI e) (nI k) M = some (nI e', M') ∧ e' ≤ 9 ∧ Iv n sup fc P A' M' ∧ ∀ t i c, t < 14 → M'.1 t i c = M.1 t i c := by
  have hO := hG.2.1
  have hpm := hO.1
  intro m
  induction m with
  | zero =>
    intro e k q A M h1 h2 h3 h4
    omega
  | succ m ih =>
    intro e k q A M hI hq q1 q2 he hk hr
    have fin : ∃ e' A' M', F_W_run_b73 (nI e) (nI k) M = some (nI e', M') ∧ e' ≤ 9 ∧ Iv n sup fc P A' M' ∧ ∀ t i c, t < 14 → M'.1 t i c = M.1 t i c := by
      obtain ⟨e', M', f1, f2, f3, f4⟩ := t_b73 (k := k) hI he
      exact ⟨e', A, M', f1, f2, f3, f4⟩
    rw [F_W_run_b24]
    by_cases c1 : nI e = 0
    · rw [if_pos c1, hI.2.1.1]
      by_cases c2 : k = pm P
      · rw [if_pos (nI_le (show pm P ≤ k by omega) (by omega))]
        exact fin
      · rw [if_neg (nI_ge (by omega) (by omega)), hq]
        by_cases c3 : q = 2999
        · rw [c3, if_pos (show (2999 : Int32) ≤ nI 2999 by decide)]
          exact fin
        · rw [if_neg (show ¬ (2999 : Int32) ≤ nI q from nI_ge (b := 2999) (by omega) (by decide)), lt_v, nI_1]
          have h1 := hI.s14 (c := 8) (v := nI (q + 1)) (by decide)
          obtain ⟨e', A2, M2, l1, l2, l3, l4⟩ := t_look hG (show k < pm P by omega) h1 (hr (by omega))
          rw [l1, bd_some]
          obtain ⟨r, r1, r2, r3⟩ := t_find hO l3 fuel 0 (Nat.lt_of_le_of_lt hpm (fuel_pos (by decide))) (Nat.zero_le _)
          have r1' : F_W_findChanged M2 = some (nI r, M2) := r1
          rw [r1', bd_some]
          have hq2 : M2.1 14 0 8 = nI (q + 1) := by
            rw [l4.2.1, sI1, if_pos ⟨rfl, rfl, rfl⟩]
          obtain ⟨e3, A3, M3, z1, z2, z3, z4⟩ := ih e' r (q + 1) A2 M2 l3 hq2 (by omega) (by omega) l2 r2 r3
          refine ⟨e3, A3, M3, z1, z2, z3, fun t i c w => ?_⟩
          rw [z4 t i c w, l4.1 t i c w, sI1, if_neg (by omega)]
    · rw [if_neg c1]
      exact fin
end IvC
