/-! RET and lookAt in the reference; its verify() ends. -/
section IdE
variable {n : Nat} {sup : Nat → Nat} {fc : Nat → Int32} {P : MT} {A : AS} {M : Mm}
abbrev Sbk (t k : Nat) : Prop := (52 ≤ t ∧ t ≤ 54) ∨ (t = 30 ∧ k = 33)
abbrev rpv (b : Nat) (v : Int32) : Int32 := if v = 2000 + nI b then 0 else v
/-- the STATE behind a SUB (j) laid out, then on -/
theorem e_there {k b j : Nat} {f t : Fr} {K : Int32 → Int32 → Int32 → Mm → Option Mm} (hk : k < 48) (hb : b < 48) (hj : j < 48) (hh : Dh M f) (hd : fd f ≤ 12) (ht : Ds M j t) (hin : bq (fb f) b = true) : ∃ M', F_D_back_b119 K fuel (nI k) (nI b) (nI j) 0 M = bv (F_D_go (nI k) (nI j + 1) M') (fun M17 => F_D_back_b340 K (nI k) (nI b) (nI j) M17) ∧ Dt M' (cmb f t b) ∧ KX Sbk Sco2 M M' := by
  obtain ⟨h1, h2, h3, h4, h5, h6, h7, h8⟩ := hh
  obtain ⟨t1, t2, t3, t4, t5, t6, t7⟩ := ht
  have a3 : ∀ M1 : Mm, F_D_back_b273 K fuel (nI k) (nI b) (nI j) 0 M1 = (fun M => bv (F_D_go (nI k) (nI j + 1) M) (fun M17 => F_D_back_b340 K (nI k) (nI b) (nI j) M17)) (rg M1 54 0 0 48 (fun s => if bq (M1.2 30 0 40) s = true then M1.1 46 0 (48 * j + s) ||| M1.1 51 0 b else 0)) := by
    intro M1
    refine lpR0 (L := fun n i M => F_D_back_b273 K n (nI k) (nI b) (nI j) i M) (Q := fun M => M.2 = M1.2 ∧ (∀ c, M.1 46 0 c = M1.1 46 0 c) ∧ ∀ c, M.1 51 0 c = M1.1 51 0 c) (fin := fun M => bv (F_D_go (nI k) (nI j + 1) M) (fun M17 => F_D_back_b340 K (nI k) (nI b) (nI j) M17)) (fun M c x q => ⟨q.1, fun d => ?_, fun d => ?_⟩) (fun n s M hs q => ?_) (fun n M q => ?_) fuel M1 (by show 48 < 100000; omega) ⟨rfl, fun _ => rfl, fun _ => rfl⟩
    · rw [sI1, if_neg (by omega)]
      exact q.2.1 d
    · rw [sI1, if_neg (by omega)]
      exact q.2.2 d
    · show F_D_back_b273 K (n + 1) (nI k) (nI b) (nI j) (nI s) M = F_D_back_b273 K n (nI k) (nI b) (nI j) (nI (s + 1)) _
      rw [F_D_back_b273, if_neg (ge48 hs), q.1]
      unfold F_D_back_b324
      by_cases c : bq (M1.2 30 0 40) s = true
      · rw [if_pos ((bq_t1 (by omega)).mpr c), nI48, bnd_nI (by omega) (by decide), bnd_nI hb (by decide), bnd_nI hs (by decide), lt_v, lt_v, nI_clamp (by omega), nI_clamp (by omega), nI_clamp (by omega), q.2.1, q.2.2, nI_1, if_pos c, Nat.zero_add]
      · rw [if_neg (fun z => c ((bq_t1 (by omega)).mp z)), bnd_nI hs (by decide), lt_v, lt_v, nI_clamp (by omega), nI_1, if_neg c, Nat.zero_add]
    · show F_D_back_b273 K (n + 1) (nI k) (nI b) (nI j) (nI 48) M = _
      rw [F_D_back_b273, if_pos le48]
  have a2 : ∀ M1 : Mm, M1.1 30 0 31 = nI (fd f) → F_D_back_b203 K fuel (nI k) (nI b) (nI j) 0 M1 = (fun M => F_D_back_b273 K fuel (nI k) (nI b) (nI j) 0 (sL (sI M 30 0 33 (M.1 30 0 31)) 30 0 40 (M.2 47 0 j))) (rg M1 53 0 0 (fd f) (fun s => rpv b (M1.1 50 0 s))) := by
    intro M1 hd1
    refine lpR0 (L := fun n i M => F_D_back_b203 K n (nI k) (nI b) (nI j) i M) (Q := fun M => M.1 30 0 31 = nI (fd f) ∧ ∀ c, M.1 50 0 c = M1.1 50 0 c) (fin := fun M => F_D_back_b273 K fuel (nI k) (nI b) (nI j) 0 (sL (sI M 30 0 33 (M.1 30 0 31)) 30 0 40 (M.2 47 0 j))) (fun M c x q => ⟨?_, fun d => ?_⟩) (fun n s M hs q => ?_) (fun n M q => ?_) fuel M1 (by show fd f < 100000; omega) ⟨hd1, fun _ => rfl⟩
    · rw [sI1, if_neg (by omega)]
      exact q.1
    · rw [sI1, if_neg (by omega)]
      exact q.2 d
    · show F_D_back_b203 K (n + 1) (nI k) (nI b) (nI j) (nI s) M = F_D_back_b203 K n (nI k) (nI b) (nI j) (nI (s + 1)) _
      rw [F_D_back_b203, q.1, if_neg (nI_ge hs (by omega)), bnd_nI (by omega) (by decide), nI_clamp (by omega), q.2 s]
      unfold F_D_back_b244
      by_cases c : M1.1 50 0 s = 2000 + nI b
      · rw [if_pos c, bnd_nI (by omega) (by decide), lt_v, lt_v, nI_clamp (by omega), nI_1, show rpv b (M1.1 50 0 s) = 0 from if_pos c, Nat.zero_add]
      · rw [if_neg c, bnd_nI (by omega) (by decide), bnd_nI (by omega) (by decide), lt_v, lt_v, nI_clamp (by omega), nI_1, show rpv b (M1.1 50 0 s) = M1.1 50 0 s from if_neg c, Nat.zero_add]
    · show F_D_back_b203 K (n + 1) (nI k) (nI b) (nI j) (nI (fd f)) M = _
      rw [F_D_back_b203, q.1, if_pos (nI_le (Nat.le_refl _) (by omega)), lt_v, bnd_nI hj (by decide), lt_v, nI_clamp (by omega), sI2]
  have a1 : ∃ M1, F_D_back_b119 K fuel (nI k) (nI b) (nI j) 0 M = F_D_back_b203 K fuel (nI k) (nI b) (nI j) 0 M1 ∧ (∀ i, i < 12 → M1.1 52 0 i = rpv b (if bt (ft f b) i then fl f i else fl t i)) ∧ KX (fun t _ => t = 52) No2 M M1 := by
    have := lp (L := fun n i M => F_D_back_b119 K n (nI k) (nI b) (nI j) i M) (Inv := fun i M1 => (∀ s, s < i → M1.1 52 0 s = rpv b (if bt (ft f b) s then fl f s else fl t s)) ∧ KX (fun t _ => t = 52) No2 M M1) (N := 12) (fin := fun M => F_D_back_b203 K fuel (nI k) (nI b) (nI j) 0 M) (fun n i M1 hi q => ?_) (fun n M1 q => ?_) fuel 0 M (by show 12 < 0 + 100000; omega) (by omega) ⟨fun s hs => absurd hs (Nat.not_lt_zero s), KX.rf⟩
    · obtain ⟨M1, ⟨q1, q2⟩, q3⟩ := this
      exact ⟨M1, q3, q1, q2⟩
    · obtain ⟨q1, q2⟩ := q
      have e51 : M1.1 51 0 b = ft f b := (q2.1 51 b (by omega)).trans (h8 b hb hin)
      have e49 : M1.1 49 0 i = fl f i := (q2.1 49 i (by omega)).trans (h4 i hi)
      have e43 : M1.1 43 0 (12 * j + i) = fl t i := (q2.1 43 _ (by omega)).trans (t3 i hi)
      have key : ∀ v : Int32, ∃ s', ((∀ s, s < i + 1 → s'.1 52 0 s = if s = i then rpv b v else rpv b (if bt (ft f b) s then fl f s else fl t s)) ∧ KX (fun t _ => t = 52) No2 M s') ∧ F_D_back_b170 K (F_D_back_b119 K n) (nI k) (nI b) (nI j) (nI i) (nI i) v M1 = F_D_back_b119 K n (nI k) (nI b) (nI j) (nI (i + 1)) s' := by
        intro v
        unfold F_D_back_b170 F_D_back_b194
        have e52 : (sI M1 52 0 i v).1 52 0 i = v := by rw [sI1, if_pos ⟨rfl, rfl, rfl⟩]
        rw [bnd_nI hi (by decide), lt_v, bnd_nI hi (by decide), nI_clamp (by omega), e52]
        by_cases c : v = 2000 + nI b
        · rw [if_pos c, bnd_nI hi (by decide), lt_v, lt_v, nI_1]
          refine ⟨_, ⟨fun s hs => ?_, (kx_i (kx_i q2 rfl) rfl)⟩, rfl⟩
          rw [sI1]
          by_cases z : s = i
          · rw [if_pos ⟨rfl, rfl, z⟩, if_pos z, show rpv b v = 0 from if_pos c]
          · rw [if_neg (fun w => z w.2.2), if_neg z, sI1, if_neg (fun w => z w.2.2)]
            exact q1 s (by omega)
        · rw [if_neg c, lt_v, nI_1]
          refine ⟨_, ⟨fun s hs => ?_, kx_i q2 rfl⟩, rfl⟩
          rw [sI1]
          by_cases z : s = i
          · rw [if_pos ⟨rfl, rfl, z⟩, if_pos z, show rpv b v = v from if_neg c]
          · rw [if_neg (fun w => z w.2.2), if_neg z]
            exact q1 s (by omega)
      have fit : ∀ v : Int32, v = (if bt (ft f b) i then fl f i else fl t i) → ∃ s', ((∀ s, s < i + 1 → s'.1 52 0 s = rpv b (if bt (ft f b) s then fl f s else fl t s)) ∧ KX (fun t _ => t = 52) No2 M s') ∧ F_D_back_b170 K (F_D_back_b119 K n) (nI k) (nI b) (nI j) (nI i) (nI i) v M1 = F_D_back_b119 K n (nI k) (nI b) (nI j) (nI (i + 1)) s' := by
        intro v hv
        obtain ⟨s', ⟨k1, k2⟩, k3⟩ := key v
        refine ⟨s', ⟨fun s hs => ?_, k2⟩, k3⟩
        rw [k1 s hs]
        by_cases z : s = i
        · rw [if_pos z, z, hv]
        · rw [if_neg z]
      show ∃ s', _ ∧ F_D_back_b119 K (n + 1) (nI k) (nI b) (nI j) (nI i) M1 = F_D_back_b119 K n (nI k) (nI b) (nI j) (nI (i + 1)) s'
      rw [F_D_back_b119, if_neg (ge12 hi), bnd_nI hb (by decide), nI_clamp (by omega), e51, bt_one (by omega)]
      cases c : bt (ft f b) i
      · rw [if_neg (by decide), nI12, bnd_nI (by omega) (by decide), nI_clamp (by omega), e43]
        exact fit _ (by rw [c]; rfl)
      · rw [if_pos (by decide), bnd_nI (by omega) (by decide), nI_clamp (by omega), e49]
        exact fit _ (by rw [c]; rfl)
    · show F_D_back_b119 K (n + 1) (nI k) (nI b) (nI j) (nI 12) M1 = _
      rw [F_D_back_b119, if_pos le12]
  obtain ⟨M1, b1, b2, b3⟩ := a1
  have e31 : M1.1 30 0 31 = nI (fd f) := (b3.1 30 31 (by omega)).trans h2
  rw [b1, a2 M1 e31]
  generalize hM2 : rg M1 53 0 0 (fd f) (fun s => rpv b (M1.1 50 0 s)) = M2
  have k2 : KX (fun t _ => t = 53) No2 M1 M2 := by
    rw [← hM2]
    exact kx_g KX.rf (fun c _ _ => rfl)
  have e31' : M2.1 30 0 31 = nI (fd f) := (k2.1 30 31 (by omega)).trans e31
  show ∃ M', F_D_back_b273 K fuel (nI k) (nI b) (nI j) 0 (sL (sI M2 30 0 33 (M2.1 30 0 31)) 30 0 40 (M2.2 47 0 j)) = _ ∧ _
  rw [a3, e31']
  have e47 : M2.2 47 0 j = fb t := ((k2.2 47 j id).trans (b3.2 47 j id)).trans t5
  rw [e47]
  generalize hM3 : sL (sI M2 30 0 33 (nI (fd f))) 30 0 40 (fb t) = M3
  have k3 : KX (fun t k => t = 30 ∧ k = 33) Sco2 M2 M3 := by
    rw [← hM3]
    exact kx_l (kx_i KX.rf ⟨rfl, rfl⟩) ⟨rfl, rfl⟩
  have e40 : M3.2 30 0 40 = fb t := by
    rw [← hM3, sL2, if_pos ⟨rfl, rfl, rfl⟩]
  have kM3 : KX Sbk Sco2 M M3 := ((b3.mono (fun t c z => by omega) (fun t c z => z.elim)).tr (k2.mono (fun t c z => by omega) (fun t c z => z.elim))).tr (k3.mono (fun t c z => by omega) (fun t c z => z))
  refine ⟨_, rfl, ⟨hd, ?_, fun i hi => ?_, fun i hi => ?_, ?_, t6, fun s hs hq => ?_⟩, kx_g kM3 (fun c _ _ => by omega)⟩
  · rw [rg_out (by omega), ← hM3, sL1, sI1, if_pos ⟨rfl, rfl, rfl⟩]
  · rw [rg_out (by omega), k3.1 52 i (by omega), k2.1 52 i (by omega), b2 i hi]
  · have e := rg_in (M := M1) (t := 53) (lo := 0) (N := fd f) (v := fun s => rpv b (M1.1 50 0 s)) hi
    rw [Nat.zero_add] at e
    rw [rg_out (by omega), k3.1 53 i (by omega), ← hM2, e, b3.1 50 i (by omega), h5 i hi]
  · show M3.2 30 0 40 = fb t
    exact e40
  · have e := rg_in (M := M3) (t := 54) (lo := 0) (N := 48) (v := fun s => if bq (M3.2 30 0 40) s = true then M3.1 46 0 (48 * j + s) ||| M3.1 51 0 b else 0) hs
    rw [Nat.zero_add] at e
    have hq' : bq (fb t) s = true := hq
    have e46 : M3.1 46 0 (48 * j + s) = ft t s := (kM3.1 46 _ (by omega)).trans (t7 s hs hq')
    have e51 : M3.1 51 0 b = ft f b := (kM3.1 51 b (by omega)).trans (h8 b hb hin)
    rw [e, e40, if_pos hq', e46, e51]
theorem t_backD {e k b : Nat} {f : Fr} (hG : GP n sup fc P) (hk : k < pm P) (hb : b < 48) (tk : TK f) (hw : wt f ≤ pS P) (hin : bq (fb f) b = true) : ∀ m j e A M, pm P < j + m → j ≤ pm P → Ie n sup fc P A e M → Dh M f → Td n sup fc P A M (F_D_back_b64 m (nI k) (nI b) (nI j) M) := by
  have hO := hG.2.1
  have hpm := hO.1
  have pS12 := hO.2.2.2.2.1
  have hge := wsum_ge (fs f) (fd f)
  have hwf : wt f = wsum (fs f) (fd f) := rfl
  intro m
  induction m with
  | zero =>
    intro j e A M h1 h2
    omega
  | succ m ih =>
    intro j e A M h1 h2 hI hh
    have fin : Td n sup fc P A M (some M) := ⟨e, A, M, rfl, hI, fun _ q => q, rfl⟩
    obtain ⟨i1, i2, i3, i4, i5, i6⟩ := id hI
    rw [F_D_back_b64, i4.1]
    by_cases c : j = pm P
    · rw [c, if_pos (nI_le (Nat.le_refl _) (by omega))]
      exact fin
    · have hj : j < 48 := by omega
      have nx : Td n sup fc P A M (F_D_back_b340 (F_D_back_b64 m) (nI k) (nI b) (nI j) M) := by
        unfold F_D_back_b340
        rw [lt_v, nI_1]
        exact ih (j + 1) e A M (by omega) (by omega) hI hh
      rw [if_neg (nI_ge (by omega) (by omega))]
      split
      · rw [bnd_nI hj (by decide)]
        split
        · rw [bnd_nI hj (by decide)]
          split
          · rw [bnd_nI hj (by decide), nI_clamp (by omega), (i5 j hj).1]
            by_cases c1 : ah A j = true
            · rw [if_neg (fun z => by rw [bI0.mp z] at c1; cases c1)]
              obtain ⟨M1, m1, m2, m3⟩ := e_there (K := F_D_back_b64 m) (show k < 48 by omega) hb hj hh (by omega) ((i5 j hj).2.2.2 c1) hin
              rw [m1, nI_1]
              have hI1 : Ie n sup fc P A e M1 := ⟨i1, (m3.1 30 34 (by omega)).trans i2, hI.2.2.kx m3 (fun t c q z => by omega) (fun t c q z => by omega)⟩
              obtain ⟨u1, u2⟩ := TK_cmb (b := b) tk ((i6 j hj).1 c1).1
              obtain ⟨e', A', M', g1, g2, g3, g4⟩ := t_go (k := k) (g := j + 1) hG hI1 m2 u1 (Nat.le_trans u2 hw) (by omega) (by omega)
              rw [g1, bv_some]
              unfold F_D_back_b340
              rw [lt_v, nI_1]
              have hh1 : Dh M1 f := hh.kx m3 (fun t c q z => by omega) (fun z => by omega)
              refine (ih (j + 1) e' A' M' (by omega) (by omega) g2 (hh1.kx g4 (fun t c q z => by omega) (fun z => by omega))).tr g3 ?_
              rw [g4.1 30 36 (by omega), m3.1 30 36 (by omega)]
            · rw [if_pos (bI0.mpr (by cases q : ah A j <;> simp_all))]
              exact nx
          · exact nx
        · exact nx
      · exact fin
theorem t_ret {k a : Nat} {f : Fr} (hG : GP n sup fc P) (hk : k < pm P) (ha : a < 12) (hak : ah A k = true) (h : Ie n sup fc P A 0 M) (hh : Dh M f) (tk : TK f) (hw : wt f ≤ pS P) : Td n sup fc P A M (F_D_back (nI k) (nI a) M) := by
  have hO := hG.2.1
  have hpm := hO.1
  unfold F_D_back
  rw [bnd_nI (show a < 14 by omega) (by decide), lt_v, nI_clamp (by omega), hh.2.2.2.1 a ha]
  obtain ⟨j, j1, j2⟩ := tk.1 a ha
  rw [j1]
  by_cases c : 2000 ≤ j
  · obtain ⟨b, rfl⟩ : ∃ b, j = 2000 + b := ⟨j - 2000, by omega⟩
    have hb : b < 48 := by omega
    have es : nI (2000 + b) - 2000 = nI b := by
      rw [show (2000 : Int32) = nI 2000 from rfl, pk_sub (by omega), show 2000 + b - 2000 = b by omega]
    rw [es, if_pos (nI_pos' (by omega)), hh.2.2.2.2.2.1]
    by_cases ci : bq (fb f) b = true
    · rw [if_neg (fun z => by rw [(bq_t0 (by omega)).mp z] at ci; cases ci)]
      obtain ⟨M1, m1, m2, m3⟩ := e_touches (a := a) (t := 0) hh ha
      rw [m1, bv_some, bnd_nI (show k < 48 by omega) (by decide), bnd_nI (show k < 48 by omega) (by decide), lt_v, nI_clamp (by omega)]
      have hI1 : Ie n sup fc P A 0 M1 := ⟨h.1, (m3.1 30 34 (by omega)).trans h.2.1, h.2.2.kx m3 (fun t c q z => by omega) (fun t c q z => z)⟩
      generalize hx : M1.2 48 0 k ||| (1 : Int64) <<< ((nI b).toInt64 &&& 63) = x
      have hI2 : Ie n sup fc P (ah A, ac A, sg (an A) k x, af A) 0 (sL M1 48 0 k x) := by
        obtain ⟨i1, i2, i3, i4, i5, i6⟩ := hI1
        refine ⟨i1, i2, TRe_cg i3 rfl (fun _ _ _ _ => rfl), DMe_kx (S := No2) (S2 := fun t _ => t = 48) i4 (KX.sL rfl) (fun t c q z => z), fun s hs => ?_, AOk_n i6 hak⟩
        obtain ⟨a1, a2, a3, a4⟩ := i5 s hs
        refine ⟨a1, a2, ?_, fun q => Ds_cg (a4 q) (fun t c q1 q2 _ _ _ => rfl) ?_⟩
        · show (sL M1 48 0 k x).2 48 0 s = sg (an A) k x s
          rw [sL2]
          by_cases z : s = k
          · rw [if_pos ⟨rfl, rfl, z⟩, z, sg_s]
          · rw [if_neg (fun w => z w.2.2), sg_n z]
            exact a3
        · rw [sL2, if_neg (by omega)]
      refine (t_backD (e := 0) hG hk hb (TK_tch tk) hw ci fuel 0 0 _ _ (Nat.lt_of_le_of_lt hpm (fuel_pos (by decide))) (Nat.zero_le _) hI2 (Dh_cg m2 (fun t c q => rfl) ?_)).tr (fun _ q => q) (m3.1 30 36 (by omega))
      rw [sL2, if_neg (by omega)]
    · rw [if_pos ((bq_t0 (by omega)).mpr (by cases q : bq (fb f) b <;> simp_all))]
      exact Td.fail (v := 7) h (by decide) (by decide)
  · rw [if_neg]
    · exact Td.fail (v := 2) h (by decide) (by decide)
    · intro z
      rw [Int32.le_iff_toInt_le, show (2000 : Int32) = nI 2000 from rfl, pk_sub_toInt (by omega) (by omega)] at z
      have : (0 : Int32).toInt = 0 := by decide
      omega
theorem t_359 {k o : Nat} {r : Int32} {f : Fr} {e : Nat} (hG : GP n sup fc P) (hk : k < pm P) (ho : o ≤ 30) (fo : FO P o (P.2 1 k) (P.2 2 k)) (h : Ie n sup fc P A e M) (h15 : ¬ o = 15) (hr : ¬ r = 0 → Dh M f ∧ TK f) : Td n sup fc P A M (F_D_lookAt_b359 (nI k) (nI o) (P.2 1 k) (P.2 2 k) r M) := by
  have hO := hG.2.1
  have hpm := hO.1
  have pS12 := hO.2.2.2.2.1
  unfold F_D_lookAt_b359
  by_cases c : r = 0
  · rw [if_pos c]
    exact Td.fail (v := 2) h (by decide) (by decide)
  · obtain ⟨hh, tk⟩ := hr c
    rw [if_neg c, if_neg (show ¬ nI o = (15 : Int32) from neN (k := 15) rfl (by omega) (by decide) h15), hh.2.2.1, h.2.2.2.1.2.2.2.2.2.1]
    have hwf : wt f = wsum (fs f) (fd f) := rfl
    have hge := wsum_ge (fs f) (fd f)
    have hle := wsum_le2 (fs f) (fd f)
    have h16 := hh.1
    by_cases cw : wt f ≤ pS P
    · rw [if_pos (nI_le cw (by omega))]
      obtain ⟨M1, m1, m2, m3⟩ := e_copyOut hh (by omega)
      rw [m1, bv_some]
      have hI1 : Ie n sup fc P A e M1 := ⟨h.1, (m3.1 30 34 (by omega)).trans h.2.1, h.2.2.kx m3 (fun t c q z => by omega) (fun t c q z => by omega)⟩
      have l1 : M1.1 30 0 36 = M.1 30 0 36 := m3.1 30 36 (by omega)
      have t4 := t_434 hG hI1 m2 tk cw (show k < 48 by omega) ho fo.2.2.2.2.1 fo.2.2.2.2.2.1
      refine Td.tr (A2 := A) (M2 := M1) ?_ (fun _ q => q) l1
      split
      · exact t4
      · rw [lt_v]
        split
        · rw [nI_1]
          obtain ⟨e', A', M', g1, g2, g3, g4⟩ := t_go (k := k) (g := k + 1) hG hI1 m2 tk cw (by omega) (by omega)
          rw [g1, bv_some]
          exact (t_434 hG g2 (Dt_cg m2 (fun t c q => g4.1 t c (by omega)) (g4.2 30 40 (by omega))) tk cw (show k < 48 by omega) ho fo.2.2.2.2.1 fo.2.2.2.2.2.1).tr g3 (g4.1 30 36 (by omega))
        · exact t4
    · rw [if_neg (nI_ge (by omega) (by omega))]
      exact Td.fail (v := 3) h (by decide) (by decide)
theorem t_275 {k e : Nat} {f : Fr} (hG : GP n sup fc P) (hk : k < pm P) (hak : ah A k = true) (h : Ie n sup fc P A e M) (hh : Dh M f) (tk : TK f) (hw : wt f ≤ pS P) : Td n sup fc P A M (F_D_lookAt_b275 (nI k) M) := by
  have hO := hG.2.1
  have hpm := hO.1
  have hk8 : k < 48 := by omega
  have hL := hO.2.2.2.1
  unfold F_D_lookAt_b275
  rw [h.2.1]
  by_cases c : e = 0
  · subst c
    rw [if_pos (show nI 0 ≤ 0 by decide)]
    obtain ⟨o, ho, eo, fo⟩ := hG.2.2.2.1 k hk
    obtain ⟨p1, p2, p3⟩ := h.2.2.2.1.2.2.2.2.2.2.1 k hk8
    rw [bnd_nI hk8 (by decide), lt_v, bnd_nI hk8 (by decide), lt_v, bnd_nI hk8 (by decide), lt_v, nI_clamp (by omega), p1, p2, p3, eo]
    by_cases c16 : o = 16
    · subst c16
      rw [if_pos (show nI 16 = 16 from rfl), bv_ret]
      obtain ⟨a, a1, a2⟩ := fo.2.1 (by omega)
      rw [a2]
      exact t_ret hG hk (by omega) hak h hh tk hw
    · rw [if_neg (show ¬ nI o = (16 : Int32) from neN (k := 16) rfl (by omega) (by decide) c16)]
      by_cases c15 : o = 15
      · subst c15
        obtain ⟨b, b1, b2⟩ := fo.2.2.2.2.1 (by omega)
        rw [b2]
        show Td n sup fc P A M (bd (F_D_flows (nI 15) (P.2 1 k) (nI b) M) (fun r52 M51 => F_D_lookAt_b359 (nI k) (nI 15) (P.2 1 k) (nI b) r52 M51))
        rw [show F_D_flows (nI 15) (P.2 1 k) (nI b) M = some (1, M) from rfl, bd_some]
        unfold F_D_lookAt_b359
        rw [if_neg (by decide), if_pos (show nI 15 = 15 from rfl), bv_ret]
        exact t_enters hG hk b1 h hh tk hw
      · obtain ⟨r, M1, m1, m2, m3⟩ := t_performD hG hk ho fo c15 c16 h.2.2 hh tk hw
        have hI1 : Ie n sup fc P A 0 M1 := ⟨h.1, (m2.1 30 34 (by omega)).trans h.2.1, h.2.2.kx m2 (fun t c q z => by omega) (fun t c q z => z)⟩
        have l1 : M1.1 30 0 36 = M.1 30 0 36 := m2.1 30 36 (by omega)
        have key : Td n sup fc P A M (F_D_lookAt_b359 (nI k) (nI o) (P.2 1 k) (P.2 2 k) r M1) := by
          by_cases cr : r = 0
          · exact (t_359 (f := f) hG hk ho fo hI1 c15 (fun z => absurd cr z)).tr (fun _ q => q) l1
          · obtain ⟨f', q1, q2⟩ := m3 cr
            exact (t_359 (f := f') hG hk ho fo hI1 c15 (fun _ => ⟨q1, q2⟩)).tr (fun _ q => q) l1
        unfold rfD at m1
        by_cases c9 : o < 9
        · rw [if_pos c9] at m1
          rw [if_neg (show ¬ (9 : Int32) ≤ nI o from nI_ge (b := 9) c9 (by decide)), m1, bd_some]
          exact key
        · rw [if_neg c9] at m1
          rw [if_pos (show (9 : Int32) ≤ nI o from nI_le (a := 9) (by omega) (by omega))]
          by_cases c20 : o < 20
          · rw [if_pos c20] at m1
            rw [if_neg (show ¬ (20 : Int32) ≤ nI o from nI_ge (b := 20) c20 (by decide)), m1, bd_some]
            exact key
          · rw [if_neg c20] at m1
            rw [if_pos (show (20 : Int32) ≤ nI o from nI_le (a := 20) (by omega) (by omega)), m1, bd_some]
            exact key
  · rw [if_neg (fun z => c ((nI_e0 h.1).mp z))]
    exact ⟨e, A, M, rfl, h, fun _ q => q, rfl⟩
end IdE
