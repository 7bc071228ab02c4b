/-! lookAt and verify() of the reference end. -/
section IdF
variable {n : Nat} {sup : Nat → Nat} {fc : Nat → Int32} {P : MT} {A : AS} {M : Mm}
theorem t_handD {k : Nat} {f : Fr} (hG : GP n sup fc P) (hk : k < pm P) (tk : TK f) (hw : wt f ≤ pS P) : ∀ m h e A M, ph P < h + m → h ≤ ph P → Ie n sup fc P A e M → ah A k = true → Dh M f → Td n sup fc P A M (F_D_lookAt_b165 m (nI k) (nI h) M) := by
  have hO := hG.2.1
  have hpm := hO.1
  have hp3 := hO.2.1
  have pS12 := hO.2.2.2.2.1
  have hwf : wt f = wsum (fs f) (fd f) := rfl
  have hge := wsum_ge (fs f) (fd f)
  intro m
  induction m with
  | zero =>
    intro h e A M h1 h2
    omega
  | succ m ih =>
    intro h e A M h1 h2 hI hak hh
    have fin : Td n sup fc P A M (F_D_lookAt_b275 (nI k) M) := t_275 hG hk hak hI hh tk hw
    obtain ⟨i1, i2, i3, i4, i5, i6⟩ := id hI
    rw [F_D_lookAt_b165, i4.2.1]
    by_cases c : h = ph P
    · rw [c, if_pos (nI_le (Nat.le_refl _) (by omega))]
      exact fin
    · have hh3 : h < 3 := by omega
      have on : ∀ {e2 : Nat} {A2 : AS} {M2 : Mm}, Ie n sup fc P A2 e2 M2 → ah A2 k = true → Dh M2 f → Td n sup fc P A2 M2 (F_D_lookAt_b269 (F_D_lookAt_b165 m) (nI k) (nI h) M2) := fun {e2 A2 M2} q1 q2 q3 => by
        unfold F_D_lookAt_b269
        rw [lt_v, nI_1]
        exact ih (h + 1) e2 A2 M2 (by omega) (by omega) q1 q2 q3
      rw [if_neg (nI_ge (by omega) (by omega))]
      by_cases c0 : M.1 30 0 34 = 0
      · rw [if_pos c0, bnd_nI hh3 (by decide)]
        split
        · exact on hI hak hh
        · rw [bnd_nI hh3 (by decide)]
          split
          · exact on hI hak hh
          · have e0 : e = 0 := by
              rw [i2] at c0
              exact (nI9 i1).mp c0
            obtain ⟨M1, m1, m2, m3⟩ := e_copyOut hh (by omega)
            rw [m1, bv_some, lt_v, bnd_nI hh3 (by decide), bnd_ok (show vp_in 0 20 from vp_in_nI (n := 0) (N := 20) (by decide) (by decide)), lt_v, nI_clamp (by omega)]
            obtain ⟨g, cc, g1, g2, g3, g4⟩ := hG.2.2.2.2.1 h (by omega)
            have d4 := i4.2.2.2.2.2.2.2.1 h hh3
            have e39 : (sI M1 30 0 33 1).1 39 0 h = nI cc := by
              rw [sI1, if_neg (by omega), m3.1 39 h (by omega), d4.2.2.2, g4]
            rw [e39, show (0 : Int32).toNatClampNeg = 0 from rfl]
            generalize hM2 : sI (sI M1 30 0 33 1) 53 0 0 (16 + nI cc) = M2
            have k2 : KX Sco Sco2 M M2 := by
              rw [← hM2]
              exact kx_i (kx_i m3 (by omega)) (by omega)
            have hI2 : Ie n sup fc P A e M2 := ⟨i1, (k2.1 30 34 (by omega)).trans i2, hI.2.2.kx k2 (fun t c q z => by omega) (fun t c q z => by omega)⟩
            have hd2 : Dt M2 (ctc f (16 + nI cc)) := by
              obtain ⟨s1, s2, s3, s4, s5, s6, s7⟩ := m2
              rw [← hM2]
              refine ⟨by show 1 ≤ 12; omega, ?_, fun j hj => ?_, fun j hj => ?_, s5, s6, fun b hb hq => ?_⟩
              · rw [sI1, if_neg (by omega), sI1, if_pos ⟨rfl, rfl, rfl⟩]
                rfl
              · rw [sI1, if_neg (by omega), sI1, if_neg (by omega)]
                exact s3 j hj
              · have hj' : j < 1 := hj
                rw [sI1, if_pos ⟨rfl, rfl, by omega⟩]
              · rw [sI1, if_neg (by omega), sI1, if_neg (by omega)]
                exact s7 b hb hq
            have hh2 : Dh M2 f := hh.kx k2 (fun t c q z => by omega) (fun z => by omega)
            have l2 : M2.1 30 0 36 = M.1 30 0 36 := k2.1 30 36 (by omega)
            obtain ⟨t1, t2⟩ := TK_ctc (f := f) (c := cc) tk g2
            have b252 : ∀ {e3 : Nat} {M3 : Mm}, Ie n sup fc P A e3 M3 → (e3 = 0 → 1 ≤ pS P) → Dt M3 (ctc f (16 + nI cc)) → Dh M3 f → Td n sup fc P A M3 (F_D_lookAt_b252 (F_D_lookAt_b165 m) (nI k) (nI h) M3) := fun {e3 M3} q1 q2 q3 q4 => by
              unfold F_D_lookAt_b252
              by_cases z : e3 = 0
              · subst z
                rw [if_pos (show M3.1 30 0 34 = 0 from q1.2.1), bnd_nI hh3 (by decide), nI_clamp (by omega), (q1.2.2.2.1.2.2.2.2.2.2.2.1 h hh3).2.2.1, g3]
                obtain ⟨e', A', M', r1, r2, ⟨r3, -⟩, r4⟩ := t_meetD (g := g) hG q1 q3 t1 (by have := q2 rfl; omega) (by omega)
                rw [r1, bv_some]
                exact (on r2 (r3 k hak) (q4.kx r4 (fun t c q z => by omega) (fun z => by omega))).tr r3 (r4.1 30 36 (by omega))
              · rw [if_neg (by rw [q1.2.1]; exact fun w => z ((nI9 q1.1).mp w))]
                exact on q1 hak q4
            have b239 : ∀ {e3 : Nat} {M3 : Mm}, Ie n sup fc P A e3 M3 → Dt M3 (ctc f (16 + nI cc)) → Dh M3 f → Td n sup fc P A M3 (F_D_lookAt_b239 (F_D_lookAt_b165 m) (nI k) (nI h) M3) := fun {e3 M3} q1 q3 q4 => by
              unfold F_D_lookAt_b239
              rw [q1.2.2.2.1.2.2.2.2.2.1]
              by_cases z : pS P = 0
              · rw [z, if_pos (show nI 0 = 0 from rfl)]
                obtain ⟨e', M', r1, r2, r3, r4⟩ := t_fail (v := 3) (w := nI k) q1 (by decide) (by decide)
                rw [show F_D_fail 3 (nI k) M3 = some M' from r1, bv_some]
                exact (b252 r2 (fun w => absurd w r3) (Dt_cg q3 (fun t c q => r4.1 t c (by omega)) (r4.2 30 40 id)) (q4.kx r4 (fun t c q z => by omega) id)).tr (fun _ q => q) (r4.1 30 36 (by omega))
              · rw [if_neg (fun w => z ((nI_eqz (by omega)).mp w))]
                exact b252 q1 (fun _ => by omega) q3 q4
            obtain ⟨r, r1, r2⟩ := e_hasRawD0 hd2 tk.1
            rw [r1, bd_some]
            refine Td.tr (A2 := A) (M2 := M2) ?_ (fun _ q => q) l2
            split
            · exact b239 hI2 hd2 hh2
            · obtain ⟨e', M', r1, r2, r3, r4⟩ := t_fail (v := 8) (w := nI k) hI2 (by decide) (by decide)
              rw [show F_D_fail 8 (nI k) M2 = some M' from r1, bv_some]
              exact (b239 r2 (Dt_cg hd2 (fun t c q => r4.1 t c (by omega)) (r4.2 30 40 id)) (hh2.kx r4 (fun t c q z => by omega) id)).tr (fun _ q => q) (r4.1 30 36 (by omega))
      · rw [if_neg c0]
        exact fin
/-- the STATE of k is laid out in 'here' -/
theorem e_load {k : Nat} {t : Fr} (hk : k < 48) (ht : Ds M k t) : ∃ M', F_D_lookAt_b44 fuel (nI k) 0 (sL (sI (sI M 30 0 32 0) 30 0 31 (nI (fd t))) 30 0 39 (fb t)) = F_D_lookAt_b165 fuel (nI k) 0 M' ∧ Dh M' t ∧ KX (fun t k => (49 ≤ t ∧ t ≤ 51) ∨ (t = 30 ∧ (k = 31 ∨ k = 32))) (fun t k => t = 30 ∧ k = 39) M M' := by
  obtain ⟨t1, t2, t3, t4, t5, t6, t7⟩ := ht
  have a3 : ∀ M1 : Mm, F_D_lookAt_b134 fuel (nI k) 0 M1 = (fun M => F_D_lookAt_b165 fuel (nI k) 0 M) (rg M1 51 0 0 48 (fun s => M1.1 46 0 (48 * k + s))) := by
    intro M1
    refine lpR0 (L := fun n i M => F_D_lookAt_b134 n (nI k) i M) (Q := fun M => ∀ c, M.1 46 0 c = M1.1 46 0 c) (fin := fun M => F_D_lookAt_b165 fuel (nI k) 0 M) (fun M c x q d => ?_) (fun n s M hs q => ?_) (fun n M q => ?_) fuel M1 (by show 48 < 100000; omega) (fun _ => rfl)
    · rw [sI1, if_neg (by omega)]
      exact q d
    · show F_D_lookAt_b134 (n + 1) (nI k) (nI s) M = F_D_lookAt_b134 n (nI k) (nI (s + 1)) _
      rw [F_D_lookAt_b134, if_neg (ge48 hs), nI48, bnd_nI (by omega) (by decide), bnd_nI hs (by decide), lt_v, lt_v, nI_clamp (by omega), nI_clamp (by omega), q, nI_1, Nat.zero_add]
    · show F_D_lookAt_b134 (n + 1) (nI k) (nI 48) M = _
      rw [F_D_lookAt_b134, if_pos le48]
  have a1 : ∀ M1 : Mm, F_D_lookAt_b44 fuel (nI k) 0 M1 = (fun M => F_D_lookAt_b75 fuel (nI k) 0 M) (rg M1 49 0 0 12 (fun s => M1.1 43 0 (12 * k + s))) := by
    intro M1
    refine lpR0 (L := fun n i M => F_D_lookAt_b44 n (nI k) i M) (Q := fun M => ∀ c, M.1 43 0 c = M1.1 43 0 c) (fin := fun M => F_D_lookAt_b75 fuel (nI k) 0 M) (fun M c x q d => ?_) (fun n s M hs q => ?_) (fun n M q => ?_) fuel M1 (by show 12 < 100000; omega) (fun _ => rfl)
    · rw [sI1, if_neg (by omega)]
      exact q d
    · show F_D_lookAt_b44 (n + 1) (nI k) (nI s) M = F_D_lookAt_b44 n (nI k) (nI (s + 1)) _
      rw [F_D_lookAt_b44, if_neg (ge12 hs), nI12, bnd_nI (by omega) (by decide), bnd_nI (by omega) (by decide), lt_v, lt_v, nI_clamp (by omega), nI_clamp (by omega), q, nI_1, Nat.zero_add]
    · show F_D_lookAt_b44 (n + 1) (nI k) (nI 12) M = _
      rw [F_D_lookAt_b44, if_pos le12]
  have a2 : ∀ M0 : Mm, M0.1 30 0 31 = nI (fd t) → M0.1 30 0 32 = nI 0 → (∀ j, j < fd t → M0.1 44 0 (12 * k + j) = fs t j) → ∃ M1, F_D_lookAt_b75 fuel (nI k) 0 M0 = F_D_lookAt_b134 fuel (nI k) 0 M1 ∧ (∀ j, j < fd t → M1.1 50 0 j = fs t j) ∧ M1.1 30 0 32 = nI (wt t) ∧ KX (fun t k => t = 50 ∨ (t = 30 ∧ k = 32)) No2 M0 M1 := by
    intro M0 z1 z2 z3
    have := lp (L := fun n i M => F_D_lookAt_b75 n (nI k) i M) (Inv := fun i M1 => (∀ j, j < i → M1.1 50 0 j = fs t j) ∧ M1.1 30 0 32 = nI (wsum (fs t) i) ∧ KX (fun t k => t = 50 ∨ (t = 30 ∧ k = 32)) No2 M0 M1) (N := fd t) (fin := fun M => F_D_lookAt_b134 fuel (nI k) 0 M) (fun n i M1 hi q => ?_) (fun n M1 q => ?_) fuel 0 M0 (by show fd t < 0 + 100000; omega) (by omega) ⟨fun s hs => absurd hs (Nat.not_lt_zero s), z2, KX.rf⟩
    · obtain ⟨M1, ⟨q1, q2, q3⟩, q4⟩ := this
      exact ⟨M1, q4, q1, q2, q3⟩
    · obtain ⟨q1, q2, q3⟩ := q
      show ∃ s', _ ∧ F_D_lookAt_b75 (n + 1) (nI k) (nI i) M1 = F_D_lookAt_b75 n (nI k) (nI (i + 1)) s'
      have e44 : M1.1 44 0 (12 * k + i) = fs t i := (q3.1 44 _ (by omega)).trans (z3 i hi)
      have e31 : M1.1 30 0 31 = nI (fd t) := (q3.1 30 31 (by omega)).trans z1
      have w1 := wid_1 (fs t i)
      have ws : wsum (fs t) (i + 1) = wsum (fs t) i + wid (fs t i) := rfl
      have hle := wsum_le2 (fs t) i
      rw [F_D_lookAt_b75, e31, if_neg (nI_ge hi (by omega)), nI12, bnd_nI (by omega) (by decide), bnd_nI (by omega) (by decide), lt_v, bnd_nI (by omega) (by decide), lt_v, nI_clamp (by omega), nI_clamp (by omega), e44]
      have e50 : (sI M1 50 0 i (fs t i)).1 50 0 i = fs t i := by rw [sI1, if_pos ⟨rfl, rfl, rfl⟩]
      have e32 : (sI M1 50 0 i (fs t i)).1 30 0 32 = nI (wsum (fs t) i) := by
        rw [sI1, if_neg (by omega)]
        exact q2
      rw [e50, e_wideD, e32]
      unfold F_D_lookAt_b122
      have key : ∀ w : Nat, w = wid (fs t i) → ∃ s', ((∀ j, j < i + 1 → s'.1 50 0 j = fs t j) ∧ s'.1 30 0 32 = nI (wsum (fs t) (i + 1)) ∧ KX (fun t k => t = 50 ∨ (t = 30 ∧ k = 32)) No2 M0 s') ∧ (lt (sI (sI M1 50 0 i (fs t i)) 30 0 32 (nI (wsum (fs t) i) + nI w)) fun M1 => lt (nI i + 1) fun n2 => F_D_lookAt_b75 n (nI k) n2 M1) = F_D_lookAt_b75 n (nI k) (nI (i + 1)) s' := by
        intro w hw
        rw [lt_v, lt_v, nI_1]
        refine ⟨_, ⟨fun j hj => ?_, ?_, kx_i (kx_i q3 (by omega)) (by omega)⟩, rfl⟩
        · rw [sI1, if_neg (by omega), sI1]
          by_cases z : j = i
          · rw [if_pos ⟨rfl, rfl, z⟩, z]
          · rw [if_neg (fun v => z v.2.2)]
            exact q1 j (by omega)
        · rw [sI1, if_pos ⟨rfl, rfl, rfl⟩, nI_add, hw, ws]
      by_cases c : fs t i = 3 ∨ fs t i = 4
      · rw [if_pos c, if_neg (by decide)]
        exact key 2 (wid2.mpr c).symm
      · rw [if_neg c, if_pos rfl]
        have : ¬ wid (fs t i) = 2 := fun z => c (wid2.mp z)
        exact key 1 (by omega)
    · show F_D_lookAt_b75 (n + 1) (nI k) (nI (fd t)) M1 = _
      rw [F_D_lookAt_b75, q.2.2.1 30 31 (by omega), z1, if_pos (nI_le (Nat.le_refl _) (by omega))]
  generalize hM0 : sL (sI (sI M 30 0 32 0) 30 0 31 (nI (fd t))) 30 0 39 (fb t) = M0
  have k0 : KX (fun t k => t = 30 ∧ (k = 31 ∨ k = 32)) (fun t k => t = 30 ∧ k = 39) M M0 := by
    rw [← hM0]
    exact kx_l (kx_i (kx_i KX.rf (by omega)) (by omega)) ⟨rfl, rfl⟩
  rw [a1]
  generalize hM1 : rg M0 49 0 0 12 (fun s => M0.1 43 0 (12 * k + s)) = M1
  have k1 : KX (fun t _ => t = 49) No2 M0 M1 := by
    rw [← hM1]
    exact kx_g KX.rf (fun c _ _ => rfl)
  have z1 : M1.1 30 0 31 = nI (fd t) := by
    rw [k1.1 30 31 (by omega), ← hM0, sL1, sI1, if_pos ⟨rfl, rfl, rfl⟩]
  have z2 : M1.1 30 0 32 = nI 0 := by
    rw [k1.1 30 32 (by omega), ← hM0, sL1, sI1, if_neg (by omega), sI1, if_pos ⟨rfl, rfl, rfl⟩]
    rfl
  obtain ⟨M2, b1, b2, b3, b4⟩ := a2 M1 z1 z2 (fun j hj => by
    rw [k1.1 44 _ (by omega), k0.1 44 _ (by omega)]
    exact t4 j hj)
  show ∃ M', F_D_lookAt_b75 fuel (nI k) 0 M1 = _ ∧ _
  rw [b1, a3]
  have kk : KX (fun t k => (49 ≤ t ∧ t ≤ 51) ∨ (t = 30 ∧ (k = 31 ∨ k = 32))) (fun t k => t = 30 ∧ k = 39) M M2 := ((k0.mono (fun t c z => by omega) (fun t c z => z)).tr (k1.mono (fun t c z => by omega) (fun t c z => z.elim))).tr (b4.mono (fun t c z => by omega) (fun t c z => z.elim))
  refine ⟨_, rfl, ⟨by omega, ?_, ?_, fun j hj => ?_, fun j hj => ?_, ?_, t6, fun s hs hq => ?_⟩, kx_g kk (fun c _ _ => by omega)⟩
  · rw [rg_out (by omega), b4.1 30 31 (by omega)]
    exact z1
  · rw [rg_out (by omega)]
    exact b3
  · have e := rg_in (M := M0) (t := 49) (lo := 0) (N := 12) (v := fun s => M0.1 43 0 (12 * k + s)) hj
    rw [Nat.zero_add] at e
    rw [rg_out (by omega), b4.1 49 j (by omega), ← hM1, e, k0.1 43 _ (by omega)]
    exact t3 j hj
  · rw [rg_out (by omega)]
    exact b2 j hj
  · show M2.2 30 0 39 = fb t
    rw [b4.2 30 39 id, k1.2 30 39 id, ← hM0, sL2, if_pos ⟨rfl, rfl, rfl⟩]
  · have e := rg_in (M := M2) (t := 51) (lo := 0) (N := 48) (v := fun c => M2.1 46 0 (48 * k + c)) hs
    rw [Nat.zero_add] at e
    rw [e, kk.1 46 _ (by omega)]
    exact t7 s hs hq
theorem t_lookD {k q : Nat} (hG : GP n sup fc P) (hk : k < pm P) (hak : ah A k = true) (h : Ie n sup fc P A 0 M) (hq : M.1 30 0 36 = nI q) : ∃ e A' M', F_D_lookAt (nI k) M = some M' ∧ Ie n sup fc P A' e M' ∧ M'.1 30 0 36 = nI (q + 1) := by
  have hO := hG.2.1
  have hpm := hO.1
  have hk8 : k < 48 := by omega
  obtain ⟨i1, i2, i3, i4, i5, i6⟩ := h
  unfold F_D_lookAt
  rw [lt_v, bnd_nI hk8 (by decide), lt_v, lt_v, bnd_nI hk8 (by decide), lt_v, bnd_nI hk8 (by decide), lt_v, nI_clamp (by omega), nar0, hq, nI_1]
  generalize hM0 : sI (sI M 30 0 36 (nI (q + 1))) 42 0 k 0 = M0
  have l0 : M0.1 30 0 36 = nI (q + 1) := by
    rw [← hM0, sI1, if_neg (by omega), sI1, if_pos ⟨rfl, rfl, rfl⟩]
  have hI0 : Ie n sup fc P (ah A, sg (ac A) k false, an A, af A) 0 M0 := by
    rw [← hM0]
    refine ⟨i1, ?_, TRe_cg i3 ?_ (fun t i c q => ?_), DMe_kx (S := fun t c => t = 42 ∨ (t = 30 ∧ c = 36)) (S2 := No2) i4 (kx_i (KX.sI (Or.inr ⟨rfl, rfl⟩)) (Or.inl rfl)) (fun t c q z => by omega), fun s hs => ?_, AOk_c i6 (fun z => by cases z)⟩
    · rw [sI1, if_neg (by omega), sI1, if_neg (by omega)]; exact i2
    · rw [sI1, if_neg (by omega), sI1, if_neg (by omega)]
    · rw [sI1, if_neg (by omega), sI1, if_neg (by omega)]
    · obtain ⟨a1, a2, a3, a4⟩ := i5 s hs
      refine ⟨?_, ?_, a3, fun q => Ds_cg (a4 q) (fun t c q1 q2 _ _ _ => ?_) rfl⟩
      · rw [sI1, if_neg (by omega), sI1, if_neg (by omega)]; exact a1
      · show (sI (sI M 30 0 36 _) 42 0 k 0).1 42 0 s = bI (sg (ac A) k false s)
        rw [sI1]
        by_cases z : s = k
        · rw [if_pos ⟨rfl, rfl, z⟩, z, sg_s]
          rfl
        · rw [if_neg (fun w => z w.2.2), sg_n z, sI1, if_neg (by omega)]
          exact a2
      · rw [sI1, if_neg (by omega), sI1, if_neg (by omega)]
  have hs : Ds M0 k (af A k) := (hI0.2.2.2.2.1 k hk8).2.2.2 hak
  have e45 : (sI M0 30 0 32 0).1 45 0 k = nI (fd (af A k)) := by
    rw [sI1, if_neg (by omega)]
    exact hs.2.1
  have e47 : (sI (sI M0 30 0 32 0) 30 0 31 (nI (fd (af A k)))).2 47 0 k = fb (af A k) := hs.2.2.2.2.1
  rw [e45, e47]
  obtain ⟨M1, m1, m2, m3⟩ := e_load hk8 hs
  rw [m1]
  obtain ⟨tk, hw⟩ := (i6 k hk8).1 hak
  have hI1 : Ie n sup fc P (ah A, sg (ac A) k false, an A, af A) 0 M1 := ⟨by decide, (m3.1 30 34 (by omega)).trans hI0.2.1, hI0.2.2.kx m3 (fun t c q z => by omega) (fun t c q z => by omega)⟩
  obtain ⟨e, A', M', r1, r2, r3, r4⟩ := t_handD hG hk tk hw fuel 0 0 _ M1 (Nat.lt_of_le_of_lt hO.2.1 (fuel_pos (by decide))) (Nat.zero_le _) hI1 hak m2
  refine ⟨e, A', M', r1, r2, ?_⟩
  rw [r4, m3.1 30 36 (by omega), l0]
/-- the end of the reference's verify(): what is kept of types and THE METHOD -/
theorem t_cntD (hO : MOk P) : ∀ m j M, pm P < j + m → j ≤ pm P → TRe n sup fc M → DMe P M → ∃ r M', F_D_verify_b165 m (nI j) M = some (r, M') ∧ TRe n sup fc M' ∧ DMe P M' := by
  have hpm := hO.1
  intro m
  induction m with
  | zero =>
    intro j M h1 h2
    omega
  | succ m ih =>
    intro j M h1 h2 hR hD
    rw [F_D_verify_b165, hD.1]
    by_cases c : j = pm P
    · rw [c, if_pos (nI_le (Nat.le_refl _) (by omega))]
      exact ⟨_, M, rfl, hR, hD⟩
    · have hj : j < 48 := by omega
      have on : ∀ {M2 : Mm}, TRe n sup fc M2 → DMe P M2 → ∃ r M', F_D_verify_b220 (F_D_verify_b165 m) (nI j) M2 = some (r, M') ∧ TRe n sup fc M' ∧ DMe P M' := fun {M2} q1 q2 => by
        unfold F_D_verify_b220
        rw [lt_v, nI_1]
        exact ih (j + 1) M2 (by omega) (by omega) q1 q2
      rw [if_neg (nI_ge (by omega) (by omega)), bnd_nI hj (by decide)]
      split
      · exact on hR hD
      · rw [lt_v, bnd_nI hj (by decide)]
        have kx : ∀ v : Int32, KX (fun t c => t = 30 ∧ c = 38) (fun t c => t = 30 ∧ c = 41) M (sI M 30 0 38 v) := fun v => KX.sI ⟨rfl, rfl⟩
        split
        · rw [bnd_nI hj (by decide), lt_v]
          refine on (TRe_kx hR (kx_l (kx _) ⟨rfl, rfl⟩) (fun t c q z => by omega)) (DMe_kx hD (kx_l (kx _) ⟨rfl, rfl⟩) (fun t c q z => by omega))
        · exact on (TRe_kx hR (kx _) (fun t c q z => by omega)) (DMe_kx hD (kx _) (fun t c q z => by omega))
theorem t_136 (hO : MOk P) (hR : TRe n sup fc M) (hD : DMe P M) : ∃ r M', F_D_verify_b136 M = some (r, M') ∧ TRe n sup fc M' ∧ DMe P M' := by
  have hpm := hO.1
  have a : ∀ M : Mm, TRe n sup fc M → DMe P M → ∃ r M', F_D_verify_b153 M = some (r, M') ∧ TRe n sup fc M' ∧ DMe P M' := fun M hR hD => by
    unfold F_D_verify_b153
    rw [lt_v, lt_v]
    have kx : KX (fun t c => t = 30 ∧ c = 38) (fun t c => t = 30 ∧ c = 41) M (sL (sI M 30 0 38 0) 30 0 41 0) := kx_l (KX.sI ⟨rfl, rfl⟩) ⟨rfl, rfl⟩
    exact t_cntD hO fuel 0 _ (Nat.lt_of_le_of_lt hpm (fuel_pos (by decide))) (Nat.zero_le _) (TRe_kx hR kx (fun t c q z => by omega)) (DMe_kx hD kx (fun t c q z => by omega))
  unfold F_D_verify_b136
  split
  · rw [lt_v]
    have kx : ∀ v : Int32, KX (fun t c => t = 30 ∧ c = 37) No2 M (sI M 30 0 37 v) := fun v => KX.sI ⟨rfl, rfl⟩
    exact a _ (TRe_kx hR (kx _) (fun t c q z => by omega)) (DMe_kx hD (kx _) (fun t c q z => by omega))
  · exact a M hR hD
theorem t_findD {K : Mm → Option (Int32 × Mm)} (hO : MOk P) (h : Idd n sup fc P A M) : ∀ m j, pm P < j + m → j ≤ pm P → ∃ r, F_D_verify_b74 K m (nI j) M = F_D_verify_b97 K (nI r) M ∧ r ≤ pm P ∧ (r < pm P → ah A r = true) := by
  have hpm := hO.1
  intro m
  induction m with
  | zero =>
    intro j h1 h2
    omega
  | succ m ih =>
    intro j h1 h2
    rw [F_D_verify_b74, h.2.1.1]
    by_cases c : j = pm P
    · rw [c, if_pos (nI_le (Nat.le_refl _) (by omega))]
      exact ⟨pm P, rfl, Nat.le_refl _, fun z => absurd z (Nat.lt_irrefl _)⟩
    · have hj : j < 48 := by omega
      obtain ⟨-, b2, -, -⟩ := h.2.2.1 j hj
      rw [if_neg (nI_ge (by omega) (by omega)), bnd_nI hj (by decide), nI_clamp (by omega), b2]
      by_cases c2 : ac A j = true
      · rw [if_neg (fun z => by rw [bI0.mp z] at c2; cases c2)]
        exact ⟨j, rfl, h2, fun _ => (h.2.2.2 j hj).2.1 c2⟩
      · rw [if_pos (bI0.mpr (by cases q : ac A j <;> simp_all)), lt_v, nI_1]
        exact ih (j + 1) (by omega) (by omega)
theorem t_65 (hG : GP n sup fc P) : ∀ m e q A M, Ie n sup fc P A e M → M.1 30 0 36 = nI q → q ≤ 2999 → 3001 ≤ q + m ∨ (¬ e = 0 ∧ 1 ≤ m) → ∃ r M', F_D_verify_b65 m M = some (r, M') ∧ TRe n sup fc M' ∧ DMe P M' := by
  have hO := hG.2.1
  have hpm := hO.1
  intro m
  induction m with
  | zero =>
    intro e q A M h1 h2 h3 h4
    omega
  | succ m ih =>
    intro e q A M hI hq q1 q2
    have fin := t_136 hO hI.2.2.1 hI.2.2.2.1
    rw [F_D_verify_b65, hI.2.1]
    by_cases c : e = 0
    · subst c
      rw [if_pos (show nI 0 = 0 from rfl)]
      obtain ⟨r, r1, r2, r3⟩ := t_findD (K := F_D_verify_b65 m) hO hI.2.2 fuel 0 (Nat.lt_of_le_of_lt hpm (fuel_pos (by decide))) (Nat.zero_le _)
      have r1' : F_D_verify_b74 (F_D_verify_b65 m) fuel 0 M = F_D_verify_b97 (F_D_verify_b65 m) (nI r) M := r1
      rw [r1']
      unfold F_D_verify_b97 F_D_verify_b133
      rw [hI.2.2.2.1.1]
      by_cases c1 : r = pm P
      · rw [if_pos (by rw [c1])]
        exact fin
      · rw [if_neg (nI_ne (by omega) (by omega) c1), hq]
        by_cases c2 : q = 2999
        · rw [if_pos (by rw [c2]; rfl)]
          obtain ⟨e', M', f1, f2, f3, f4⟩ := t_fail (v := 9) (w := nI r) hI (by decide) (by decide)
          rw [show F_D_fail 9 (nI r) M = some M' from f1, bv_some]
          exact ih e' q A M' f2 ((f4.1 30 36 (by omega)).trans hq) q1 (Or.inr ⟨f3, by omega⟩)
        · rw [if_neg (show ¬ nI q = (2999 : Int32) from neN (k := 2999) rfl (by omega) (by decide) c2)]
          obtain ⟨e', A', M', l1, l2, l3⟩ := t_lookD hG (show r < pm P by omega) (r3 (by omega)) hI hq
          rw [l1, bv_some]
          refine ih e' (q + 1) A' M' l2 l3 (by omega) (Or.inl (by omega))
    · rw [if_neg (fun z => c ((nI9 hI.1).mp z))]
      exact fin
theorem t_begins (hG : GP n sup fc P) (h : Ie n sup fc P A 0 M) : ∃ e A' M', F_D_begins M = some M' ∧ Ie n sup fc P A' e M' ∧ M'.1 30 0 36 = M.1 30 0 36 := by
  have hO := hG.2.1
  have hL := hO.2.2.2.1
  have h6 := hO.2.2.1
  have hr : (argL P (pg P)).1 ≤ 12 := by have := hG.2.2.2.2.2.1; omega
  have a1 : F_D_begins_b4 fuel 0 0 M = (fun M => F_D_begins_b25 fuel 0 0 M) (rg M 52 0 0 12 (fun _ => 0)) := by
    refine lpR0 (L := fun n i M => F_D_begins_b4 n 0 i M) (Q := fun _ => True) (fin := fun M => F_D_begins_b25 fuel 0 0 M) (fun M c x q => trivial) (fun n s M hs q => ?_) (fun n M q => ?_) fuel M (by show 12 < 100000; omega) trivial
    · show F_D_begins_b4 (n + 1) 0 (nI s) M = F_D_begins_b4 n 0 (nI (s + 1)) _
      rw [F_D_begins_b4, if_neg (ge12 hs), bnd_nI hs (by decide), lt_v, lt_v, nI_clamp (by omega), nI_1, Nat.zero_add]
    · show F_D_begins_b4 (n + 1) 0 (nI 12) M = _
      rw [F_D_begins_b4, if_pos le12]
  have a2 : ∀ m k M1, pg P < k + m → k ≤ pg P → KX (fun t _ => t = 52) No2 M M1 → (∀ j, j < 12 → M1.1 52 0 j = (argL P k).2 j) → ∃ M', F_D_begins_b25 m (nI (argL P k).1) (nI k) M1 = bv (F_D_meet 0 M') (fun M7 => some M7) ∧ Dt M' (st0 P) ∧ KX Sbk Sco2 M M' := by
    intro m
    induction m with
    | zero =>
      intro k M1 q1 q2
      omega
    | succ m ih =>
      intro k M1 q1 q2 k1 k3
      have hD : DMe P M1 := DMe_kx h.2.2.2.1 k1 (fun t c q z => by omega)
      rw [F_D_begins_b25, hD.2.2.1]
      by_cases c : k = pg P
      · subst c
        rw [if_pos (nI_le (Nat.le_refl _) (by omega)), lt_v, lt_v]
        refine ⟨_, rfl, ⟨by show 0 ≤ 12; omega, ?_, fun j hj => ?_, fun j hj => absurd hj (Nat.not_lt_zero j), ?_, fun b hb => bq_0 b, fun b hb hq => ?_⟩, kx_l (kx_i (k1.mono (fun t c z => by omega) (fun t c z => z.elim)) (by omega)) ⟨rfl, rfl⟩⟩
        · rw [sL1, sI1, if_pos ⟨rfl, rfl, rfl⟩]
          rfl
        · rw [sL1, sI1, if_neg (by omega)]
          exact k3 j hj
        · rw [sL2, if_pos ⟨rfl, rfl, rfl⟩]
        · have hq' : bq 0 b = true := hq
          rw [bq_0] at hq'
          cases hq'
      · have m1 := argL_m P (show k + 1 ≤ pg P by omega)
        have m2 : (argL P (k + 1)).1 = (argL P k).1 + wid (P.2 7 k) := rfl
        have m3 := wid_1 (P.2 7 k)
        have e1 : M1.1 40 0 k = P.2 7 k := hD.2.2.2.2.2.2.2.2 k (by omega)
        rw [if_neg (nI_ge (by omega) (by omega)), bnd_nI (show k < 6 by omega) (by decide), bnd_nI (show (argL P k).1 < 12 by omega) (by decide), lt_v, bnd_nI (show k < 6 by omega) (by decide), lt_v, nI_clamp (by omega), nI_clamp (by omega), e1]
        have e2 : (sI M1 52 0 (argL P k).1 (P.2 7 k)).1 40 0 k = P.2 7 k := by
          rw [sI1, if_neg (by omega)]
          exact e1
        rw [e2, e_wideD]
        unfold F_D_begins_b63
        have key : ∀ w : Nat, w = wid (P.2 7 k) → ∃ M', (lt (nI (argL P k).1 + nI w : Int32) fun n1 => lt (nI k + 1) fun n2 => F_D_begins_b25 m n1 n2 (sI M1 52 0 (argL P k).1 (P.2 7 k))) = bv (F_D_meet 0 M') (fun M7 => some M7) ∧ Dt M' (st0 P) ∧ KX Sbk Sco2 M M' := by
          intro w hw
          rw [lt_v, lt_v, nI_add, nI_1, hw, ← m2]
          refine ih (k + 1) _ (by omega) (by omega) (kx_i k1 rfl) (fun j hj => ?_)
          rw [sI1]
          show _ = upd (argL P k).2 (argL P k).1 (P.2 7 k) j
          by_cases q : j = (argL P k).1
          · rw [q, if_pos ⟨rfl, rfl, rfl⟩, pk_us]
          · rw [if_neg (fun z => q z.2.2), pk_un q]
            exact k3 j hj
        by_cases c2 : P.2 7 k = 3 ∨ P.2 7 k = 4
        · rw [if_pos c2, if_neg (by decide)]
          exact key 2 (wid2.mpr c2).symm
        · rw [if_neg c2, if_pos rfl]
          have : ¬ wid (P.2 7 k) = 2 := fun z => c2 (wid2.mp z)
          exact key 1 (by omega)
  unfold F_D_begins
  rw [a1]
  obtain ⟨M1, b1, b2, b3⟩ := a2 fuel 0 (rg M 52 0 0 12 (fun _ => 0)) (Nat.lt_of_le_of_lt h6 (fuel_pos (by decide))) (Nat.zero_le _) (kx_g KX.rf (fun c _ _ => rfl)) (fun j hj => by
    have e := rg_in (M := M) (t := 52) (lo := 0) (N := 12) (v := fun _ => (0 : Int32)) hj
    rw [Nat.zero_add] at e
    rw [e]
    rfl)
  show ∃ e A' M', F_D_begins_b25 fuel 0 0 (rg M 52 0 0 12 (fun _ => 0)) = some M' ∧ _
  rw [show F_D_begins_b25 fuel 0 0 (rg M 52 0 0 12 (fun _ => 0)) = _ from b1]
  obtain ⟨t1, t2⟩ := TK_st0 hO
  have hI1 : Ie n sup fc P A 0 M1 := ⟨h.1, (b3.1 30 34 (by omega)).trans h.2.1, h.2.2.kx b3 (fun t c q z => by omega) (fun t c q z => by omega)⟩
  obtain ⟨e', A', M', g1, g2, -, g4⟩ := t_meetD (g := 0) hG hI1 b2 t1 (by omega) (by decide)
  rw [show F_D_meet 0 M1 = some M' from g1, bv_some]
  refine ⟨e', A', M', rfl, g2, ?_⟩
  rw [g4.1 30 36 (by omega), b3.1 30 36 (by omega)]
end IdF
