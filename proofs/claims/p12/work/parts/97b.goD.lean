/-! MEET and GO of the reference, and what lies on the way. -/
theorem Dt_cg {M M' : Mm} {f : Fr} (h : Dt M f) (e1 : ∀ t k, (t = 52 ∨ t = 53 ∨ t = 54 ∨ (t = 30 ∧ k = 33)) → M'.1 t 0 k = M.1 t 0 k) (e2 : M'.2 30 0 40 = M.2 30 0 40) : Dt M' f := by
  obtain ⟨h1, h2, h3, h4, h5, h6, h7⟩ := h
  refine ⟨h1, ?_, fun j hj => ?_, fun j hj => ?_, ?_, h6, fun b hb hq => ?_⟩
  · rw [e1 30 33 (by omega)]
    exact h2
  · rw [e1 52 j (by omega)]
    exact h3 j hj
  · rw [e1 53 j (by omega)]
    exact h4 j hj
  · rw [e2]
    exact h5
  · rw [e1 54 b (by omega)]
    exact h7 b hb hq
theorem e_fail {M : Mm} {v w : Int32} (h0 : M.1 30 0 34 = 0) : F_D_fail v w M = some (sI (sI M 30 0 34 v) 30 0 35 w) := by
  unfold F_D_fail
  rw [h0, if_pos (by decide)]
  rfl
theorem e_fail1 {M : Mm} {v w : Int32} (h0 : ¬ M.1 30 0 34 ≤ 0) : F_D_fail v w M = some M := by
  unfold F_D_fail
  rw [if_neg h0]
theorem DA_kx {A : AS} {M M' : Mm} (h : DA A M) (e1 : ∀ t k, 41 ≤ t → t ≤ 46 → M'.1 t 0 k = M.1 t 0 k) (e2 : ∀ t k, t = 47 ∨ t = 48 → M'.2 t 0 k = M.2 t 0 k) : DA A M' := by
  intro k hk
  obtain ⟨a1, a2, a3, a4⟩ := h k hk
  refine ⟨?_, ?_, ?_, fun q => Ds_cg (a4 q) (fun t j q1 q2 _ _ _ => e1 t j (by omega) q2) (e2 _ _ (by omega))⟩
  · rw [e1 _ _ (by omega) (by omega)]
    exact a1
  · rw [e1 _ _ (by omega) (by omega)]
    exact a2
  · rw [e2 _ _ (by omega)]
    exact a3
theorem e_meetD {n : Nat} {sup : Nat → Nat} {fc : Nat → Int32} {A : AS} {g : Nat} {f : Fr} {M : Mm} (hT : TOk n sup fc) (hR : TRe n sup fc M) (hA : DA A M) (ht : Dt M f) (hg : g < 48) (h0 : M.1 30 0 34 = 0) : ∃ M', F_D_meet (nI g) M = some M' ∧ DA (mtA n sup fc A g f) M' ∧ M'.1 30 0 34 = nI (mtE A g f) ∧ (mtE A g f = 4 → M'.1 30 0 35 = nI g) ∧ KX Smt Smt2 M M' := by
  obtain ⟨d1, d2, d3, d4⟩ := hA g hg
  have ht' := ht
  obtain ⟨h1, h2, h3, h4, h5, h6, h7⟩ := ht
  unfold F_D_meet mtA mtE
  rw [bnd_nI hg (by decide), nI_clamp (by omega), d1]
  by_cases c : ah A g = true
  · rw [if_neg (fun z => by rw [bI0.mp z] at c; cases c), bnd_nI hg (by decide), if_pos c, if_pos c]
    have hs := d4 c
    obtain ⟨s1, s2, s3, s4, s5, s6, s7⟩ := hs
    rw [s2, h2]
    by_cases c2 : fd (af A g) = fd f
    · rw [if_pos (by rw [c2]), bnd_nI hg (by decide), bnd_nI hg (by decide), if_pos c2, if_pos c2, s5, h5]
      have key : ∀ w, fg w (ch1 (af A g) f) → ∃ M', F_D_meet_b185 (nI g) w M = some M' ∧ DA (ah A, (if pB (chg n sup fc (af A g) f) = true then sg (ac A) g true else ac A), an A, sg (af A) g (jnF n sup fc (af A g) f)) M' ∧ M'.1 30 0 34 = nI 0 ∧ (0 = 4 → M'.1 30 0 35 = nI g) ∧ KX Smt Smt2 M M' := by
        intro w hw
        unfold F_D_meet_b185
        rw [bnd_nI hg (by decide), bnd_nI hg (by decide), lt_v, nI_clamp (by omega), s5, h5]
        obtain ⟨w', v46, q1, q2, q3⟩ := e_mjoin (M := sL M 47 0 g (fb (af A g) &&& fb f)) (h := af A g) (f := f) hT (TRe_cg hR rfl (fun _ _ _ _ => rfl)) hg (Dt_cg ht' (fun _ _ _ => rfl) (by rw [sL2, if_neg (by omega)])) c2 s3 (fun j hj => s4 j (by omega)) (by rw [sL2, if_pos ⟨rfl, rfl, rfl⟩]) (fun b hb q => by
          rw [bq_and, Bool.and_eq_true] at q
          exact s7 b hb q.1) hw
        have q1' : fg w' (chg n sup fc (af A g) f) := by
          refine q1.cg ?_
          unfold chg
          rw [c2]
          constructor
          · rintro (((z | z) | z) | z)
            · exact Or.inl (Or.inl (Or.inl z))
            · exact Or.inl (Or.inr z)
            · exact Or.inr z
            · exact Or.inl (Or.inl (Or.inr z))
          · rintro (((z | z) | z) | z)
            · exact Or.inl (Or.inl (Or.inl z))
            · exact Or.inr z
            · exact Or.inl (Or.inl (Or.inr z))
            · exact Or.inl (Or.inr z)
        rw [q3]
        have kx : KX Smt Smt2 M (rg (rg (rg (sL M 47 0 g (fb (af A g) &&& fb f)) 43 (12 * g) 0 12 (fun j => jn n sup fc (fl (af A g) j) (fl f j))) 44 (12 * g) 0 (fd f) (fun j => jn n sup fc (fs (af A g) j) (fs f j))) 46 (48 * g) 0 48 v46) := kx_g (kx_g (kx_g (kx_l KX.rf rfl) (fun k _ _ => by omega)) (fun k _ _ => by omega)) (fun k _ _ => by omega)
        have dag : ∀ (M' : Mm) (z : Nat → Bool), (∀ t k, ¬ t = 42 → M'.1 t 0 k = (rg (rg (rg (sL M 47 0 g (fb (af A g) &&& fb f)) 43 (12 * g) 0 12 (fun j => jn n sup fc (fl (af A g) j) (fl f j))) 44 (12 * g) 0 (fd f) (fun j => jn n sup fc (fs (af A g) j) (fs f j))) 46 (48 * g) 0 48 v46).1 t 0 k) → M'.2 = (sL M 47 0 g (fb (af A g) &&& fb f)).2 → (∀ k, k < 48 → M'.1 42 0 k = bI (z k)) → DA (ah A, z, an A, sg (af A) g (jnF n sup fc (af A g) f)) M' := by
          intro M' z e1 e2 e3 k hk
          obtain ⟨a1, a2, a3, a4⟩ := hA k hk
          refine ⟨?_, e3 k hk, ?_, fun q => ?_⟩
          · rw [e1 _ _ (by omega), rg_out (by omega), rg_out (by omega), rg_out (by omega)]
            exact a1
          · rw [e2, sL2, if_neg (by omega)]
            exact a3
          · show Ds M' k (sg (af A) g (jnF n sup fc (af A g) f) k)
            by_cases qk : k = g
            · subst qk
              rw [sg_s]
              refine ⟨s1, ?_, fun j hj => ?_, fun j hj => ?_, ?_, fun b hb => ?_, fun b hb hq => ?_⟩
              · rw [e1 _ _ (by omega), rg_out (by omega), rg_out (by omega), rg_out (by omega)]
                exact s2
              · rw [e1 _ _ (by omega), rg_out (by omega), rg_out (by omega), rg_in hj]
              · have hj' : j < fd (af A k) := hj
                rw [e1 _ _ (by omega), rg_out (by omega), rg_in (by omega)]
              · rw [e2, sL2, if_pos ⟨rfl, rfl, rfl⟩]
              · show bq (fb (af A k) &&& fb f) b = false
                rw [bq_and, s6 b hb]
                rfl
              · rw [e1 _ _ (by omega), rg_in hb]
                exact q2 b hb hq
            · rw [sg_n qk]
              refine Ds_cg (a4 q) (fun t j y1 y2 y3 y4 y5 => ?_) ?_
              · rw [e1 _ _ (by omega), rg_out (by omega), rg_out (by omega), rg_out (by omega)]
                rfl
              · rw [e2, sL2, if_neg (by omega)]
        have m42 : ∀ k, k < 48 → (rg (rg (rg (sL M 47 0 g (fb (af A g) &&& fb f)) 43 (12 * g) 0 12 (fun j => jn n sup fc (fl (af A g) j) (fl f j))) 44 (12 * g) 0 (fd f) (fun j => jn n sup fc (fs (af A g) j) (fs f j))) 46 (48 * g) 0 48 v46).1 42 0 k = bI (ac A k) := fun k hk => by
          rw [rg_out (by omega), rg_out (by omega), rg_out (by omega)]
          exact (hA k hk).2.1
        have m34 : (rg (rg (rg (sL M 47 0 g (fb (af A g) &&& fb f)) 43 (12 * g) 0 12 (fun j => jn n sup fc (fl (af A g) j) (fl f j))) 44 (12 * g) 0 (fd f) (fun j => jn n sup fc (fs (af A g) j) (fs f j))) 46 (48 * g) 0 48 v46).1 30 0 34 = nI 0 := by
          rw [rg_out (by omega), rg_out (by omega), rg_out (by omega)]
          exact h0
        by_cases c3 : chg n sup fc (af A g) f
        · rw [if_neg (fun z => (q1'.z.mp z) c3), if_pos (pBt.mpr c3)]
          refine ⟨_, rfl, dag _ _ (fun t k q => ?_) rfl (fun k hk => ?_), ?_, fun z => absurd z (by decide), kx.tr (KX.sI (by omega))⟩
          · rw [sI1, if_neg (by omega)]
          · rw [sI1]
            by_cases q : k = g
            · rw [if_pos ⟨rfl, rfl, q⟩, q, sg_s]
              rfl
            · rw [if_neg (fun z => q z.2.2), sg_n q]
              exact m42 k hk
          · rw [sI1, if_neg (by omega)]
            exact m34
        · rw [if_pos (q1'.z.mpr c3), if_neg (fun z => c3 (pBt.mp z))]
          exact ⟨_, rfl, dag _ _ (fun t k q => rfl) rfl m42, m34, fun z => absurd z (by decide), kx⟩
      by_cases c4 : fb (af A g) &&& fb f = fb (af A g)
      · rw [if_pos (cmp0.mpr c4)]
        exact key 0 (fg.n (fun z => z c4))
      · rw [if_neg (fun z => c4 (cmp0.mp z))]
        exact key 1 (fg.y c4)
    · rw [if_neg (fun z => c2 ((nI_eq (by omega) (by omega)).mp z)), e_fail h0, bv_some, if_neg c2, if_neg c2]
      refine ⟨_, rfl, DA_kx hA (fun t k q1 q2 => ?_) (fun t k q => rfl), ?_, fun _ => ?_, kx_i (kx_i KX.rf (by omega)) (by omega)⟩
      · rw [sI1, if_neg (by omega), sI1, if_neg (by omega)]
      · rw [sI1, if_neg (by omega), sI1, if_pos ⟨rfl, rfl, rfl⟩]
        rfl
      · rw [sI1, if_pos ⟨rfl, rfl, rfl⟩]
  · have c' : ah A g = false := by
      cases q : ah A g
      · rfl
      · exact absurd q c
    rw [if_pos (bI0.mpr c'), bnd_nI hg (by decide), lt_v, bnd_nI hg (by decide), lt_v, bnd_nI hg (by decide), lt_v, bnd_nI hg (by decide), lt_v, nar1, if_neg c, if_neg c]
    have r33 : (sI (sI M 41 0 g 1) 42 0 g 1).1 30 0 33 = nI (fd f) := by
      rw [sI1, if_neg (by omega), sI1, if_neg (by omega)]
      exact h2
    have r40 : (sI (sI (sI M 41 0 g 1) 42 0 g 1) 45 0 g (nI (fd f))).2 30 0 40 = fb f := h5
    rw [r33, r40]
    have ht4 : Dt (sL (sI (sI (sI M 41 0 g 1) 42 0 g 1) 45 0 g (nI (fd f))) 47 0 g (fb f)) f := Dt_cg ht' (fun t k q => by
      rw [sL1, sI1, if_neg (by omega), sI1, if_neg (by omega), sI1, if_neg (by omega)]) (by rw [sL2, if_neg (by omega)]; rfl)
    rw [e_mcopy hg ht4]
    obtain ⟨t1, t2, t3, t4, t5, t6, t7⟩ := ht4
    refine ⟨_, rfl, fun k hk => ?_, ?_, fun z => absurd z (by decide), ?_⟩
    · obtain ⟨a1, a2, a3, a4⟩ := hA k hk
      refine ⟨?_, ?_, ?_, fun q => ?_⟩
      · rw [rg_out (by omega), rg_out (by omega), rg_out (by omega), sL1, sI1, if_neg (by omega), sI1, if_neg (by omega), sI1]
        show _ = bI (sg (ah A) g true k)
        by_cases q : k = g
        · rw [if_pos ⟨rfl, rfl, q⟩, q, sg_s]
          rfl
        · rw [if_neg (fun z => q z.2.2), sg_n q]
          exact a1
      · rw [rg_out (by omega), rg_out (by omega), rg_out (by omega), sL1, sI1, if_neg (by omega), sI1]
        show _ = bI (sg (ac A) g true k)
        by_cases q : k = g
        · rw [if_pos ⟨rfl, rfl, q⟩, q, sg_s]
          rfl
        · rw [if_neg (fun z => q z.2.2), sg_n q, sI1, if_neg (by omega)]
          exact a2
      · rw [rg2, rg2, rg2, sL2, if_neg (by omega)]
        exact a3
      · show Ds _ k (sg (af A) g f k)
        by_cases qk : k = g
        · subst qk
          rw [sg_s]
          refine ⟨h1, ?_, fun j hj => ?_, fun j hj => ?_, ?_, h6, fun b hb hq => ?_⟩
          · rw [rg_out (by omega), rg_out (by omega), rg_out (by omega), sL1, sI1, if_pos ⟨rfl, rfl, rfl⟩]
          · rw [rg_out (by omega), rg_out (by omega), rg_in hj]
            exact t3 j hj
          · rw [rg_out (by omega), rg_in hj]
            exact t4 j hj
          · rw [rg2, rg2, rg2, sL2, if_pos ⟨rfl, rfl, rfl⟩]
          · rw [rg_in hb]
            exact t7 b hb hq
        · rw [sg_n qk]
          have q' : ah A k = true := by
            have : sg (ah A) g true k = true := q
            rwa [sg_n qk] at this
          refine Ds_cg (a4 q') (fun t j y1 y2 y3 y4 y5 => ?_) ?_
          · rw [rg_out (by omega), rg_out (by omega), rg_out (by omega), sL1, sI1, if_neg (by omega), sI1, if_neg (by omega), sI1, if_neg (by omega)]
          · rw [rg2, rg2, rg2, sL2, if_neg (by omega)]
            rfl
    · rw [rg_out (by omega), rg_out (by omega), rg_out (by omega), sL1, sI1, if_neg (by omega), sI1, if_neg (by omega), sI1, if_neg (by omega)]
      exact h0
    · exact kx_g (kx_g (kx_g (kx_l (kx_i (kx_i (kx_i KX.rf (by omega)) (by omega)) (by omega)) rfl) (fun k _ _ => by omega)) (fun k _ _ => by omega)) (fun k _ _ => by omega)
/-- a TYPE of a STATE is UNBUILT in the reference's eyes just where it is in the class's -/
theorem rawD {v : Int32} {M : Mm} (h : tok v) : P_D_in v 1000 1099 M = 0 ↔ ¬ raw v := by
  obtain ⟨j, rfl, hj⟩ := h
  rw [inD]
  unfold raw
  have e1 : nI j < 1000 ↔ j < 1000 := nI_ltI (b := 1000) (by omega) (by decide)
  have e2 : (1099 : Int32) < nI j ↔ 1099 < j := nI_ltI (a := 1099) (by decide) (by omega)
  have e3 : (1048 : Int32) ≤ nI j ↔ 1048 ≤ j := nI_leI (a := 1048) (by decide) (by omega)
  simp only [e1, e2, e3]
  by_cases c1 : j < 1000
  · rw [if_pos c1]
    exact ⟨fun _ z => z.1 c1, fun _ => rfl⟩
  · rw [if_neg c1]
    by_cases c2 : 1099 < j
    · rw [if_pos c2]
      exact ⟨fun _ z => z.2 (by omega), fun _ => rfl⟩
    · rw [if_neg c2]
      exact ⟨fun z => absurd z (by decide), fun z => absurd ⟨c1, by omega⟩ z⟩
theorem e_rawD2 {f : Fr} {M : Mm} (ht : Dt M f) (tk : ∀ j, j < fd f → tok (fs f j)) : ∀ n j, fd f < j + n → j ≤ fd f → (∀ k, k < j → ¬ raw (fs f k)) → ∃ r, F_D_hasRaw_b36 n 1 (nI j) M = some (r, M) ∧ fg r (∃ k, k < fd f ∧ raw (fs f k)) := by
  obtain ⟨h1, h2, h3, h4, h5, h6, h7⟩ := ht
  intro n
  induction n with
  | zero =>
    intro j q1 q2
    omega
  | succ n ih =>
    intro j q1 q2 q3
    rw [F_D_hasRaw_b36, h2]
    by_cases c : j = fd f
    · subst c
      rw [if_pos (nI_le (Nat.le_refl _) (by omega))]
      exact ⟨0, rfl, fg.n (fun ⟨k, z1, z2⟩ => q3 k z1 z2)⟩
    · rw [if_neg (nI_ge (by omega) (by omega)), if_neg (by decide), bnd_nI (by omega) (by decide), lt_v, nI_clamp (by omega), h4 j (by omega)]
      by_cases c2 : raw (fs f j)
      · rw [if_neg (fun z => (rawD (tk j (by omega))).mp z c2)]
        exact ⟨1, rfl, fg.y ⟨j, by omega, c2⟩⟩
      · rw [if_pos ((rawD (tk j (by omega))).mpr c2), lt_v, nI_1]
        refine ih (j + 1) (by omega) (by omega) (fun k hk => ?_)
        by_cases q : k = j
        · rw [q]
          exact c2
        · exact q3 k (by omega)
theorem e_rawD1 {f : Fr} {M : Mm} {w : Int32} {p : Prop} (ht : Dt M f) (tk : ∀ j, j < 12 → tok (fl f j)) (fin : ∃ r, F_D_hasRaw_b36 fuel w 0 M = some (r, M) ∧ fg r p) : ∀ n j, 12 < j + n → j ≤ 12 → (∀ k, k < j → ¬ raw (fl f k)) → ∃ r, F_D_hasRaw_b2 n w (nI j) M = some (r, M) ∧ fg r (p ∨ ∃ k, k < 12 ∧ raw (fl f k)) := by
  obtain ⟨h1, h2, h3, h4, h5, h6, h7⟩ := ht
  intro n
  induction n with
  | zero =>
    intro j q1 q2
    omega
  | succ n ih =>
    intro j q1 q2 q3
    rw [F_D_hasRaw_b2]
    by_cases c : j = 12
    · subst c
      rw [if_pos le12]
      obtain ⟨r, e1, e2⟩ := fin
      exact ⟨r, e1, e2.cg ⟨Or.inl, fun z => z.elim id (fun ⟨k, z1, z2⟩ => absurd z2 (q3 k z1))⟩⟩
    · rw [if_neg (ge12 (by omega)), bnd_nI (by omega) (by decide), lt_v, nI_clamp (by omega), h3 j (by omega)]
      by_cases c2 : raw (fl f j)
      · rw [if_neg (fun z => (rawD (tk j (by omega))).mp z c2)]
        exact ⟨1, rfl, fg.y (Or.inr ⟨j, by omega, c2⟩)⟩
      · rw [if_pos ((rawD (tk j (by omega))).mpr c2), lt_v, nI_1]
        refine ih (j + 1) (by omega) (by omega) (fun k hk => ?_)
        by_cases q : k = j
        · rw [q]
          exact c2
        · exact q3 k (by omega)
theorem e_hasRawD {f : Fr} {M : Mm} (ht : Dt M f) (tk : ∀ j, j < 12 → tok (fl f j)) (tk2 : ∀ j, j < fd f → tok (fs f j)) : ∃ r, F_D_hasRaw 1 M = some (r, M) ∧ fg r (hraw f) := by
  unfold F_D_hasRaw
  exact e_rawD1 ht tk (e_rawD2 ht tk2 fuel 0 (by have := ht.1; show fd f < 0 + 100000; omega) (by omega) (fun k hk => absurd hk (Nat.not_lt_zero k))) fuel 0 (by show 12 < 0 + 100000; omega) (by omega) (fun k hk => absurd hk (Nat.not_lt_zero k))
theorem e_hasRawD0 {f : Fr} {M : Mm} (ht : Dt M f) (tk : ∀ j, j < 12 → tok (fl f j)) : ∃ r, F_D_hasRaw 0 M = some (r, M) ∧ fg r (∃ k, k < 12 ∧ raw (fl f k)) := by
  unfold F_D_hasRaw
  have e : F_D_hasRaw_b36 fuel 0 0 M = some (0, M) := by
    show F_D_hasRaw_b36 (99999 + 1) 0 0 M = some (0, M)
    rw [F_D_hasRaw_b36, if_pos rfl]
    split <;> rfl
  obtain ⟨r, e1, e2⟩ := e_rawD1 (p := False) ht tk ⟨0, e, fg.n id⟩ fuel 0 (by show 12 < 0 + 100000; omega) (by omega) (fun k hk => absurd hk (Nat.not_lt_zero k))
  exact ⟨r, e1, e2.cg ⟨fun z => z.elim False.elim id, Or.inr⟩⟩
theorem nI_e0 {e : Nat} (h : e ≤ 9) : nI e ≤ 0 ↔ e = 0 := nI_le0 (by omega)
theorem e_goD {n : Nat} {sup : Nat → Nat} {fc : Nat → Int32} {P : MT} {A : AS} {k g : Nat} {f : Fr} {M : Mm} (hT : TOk n sup fc) (hR : TRe n sup fc M) (hO : MOk P) (hP : DMe P M) (hA : DA A M) (ht : Dt M f) (tk : ∀ j, j < 12 → tok (fl f j)) (tk2 : ∀ j, j < fd f → tok (fs f j)) (hk : k < 48) (hg : g ≤ 48) (h0 : M.1 30 0 34 = 0) : ∃ M', F_D_go (nI k) (nI g) M = some M' ∧ DA (goA n sup fc P A k g f) M' ∧ M'.1 30 0 34 = nI (goE P A k g f) ∧ (¬ goE P A k g f = 0 → M'.1 30 0 35 = nI (goP P A k g f)) ∧ KX Smt Smt2 M M' := by
  have hm := hO.1
  unfold F_D_go goP goE goA
  rw [h0, if_pos (by decide), hP.1]
  have fl : ∀ e : Nat, e ≤ 9 → ¬ e = 0 → ¬ e = 4 → ∃ M', bv (F_D_fail (nI e) (nI k) M) (fun M11 => some M11) = some M' ∧ DA A M' ∧ M'.1 30 0 34 = nI e ∧ (¬ e = 0 → M'.1 30 0 35 = nI (if e = 4 then g else k)) ∧ KX Smt Smt2 M M' := by
    intro e he he0 he4
    rw [e_fail h0, bv_some]
    refine ⟨_, rfl, DA_kx hA (fun t k q1 q2 => ?_) (fun t k q => rfl), ?_, fun _ => ?_, kx_i (kx_i KX.rf (by omega)) (by omega)⟩
    · rw [sI1, if_neg (by omega), sI1, if_neg (by omega)]
    · rw [sI1, if_neg (by omega), sI1, if_pos ⟨rfl, rfl, rfl⟩]
    · rw [sI1, if_pos ⟨rfl, rfl, rfl⟩, if_neg he4]
  by_cases c : g < pm P
  · rw [if_pos (nI_lt c (by omega)), if_pos c, if_pos c]
    obtain ⟨M', e1, e2, e3, e4, e5⟩ := e_meetD hT hR hA ht (show g < 48 by omega) h0
    have e4' : ¬ mtE A g f = 0 → M'.1 30 0 35 = nI (if mtE A g f = 4 then g else k) := by
      intro q
      have q4 : mtE A g f = 4 := (mtE_2 A g f).resolve_left q
      rw [if_pos q4]
      exact e4 q4
    by_cases c2 : k < g
    · rw [if_pos (nI_lt c2 (by omega)), if_neg (fun z => z.1 c2), if_neg (fun z => z.1 c2), F_D_go_b44, e1, bv_some]
      exact ⟨M', rfl, e2, e3, e4', e5⟩
    · rw [if_neg (nI_nlt (by omega) (by omega))]
      obtain ⟨r, h1, h2⟩ := e_hasRawD ht tk tk2
      rw [h1, bd_some]
      by_cases c3 : hraw f
      · rw [if_neg (fun z => h2.z.mp z c3), if_pos ⟨c2, pBt.mpr c3⟩, if_pos ⟨c2, pBt.mpr c3⟩]
        exact fl 8 (by omega) (by omega) (by omega)
      · rw [if_pos (h2.z.mpr c3), if_neg (fun z => c3 (pBt.mp z.2)), if_neg (fun z => c3 (pBt.mp z.2)), F_D_go_b44, e1, bv_some]
        exact ⟨M', rfl, e2, e3, e4', e5⟩
  · rw [if_neg (nI_nlt (by omega) (by omega)), if_neg c, if_neg c]
    exact fl 5 (by omega) (by omega) (by omega)
theorem e_goF {v1 v2 : Int32} {M : Mm} (h0 : ¬ M.1 30 0 34 ≤ 0) : F_D_go v1 v2 M = some M := by
  unfold F_D_go
  rw [if_neg h0]
