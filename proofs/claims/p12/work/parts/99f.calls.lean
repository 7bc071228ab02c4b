/-! verify(), state(), count(), place() in a part: they end, each side for itself. -/
section PC
variable {n : Nat} {sup : Nat → Nat} {fc : Nat → Int32} {P : MT}
theorem t_findSub {i : Nat} {v1 : Int32} {M : Mm} : ∀ m j v2, 48 < j + m → j ≤ 48 → ∃ r, F_R_findSub_b4 m i v1 v2 (nI j) M = some (r, M) ∧ (r = -1 ∨ ∃ c, c < 48 ∧ r = nI c) := by
  intro m
  induction m with
  | zero =>
    intro j v2 h1 h2
    omega
  | succ m ih =>
    intro j v2 h1 h2
    rw [F_R_findSub_b4]
    by_cases c : j = 48
    · rw [c, if_pos le48]
      exact ⟨-1, rfl, Or.inl rfl⟩
    · have hj : j < 48 := by omega
      rw [if_neg (ge48 hj), lt_v]
      unfold F_R_findSub_b31
      split
      · rw [lt_v, nI_1]
        exact ih (j + 1) v2 (by omega) (by omega)
      · split
        · exact ⟨nI j, rfl, Or.inr ⟨j, hj, rfl⟩⟩
        · rw [lt_v, lt_v, nI_1]
          exact ih (j + 1) _ (by omega) (by omega)
theorem t_read {i d : Nat} {v : Int32} {M : Mm} (hd : d ≤ 12) (h : M.1 19 i 2 = nI d) : ∃ r, F_R_read i v M = some (r, M) := by
  have fs : ∀ w, ∃ r, F_R_findSub i w M = some (r, M) ∧ (r = -1 ∨ ∃ c, c < 48 ∧ r = nI c) := fun w => t_findSub fuel 0 0 (fuel_pos (by decide)) (by decide)
  have b90 : ∃ r, F_R_read_b90 i v M = some (r, M) := by
    unfold F_R_read_b90
    split
    · exact ⟨_, rfl⟩
    · split
      · obtain ⟨r, r1, r2⟩ := fs (v - 40)
        rw [r1, bd_some]
        rcases r2 with rfl | ⟨c, c1, rfl⟩
        · exact ⟨-1, if_pos rfl⟩
        · rw [if_neg (nI_m1 (by omega)), bnd_nI c1 (by decide)]
          exact ⟨_, rfl⟩
      · exact ⟨_, rfl⟩
  have b44 : ∃ r, F_R_read_b44 i v M = some (r, M) := by
    unfold F_R_read_b44
    split
    · exact ⟨_, rfl⟩
    · split
      · exact ⟨_, rfl⟩
      · split
        · exact b90
        · split
          · exact b90
          · obtain ⟨r, r1, -⟩ := fs (v - 34)
            rw [r1, bd_some]
            exact ⟨r, rfl⟩
  have b17 : ∃ r, F_R_read_b17 i v M = some (r, M) := by
    unfold F_R_read_b17
    by_cases c1 : v < 16
    · rw [if_pos c1]
      exact b44
    · rw [if_neg c1, h, show (16 : Int32) = nI 16 from rfl, nI_add]
      by_cases c2 : nI (16 + d) ≤ v
      · rw [if_pos c2]
        exact b44
      · rw [if_neg c2]
        have v0 : ¬ v < 0 := fun z => c1 (by
          rw [Int32.lt_iff_toInt_lt] at z ⊢
          exact Int.lt_trans z (by decide))
        obtain ⟨j, j1, rfl⟩ := nI_of v0
        have j2 : 16 ≤ j := by
          rcases Nat.lt_or_ge j 16 with q | q
          · exact absurd (nI_lt (b := 16) q (by decide)) c1
          · exact q
        have j3 : j < 16 + d := by
          rcases Nat.lt_or_ge j (16 + d) with q | q
          · exact q
          · exact absurd (nI_le q (by omega)) c2
        rw [pk_sub (by omega), bnd_nI (by omega) (by decide)]
        exact ⟨_, rfl⟩
  unfold F_R_read
  by_cases c1 : v < 0
  · rw [if_pos c1]
    exact b17
  · rw [if_neg c1]
    by_cases c2 : (12 : Int32) ≤ v
    · rw [if_pos c2]
      exact b17
    · rw [if_neg c2]
      obtain ⟨j, j1, rfl⟩ := nI_of c1
      have j2 : j < 12 := by
        rcases Nat.lt_or_ge j 12 with q | q
        · exact q
        · exact absurd (nI_le (a := 12) q (by omega)) c2
      rw [bnd_nI j2 (by decide)]
      exact ⟨_, rfl⟩
theorem t_stC {Mc Mr : Mm} (h : RF Mc Mr) (v1 v2 : Int32) : ∃ r, F_G_state v1 v2 Mc = some (r, Mc) := by
  unfold F_G_state
  by_cases c1 : v1 < 0
  · rw [if_pos c1]
    exact ⟨_, rfl⟩
  · rw [if_neg c1]
    by_cases c2 : (48 : Int32) ≤ v1
    · rw [if_pos c2]
      exact ⟨_, rfl⟩
    · rw [if_neg c2]
      obtain ⟨j, j1, rfl⟩ := nI_of c1
      have j2 : j < 48 := by
        rcases Nat.lt_or_ge j 48 with q | q
        · exact q
        · exact absurd (nI_le (a := 48) q (by omega)) c2
      rw [bnd_nI j2 (by decide), nI_clamp (by omega)]
      by_cases c3 : Mc.1 16 0 j = 0
      · rw [if_pos c3]
        exact ⟨_, rfl⟩
      · rw [if_neg c3, bnd_nI j2 (by decide)]
        obtain ⟨d, d1, d2⟩ := h j j2 c3
        obtain ⟨r, r1⟩ := t_read (v := v2) d1 d2
        rw [r1, bd_some]
        exact ⟨r, rfl⟩
theorem t_stL {k : Nat} {v2 : Int32} {M : Mm} (hk : k < 48) : ∀ m j v3, 48 < j + m → j ≤ 48 → ∃ r, F_D_state_b91 m (nI k) v2 v3 (nI j) M = some (r, M) := by
  intro m
  induction m with
  | zero =>
    intro j v3 h1 h2
    omega
  | succ m ih =>
    intro j v3 h1 h2
    rw [F_D_state_b91]
    by_cases c : j = 48
    · rw [c, if_pos le48]
      split
      · rw [bnd_nI hk (by decide)]
        exact ⟨_, rfl⟩
      · split
        · exact ⟨_, rfl⟩
        · exact ⟨_, rfl⟩
    · have hj : j < 48 := by omega
      have n1 : ∃ r, F_D_state_b164 (F_D_state_b91 m) (nI k) v2 v3 (nI j) M = some (r, M) := by
        unfold F_D_state_b164
        rw [lt_v, nI_1]
        exact ih (j + 1) v3 (by omega) (by omega)
      have n2 : ∃ r, F_D_state_b161 (F_D_state_b91 m) (nI k) v2 v3 (nI j) M = some (r, M) := by
        unfold F_D_state_b161 F_D_state_b164
        rw [lt_v, lt_v, nI_1]
        exact ih (j + 1) _ (by omega) (by omega)
      have n3 : ∃ r, F_D_state_b134 (F_D_state_b91 m) (nI k) v2 v3 (nI j) M = some (r, M) := by
        unfold F_D_state_b134
        split
        · split
          · exact n2
          · rw [nI48, bnd_nI (by omega) (by decide)]
            exact ⟨_, rfl⟩
        · exact n2
      rw [if_neg (ge48 hj), bnd_nI hk (by decide)]
      split
      · exact n1
      · split
        · split
          · exact n3
          · exact ⟨_, rfl⟩
        · exact n3
theorem t_stD (v1 v2 : Int32) (M : Mm) : ∃ r, F_D_state v1 v2 M = some (r, M) := by
  unfold F_D_state
  rw [lt_v]
  by_cases c1 : P_D_in v1 0 47 M = 0
  · rw [if_pos c1]
    exact ⟨_, rfl⟩
  · rw [if_neg c1]
    obtain ⟨k, -, k2, rfl⟩ := in_sm (lo := 0) (hi := 47) (by decide) (by decide) c1
    rw [bnd_nI (show k < 48 by omega) (by decide)]
    split
    · exact ⟨_, rfl⟩
    · rw [lt_v]
      by_cases c2 : P_D_in v2 0 11 M = 0
      · rw [if_pos c2, lt_v]
        by_cases c3 : P_D_in v2 16 27 M = 0
        · rw [if_pos c3]
          exact t_stL (by omega) fuel 0 0 (fuel_pos (by decide)) (by decide)
        · rw [if_neg c3, bnd_nI (show k < 48 by omega) (by decide)]
          obtain ⟨j, j1, j2, rfl⟩ := in_sm (lo := 16) (hi := 27) (by decide) (by decide) c3
          split
          · exact ⟨_, rfl⟩
          · rw [nI12, show (16 : Int32) = nI 16 from rfl, pk_sub (by omega), bnd_nI (by omega) (by decide)]
            exact ⟨_, rfl⟩
      · rw [if_neg c2]
        obtain ⟨j, -, j2, rfl⟩ := in_sm (lo := 0) (hi := 11) (by decide) (by decide) c2
        rw [nI12, bnd_nI (by omega) (by decide)]
        exact ⟨_, rfl⟩
theorem t_cntL {v1 : Int32} {M : Mm} : ∀ m j v2, 48 < j + m → j ≤ 48 → ∃ r, F_D_count_b4 m v1 v2 (nI j) M = some (r, M) := by
  intro m
  induction m with
  | zero =>
    intro j v2 h1 h2
    omega
  | succ m ih =>
    intro j v2 h1 h2
    rw [F_D_count_b4]
    by_cases c : j = 48
    · rw [c, if_pos le48]
      split
      · exact ⟨_, rfl⟩
      · split
        · exact ⟨_, rfl⟩
        · split
          · exact ⟨_, rfl⟩
          · split
            · exact ⟨_, rfl⟩
            · split
              · exact ⟨_, rfl⟩
              · split
                · exact ⟨_, rfl⟩
                · split
                  · exact ⟨_, rfl⟩
                  · split
                    · exact ⟨_, rfl⟩
                    · exact ⟨_, rfl⟩
    · rw [if_neg (ge48 (by omega)), lt_v, lt_v, nI_1]
      exact ih (j + 1) _ (by omega) (by omega)
theorem CMe_0 {c : Nat} {v : Int32} {M : Mm} (h : CMe P M) : CMe P (sI M 0 0 c v) := by
  obtain ⟨h1, h2, h3, h4, h5, h6, h7, h8, h9⟩ := h
  refine ⟨?_, ?_, ?_, ?_, ?_, ?_, fun k hk => ⟨?_, ?_, ?_⟩, fun k hk => ⟨?_, ?_, ?_, ?_⟩, fun k hk => ?_⟩
  · rw [sI1, if_neg (by omega)]; exact h1
  · rw [sI1, if_neg (by omega)]; exact h2
  · rw [sI1, if_neg (by omega)]; exact h3
  · rw [sI1, if_neg (by omega)]; exact h4
  · rw [sI1, if_neg (by omega)]; exact h5
  · rw [sI1, if_neg (by omega)]; exact h6
  · rw [sI1, if_neg (by omega)]; exact (h7 k hk).1
  · rw [sI1, if_neg (by omega)]; exact (h7 k hk).2.1
  · rw [sI1, if_neg (by omega)]; exact (h7 k hk).2.2
  · rw [sI1, if_neg (by omega)]; exact (h8 k hk).1
  · rw [sI1, if_neg (by omega)]; exact (h8 k hk).2.1
  · rw [sI1, if_neg (by omega)]; exact (h8 k hk).2.2.1
  · rw [sI1, if_neg (by omega)]; exact (h8 k hk).2.2.2
  · rw [sI1, if_neg (by omega)]; exact h9 k hk
theorem TCl_0 {c : Nat} {v : Int32} {M : Mm} (h : TCl n sup fc M) : TCl n sup fc (sI M 0 0 c v) := TCl_cg h (fun t i k q _ => by rw [sI1, if_neg (by omega)])
abbrev A00 (P : MT) : AS := (fun _ => false, fun _ => false, fun _ => 0, fun _ => st0 P)
theorem hct0 : ∀ m, hct (fun _ => false) m = 0 := by
  intro m
  induction m with
  | zero => rfl
  | succ m ih =>
    show hct (fun _ => false) m + 0 = 0
    rw [ih]
theorem AOk0 : AOk P (A00 P) := fun k _ => ⟨fun q => (by cases q), fun q => (by cases q), Or.inl rfl⟩
/-- the class's run() behind the right FORM -/
theorem t_runC {M : Mm} (hG : GP n sup fc P) (h : Iv n sup fc P (A00 P) M) (hq : M.1 14 0 8 = 0) : ∃ e A M', F_W_run M = some (nI e, M') ∧ e ≤ 9 ∧ Iv n sup fc P A M' ∧ ∀ t i c, t < 14 → M'.1 t i c = M.1 t i c := by
  obtain ⟨hT, hO, hS, -, -, hr, h0, -⟩ := id hG
  have hL := hO.2.2.2.1
  obtain ⟨M1, m1, m2, m3⟩ := e_start (i := 1) hO h.2.1 (by omega)
  unfold F_W_run
  rw [m1, bv_some]
  have h1 := h.kf m3 (by decide)
  obtain ⟨t1, t2⟩ := TK_st0 hO
  obtain ⟨M2, e1, e2, e3, -⟩ := e_meetC0 (g := 0) hT h1.1 hO h1.2.1 hS h1.2.2.1 m2 (by decide) h0
  rw [show F_W_meet (-1) 0 1 M1 = _ from e1, bd_some]
  have h2 : Iv n sup fc P (mtA n sup fc (A00 P) 0 (st0 P)) M2 := ⟨e3.ty h1.1, e3.me h1.2.1, e2, AOk_mt hT h1.2.2.2 t1 (by omega)⟩
  have hq2 : M2.1 14 0 8 = nI 0 := by
    rw [e3.2.1, m3.1 14 0 8 (by omega), hq]
    rfl
  obtain ⟨e', A', M', r1, r2, r3, r4⟩ := t_run hG fuel _ 0 0 _ M2 h2 hq2 (by decide) (by show 3000 ≤ 0 + 100000; decide) (mtE_9 _ _ _) (Nat.zero_le _) (fun _ => ah_mtg)
  refine ⟨e', A', M', r1, r2, r3, fun t i c q => ?_⟩
  rw [r4 t i c q, e3.1 t i c q, m3.1 t i c (by omega)]
theorem t_ver {Mc Mr : Mm} (h : Rel Mc Mr) : ∃ rc rd Mc' Mr', F_G_verify Mc = some (rc, Mc') ∧ F_D_verify Mr = some (rd, Mr') ∧ Rel Mc' Mr' := by
  obtain ⟨⟨n, sup, fc, hT, hC, hR⟩, ⟨P, hO, hP, hD⟩, -⟩ := h
  obtain ⟨M1, e1, f1, f2, f3, f4, f5, f6⟩ := e_forget Mc
  obtain ⟨M2, e2, g1, g2, g3⟩ := e_forgetD Mr
  have hC1 : TCl n sup fc M1 := TCl_cg hC (fun t i k _ q => f1 t i k (by omega))
  have hP1 : CMe P M1 := CMe_cg hP (fun t i k q => f1 t i k (by omega))
  have kx : KX (fun t k => t = 41 ∨ t = 42 ∨ (t = 30 ∧ 34 ≤ k ∧ k ≤ 36)) (fun t _ => t = 48) Mr M2 := by
    refine ⟨fun t k q => ?_, fun t k q => ?_⟩
    · rw [g1 t 0 k (by omega), sI1, if_neg (by omega), sI1, if_neg (by omega), sI1, if_neg (by omega)]
    · exact g2 t 0 k q
  have hR2 : TRe n sup fc M2 := TRe_kx hR kx (fun t c q z => by omega)
  have hD2 : DMe P M2 := DMe_kx hD kx (fun t c q z => by omega)
  have h34 : M2.1 30 0 34 = 0 := by
    rw [g1 30 0 34 (by omega), sI1, if_neg (by omega), sI1, if_neg (by omega), sI1, if_pos ⟨rfl, rfl, rfl⟩]
  have h36 : M2.1 30 0 36 = nI 0 := by
    rw [g1 30 0 36 (by omega), sI1, if_pos ⟨rfl, rfl, rfl⟩]
    rfl
  have hpm := hO.1
  unfold F_G_verify
  rw [e1, bv_some, e2]
  unfold vD1
  rcases fo_all hT hC1 hR2 hO hP1 hD2 h34 with ⟨p, p1, c1, c2⟩ | ⟨c1, c2, q0, qF, qH, qA⟩
  · rw [c1, bd_some, lt_v, if_neg (by rw [sI1, if_pos ⟨rfl, rfl, rfl⟩]; exact nI_m1 (by omega)), c2, bv_some]
    have e34 : (sI (sI M2 30 0 34 1) 30 0 35 (nI p)).1 30 0 34 = 1 := by
      rw [sI1, if_neg (by omega), sI1, if_pos ⟨rfl, rfl, rfl⟩]
    rw [if_neg (by rw [e34]; decide), fuel_s, F_D_verify_b65, if_neg (by rw [e34]; decide)]
    obtain ⟨r, M3, r1, r2, r3⟩ := t_136 hO (TRe_kx hR2 (kff (v := 1) (w := nI p)) (fun t c q z => by omega)) (DMe_kx hD2 (kff (v := 1) (w := nI p)) (fun t c q z => by omega))
    rw [r1]
    refine ⟨1, r, _, M3, rfl, rfl, ⟨n, sup, fc, hT, TCl_0 hC1, r2⟩, ⟨P, hO, CMe_0 hP1, r3⟩, fun k hk z => ?_⟩
    rw [sI1, if_neg (by omega)] at z
    exact absurd (f5 k hk).1 z
  · have hG : GP n sup fc P := by
      refine ⟨hT, hO, ?_, ?_, ?_, qA, q0, ⟨M2, hR2, hD2⟩, ⟨M1, hC1, hP1⟩⟩
      · intro k hk hkm hs
        have f := qF k hkm
        unfold Fm at f
        rw [show P.2 0 k = nI 15 from hs] at f
        obtain ⟨j, j1, j2⟩ := (fm_fo hT hR2 hO hD2 f).2.2.2.2.1 (by omega)
        exact ⟨j, by omega, j2⟩
      · intro k hk
        obtain ⟨o, o1, o2⟩ := hO.2.2.2.2.2.1 k (by omega)
        have f := qF k hk
        unfold Fm at f
        rw [o2] at f
        exact ⟨o, o1, o2, fm_fo hT hR2 hO hD2 f⟩
      · intro h hh
        obtain ⟨-, -, -, h4, h5, -⟩ := qH h hh
        obtain ⟨g, a1, -, a3⟩ := gl_sm h4
        obtain ⟨c, b1, -, b3⟩ := gl_sm h5
        have := hT.2.1
        exact ⟨g, c, a1, by omega, a3, b3⟩
    rw [c1, bd_some, lt_v, if_pos (by rw [sI1, if_pos ⟨rfl, rfl, rfl⟩]), c2, bv_some, if_pos h34]
    have hA1 : CA P (A00 P) M1 := by
      refine ⟨fun k hk => ⟨(f5 k hk).1, (f5 k hk).2, ?_, fun q => by cases q⟩, ?_, fun b hb => ?_⟩
      · rw [f6 18 0 k (by omega)]
        unfold F_fillJ
        rw [sB2, if_pos ⟨rfl, rfl⟩, if_pos (show k < nf 18 from hk)]
      · rw [f3, hct0]
        rfl
      · rw [f4, bq_0]
        constructor
        · exact fun z => by cases z
        · rintro ⟨j, -, j2, -⟩
          cases j2
    have hI1 : Iv n sup fc P (A00 P) (sI M1 0 0 4 (-1)) := by
      refine ⟨TCl_0 hC1, CMe_0 hP1, ⟨fun k hk => ?_, ?_, hA1.2.2⟩, AOk0⟩
      · obtain ⟨a1, a2, a3, a4⟩ := hA1.1 k hk
        refine ⟨?_, ?_, a3, fun q => by cases q⟩
        · rw [sI1, if_neg (by omega)]; exact a1
        · rw [sI1, if_neg (by omega)]; exact a2
      · rw [sI1, if_neg (by omega)]; exact hA1.2.1
    obtain ⟨e, A, M3, r1, r2, r3, r4⟩ := t_runC hG hI1 (by rw [sI1, if_neg (by omega)]; exact f2)
    rw [r1, bd_some]
    have hI2 : Ie n sup fc P (A00 P) 0 M2 := ⟨by decide, h34, hR2, hD2, fun k hk => ⟨(g3 k hk).1, (g3 k hk).2.1, (g3 k hk).2.2, fun q => by cases q⟩, AOk0⟩
    obtain ⟨e', A', M4, s1, s2, s3⟩ := t_begins hG hI2
    rw [s1, bv_some]
    obtain ⟨rd, M5, u1, u2, u3⟩ := t_65 hG fuel e' 0 A' M4 s2 (s3.trans h36) (by decide) (Or.inl (by show 3001 ≤ 0 + 100000; decide))
    rw [u1]
    have fin : ∀ c v, Rel (sI M3 0 0 c v) M5 := fun c v => by
      refine ⟨⟨n, sup, fc, hT, TCl_0 r3.1, u2⟩, ⟨P, hO, CMe_0 r3.2.1, u3⟩, fun k hk z => ?_⟩
      rw [sI1, if_neg (by omega)] at z
      obtain ⟨a1, -, -, a4⟩ := r3.2.2.1.1 k hk
      have hk' : ah A k = true := by
        cases q : ah A k
        · rw [a1, q] at z
          exact absurd rfl z
        · rfl
      have f := a4 hk'
      refine ⟨_, f.1, ?_⟩
      rw [sI1, if_neg (by omega)]
      exact f.2.1
    split
    · exact ⟨_, rd, _, M5, rfl, rfl, fin 5 _⟩
    · exact ⟨_, rd, _, M5, rfl, rfl, fin 4 _⟩
theorem rel0p : Rel Mc0 Mr0 := ⟨⟨2, _, _, ty00⟩, ⟨P00, me00⟩, fun k _ z => absurd rfl z⟩
end PC
