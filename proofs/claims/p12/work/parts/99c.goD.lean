/-! The reference's going ends, and keeps what it must. -/
def Idd (n : Nat) (sup : Nat → Nat) (fc : Nat → Int32) (P : MT) (A : AS) (M : Mm) : Prop := TRe n sup fc M ∧ DMe P M ∧ DA A M ∧ AOk P A
section IdD
variable {n : Nat} {sup : Nat → Nat} {fc : Nat → Int32} {P : MT} {A : AS} {M : Mm}
/-- fault e, and all that is kept -/
def Ie (n : Nat) (sup : Nat → Nat) (fc : Nat → Int32) (P : MT) (A : AS) (e : Nat) (M : Mm) : Prop := e ≤ 9 ∧ M.1 30 0 34 = nI e ∧ Idd n sup fc P A M
theorem Idd.kx {S S2 : Nat → Nat → Prop} {M' : Mm} (h : Idd n sup fc P A M) (k : KX S S2 M M') (e1 : ∀ t c, ((31 ≤ t ∧ t ≤ 46) ∨ (t = 30 ∧ c = 2) ∨ (t = 30 ∧ 11 ≤ c ∧ c ≤ 16)) → ¬ S t c) (e2 : ∀ t c, t = 47 ∨ t = 48 → ¬ S2 t c) : Idd n sup fc P A M' := ⟨TRe_kx h.1 k (fun t c q => e1 t c (by omega)), DMe_kx h.2.1 k (fun t c q => e1 t c (by omega)), DA_kx h.2.2.1 (fun t c q1 q2 => k.1 t c (e1 t c (by omega))) (fun t c q => k.2 t c (e2 t c q)), h.2.2.2⟩
theorem t_fail {e v : Nat} {w : Int32} (h : Ie n sup fc P A e M) (hv : v ≤ 9) (hv0 : ¬ v = 0) : ∃ e' M', F_D_fail (nI v) w M = some M' ∧ Ie n sup fc P A e' M' ∧ ¬ e' = 0 ∧ KX Sff No2 M M' := by
  obtain ⟨h1, h2, h3⟩ := h
  by_cases c : e = 0
  · rw [e_fail (by rw [h2, c]; rfl)]
    refine ⟨v, _, rfl, ⟨hv, ?_, h3.kx kff (fun t c q z => by omega) (fun t c q z => z)⟩, hv0, kff⟩
    rw [sI1, if_neg (by omega), sI1, if_pos ⟨rfl, rfl, rfl⟩]
  · rw [e_fail1 (by rw [h2]; exact fun z => c ((nI_e0 h1).mp z))]
    exact ⟨e, M, rfl, ⟨h1, h2, h3⟩, c, KX.rf⟩
theorem t_failv {e v : Nat} {w : Int32} (h : Ie n sup fc P A e M) (hv : v ≤ 9) (hv0 : ¬ v = 0) : ∃ e' M', bv (F_D_fail (nI v) w M) (fun M36 => some M36) = some M' ∧ Ie n sup fc P A e' M' ∧ ¬ e' = 0 ∧ KX Sff No2 M M' := by
  obtain ⟨e', M', h1, h2⟩ := t_fail (w := w) h hv hv0
  rw [h1, bv_some]
  exact ⟨e', M', rfl, h2⟩
theorem t_go {e k g : Nat} {f : Fr} (hG : GP n sup fc P) (h : Ie n sup fc P A e M) (ht : Dt M f) (tk : TK f) (hw : wt f ≤ pS P) (hk : k < 48) (hg : g ≤ 48) : ∃ e' A' M', F_D_go (nI k) (nI g) M = some M' ∧ Ie n sup fc P A' e' M' ∧ (∀ j, ah A j = true → ah A' j = true) ∧ KX Smt Smt2 M M' := by
  obtain ⟨hT, hO, -⟩ := hG
  obtain ⟨h1, h2, h3, h4, h5, h6⟩ := h
  by_cases c : e = 0
  · obtain ⟨M', e1, e2, e3, -, e5⟩ := e_goD (k := k) (g := g) hT h3 hO h4 h5 ht tk.1 tk.2 hk hg (by rw [h2, c]; rfl)
    exact ⟨_, _, M', e1, ⟨goE_9, e3, TRe_kx h3 e5 (fun t c q z => by omega), DMe_kx h4 e5 (fun t c q z => by omega), e2, AOk_go hT h6 tk hw⟩, fun j q => ah_go q, e5⟩
  · rw [e_goF (by rw [h2]; exact fun z => c ((nI_e0 h1).mp z))]
    exact ⟨e, A, M, rfl, ⟨h1, h2, h3, h4, h5, h6⟩, fun _ q => q, KX.rf⟩
theorem t_meetD {g : Nat} {f : Fr} (hG : GP n sup fc P) (h : Ie n sup fc P A 0 M) (ht : Dt M f) (tk : TK f) (hw : wt f ≤ pS P) (hg : g < 48) : ∃ e' A' M', F_D_meet (nI g) M = some M' ∧ Ie n sup fc P A' e' M' ∧ ((∀ j, ah A j = true → ah A' j = true) ∧ ah A' g = true) ∧ KX Smt Smt2 M M' := by
  obtain ⟨hT, hO, -⟩ := hG
  obtain ⟨h1, h2, h3, h4, h5, h6⟩ := h
  obtain ⟨M', e1, e2, e3, -, e5⟩ := e_meetD hT h3 h5 ht hg h2
  exact ⟨_, _, M', e1, ⟨mtE_9 A g f, e3, TRe_kx h3 e5 (fun t c q z => by omega), DMe_kx h4 e5 (fun t c q z => by omega), e2, AOk_mt hT h6 tk hw⟩, ⟨fun j q => ah_mt q, ah_mtg⟩, e5⟩
theorem Dh.kx {S S2 : Nat → Nat → Prop} {M' : Mm} {f : Fr} (h : Dh M f) (k : KX S S2 M M') (e1 : ∀ t c, ((49 ≤ t ∧ t ≤ 51) ∨ (t = 30 ∧ (c = 31 ∨ c = 32))) → ¬ S t c) (e2 : ¬ S2 30 39) : Dh M' f := Dh_cg h (fun t c q => k.1 t c (e1 t c (by omega))) (k.2 30 39 e2)
/-- one INSTRUCTION's doing in the reference, SUB and RET aside -/
theorem t_performD {k o : Nat} {f : Fr} (hG : GP n sup fc P) (hk : k < pm P) (ho : o ≤ 30) (fo : FO P o (P.2 1 k) (P.2 2 k)) (h15 : ¬ o = 15) (h16 : ¬ o = 16) (h : Idd n sup fc P A M) (hh : Dh M f) (tk : TK f) (hw : wt f ≤ pS P) : ∃ r M', rfD k o (P.2 1 k) (P.2 2 k) M = some (r, M') ∧ KH M M' ∧ (¬ r = 0 → ∃ f', Dh M' f' ∧ TK f') := by
  obtain ⟨hT, hO, hS, hF, -, -, -, -, ⟨Mc, r1, r2⟩⟩ := hG
  have hpm := hO.1
  have pS12 := hO.2.2.2.2.1
  have hge := wsum_ge (fs f) (fd f)
  obtain ⟨d1, d2, d3⟩ := mkC_ok (f := f) r1 r2 (by have : wt f = wsum (fs f) (fd f) := rfl; omega) hh.2.2.2.2.2.2.1
  have hx : Cx n sup fc P f (mkC f Mc) M := ⟨hT, d1, h.1, hO, d2, h.2.1, d3, hh, tk, hw⟩
  rcases pf_all hx (show k < 48 by omega) ho fo h15 h16 with ⟨Mc', Mr', -, u2, -, u4⟩ | ⟨f', Mr', u1, u2, u3, u4, -, -⟩
  · exact ⟨0, Mr', u2, u4, fun z => absurd rfl z⟩
  · exact ⟨1, Mr', u1, u3, fun _ => ⟨f', u2, u4⟩⟩
/-- a piece of lookAt that ends: fault, all kept, LOOKED as before -/
def Td (n : Nat) (sup : Nat → Nat) (fc : Nat → Int32) (P : MT) (A : AS) (M : Mm) (o : Option Mm) : Prop := ∃ e A' M', o = some M' ∧ Ie n sup fc P A' e M' ∧ (∀ j, ah A j = true → ah A' j = true) ∧ M'.1 30 0 36 = M.1 30 0 36
theorem Td.tr {A2 : AS} {M2 : Mm} {o : Option Mm} (h : Td n sup fc P A2 M2 o) (ha : ∀ j, ah A j = true → ah A2 j = true) (hl : M2.1 30 0 36 = M.1 30 0 36) : Td n sup fc P A M o := by
  obtain ⟨e, A', M', h1, h2, h3, h4⟩ := h
  exact ⟨e, A', M', h1, h2, fun j q => h3 j (ha j q), h4.trans hl⟩
theorem Td.fail {e v : Nat} {w : Int32} (h : Ie n sup fc P A e M) (hv : v ≤ 9) (hv0 : ¬ v = 0) : Td n sup fc P A M (bv (F_D_fail (nI v) w M) (fun M36 => some M36)) := by
  obtain ⟨e', M', h1, h2, -, h4⟩ := t_failv (w := w) h hv hv0
  exact ⟨e', A, M', h1, h2, fun _ q => q, h4.1 30 36 (by omega)⟩
theorem Td.go {e k g : Nat} {f : Fr} (hG : GP n sup fc P) (h : Ie n sup fc P A e M) (ht : Dt M f) (tk : TK f) (hw : wt f ≤ pS P) (hk : k < 48) (hg : g ≤ 48) : Td n sup fc P A M (bv (F_D_go (nI k) (nI g) M) (fun M12 => some M12)) := by
  obtain ⟨e', A', M', h1, h2, h3, h4⟩ := t_go hG h ht tk hw hk hg
  rw [h1, bv_some]
  exact ⟨e', A', M', rfl, h2, h3, h4.1 30 36 (by omega)⟩
theorem t_446 {e k o : Nat} {b : Int32} {f : Fr} (hG : GP n sup fc P) (h : Ie n sup fc P A e M) (ht : Dt M f) (tk : TK f) (hw : wt f ≤ pS P) (hk : k < 48) (ho : o ≤ 30) (hb : o = 12 ∨ o = 13 ∨ o = 14 ∨ o = 15 ∨ o = 17 → ∃ j, j < pm P ∧ b = nI j) : Td n sup fc P A M (F_D_lookAt_b446 (nI k) (nI o) b M) := by
  have hpm := hG.2.1.1
  unfold F_D_lookAt_b446 F_D_lookAt_b463
  rw [lt_v, show (12 : Int32) = nI 12 from rfl, show (14 : Int32) = nI 14 from rfl, show (17 : Int32) = nI 17 from rfl]
  have go : (o = 12 ∨ o = 13 ∨ o = 14 ∨ o = 15 ∨ o = 17) → Td n sup fc P A M (bv (F_D_go (nI k) b M) (fun M12 => some M12)) := fun q => by
    obtain ⟨j, j1, rfl⟩ := hb q
    exact Td.go hG h ht tk hw hk (by omega)
  by_cases c : P_D_in (nI o) (nI 12) (nI 14) M = 0
  · rw [if_pos c]
    by_cases c2 : o = 17
    · rw [if_pos (show nI o = nI 17 by rw [c2])]
      exact go (by omega)
    · rw [if_neg (nI_ne (by omega) (by omega) c2)]
      exact ⟨e, A, M, rfl, h, fun _ q => q, rfl⟩
  · rw [if_neg c]
    obtain ⟨j, j1, j2, j3⟩ := in_sm (by decide) (by decide) c
    have j4 := (nI_eq (show o < 2 ^ 31 by omega) (show j < 2 ^ 31 by omega)).mp j3
    exact go (by omega)
theorem t_434 {e k o : Nat} {a b : Int32} {f : Fr} (hG : GP n sup fc P) (h : Ie n sup fc P A e M) (ht : Dt M f) (tk : TK f) (hw : wt f ≤ pS P) (hk : k < 48) (ho : o ≤ 30) (hb : o = 12 ∨ o = 13 ∨ o = 14 ∨ o = 15 ∨ o = 17 → ∃ j, j < pm P ∧ b = nI j) (ha : o = 17 → ∃ j, j < pm P ∧ a = nI j) : Td n sup fc P A M (F_D_lookAt_b434 (nI k) (nI o) a b M) := by
  have hpm := hG.2.1.1
  unfold F_D_lookAt_b434
  by_cases c : o = 17
  · rw [if_pos (show nI o = 17 by rw [c]; rfl)]
    obtain ⟨j, j1, rfl⟩ := ha c
    obtain ⟨e', A', M', h1, h2, h3, h4⟩ := t_go (g := j) hG h ht tk hw hk (by omega)
    rw [h1, bv_some]
    exact (t_446 hG h2 (Dt_cg ht (fun t c q => h4.1 t c (by omega)) (h4.2 30 40 (by omega))) tk hw hk ho hb).tr h3 (h4.1 30 36 (by omega))
  · rw [if_neg (show ¬ nI o = (17 : Int32) from neN (k := 17) rfl (by omega) (by decide) c)]
    exact t_446 hG h ht tk hw hk ho hb
theorem Dt_ent {f : Fr} {b : Nat} (h : Dt M f) (hb : b < 48) : Dt (sI (sL M 30 0 40 (fb f ||| (1 : Int64) <<< ((nI b).toInt64 &&& 63))) 54 0 b 0) (ent f b) := by
  obtain ⟨h1, h2, h3, h4, h5, h6, h7⟩ := h
  refine ⟨h1, ?_, fun a ha => ?_, fun a ha => ?_, ?_, fun c hc => ?_, fun c hc hq => ?_⟩
  · rw [sI1, if_neg (by omega)]; exact h2
  · rw [sI1, if_neg (by omega)]; exact h3 a ha
  · rw [sI1, if_neg (by omega)]; exact h4 a ha
  · rw [sI2, sL2, if_pos ⟨rfl, rfl, rfl⟩]
  · show bq (fb f ||| _) c = false
    rw [bq_or, h6 c hc, Bool.false_or]
    by_cases q : c < 64
    · rw [bq_one1 (by omega) q, decide_eq_false (by omega)]
    · exact bq_big (by omega)
  · have hq' : bq (fb f ||| (1 : Int64) <<< ((nI b).toInt64 &&& 63)) c = true := hq
    rw [sI1]
    show _ = if c = b then 0 else ft f c
    by_cases q : c = b
    · rw [if_pos ⟨rfl, rfl, q⟩, if_pos q]
    · rw [if_neg (fun z => q z.2.2), if_neg q]
      rw [bq_or, bq_one1 (by omega) (by omega), decide_eq_false q, Bool.or_false] at hq'
      exact h7 c hc hq'
theorem t_wakeD {e b : Nat} (hO : MOk P) (hb : b < 48) : ∀ m j A M, pm P < j + m → j ≤ pm P → Ie n sup fc P A e M → Td n sup fc P A M (F_D_enters_b80 m (nI b) (nI j) M) := by
  have hpm := hO.1
  intro m
  induction m with
  | zero =>
    intro j A M h1 h2
    omega
  | succ m ih =>
    intro j A M h1 h2 hI
    have fin : Td n sup fc P A M (some M) := ⟨e, A, M, rfl, hI, fun _ q => q, rfl⟩
    obtain ⟨i1, i2, i3, i4, i5, i6⟩ := id hI
    rw [F_D_enters_b80, i4.1]
    by_cases c : j = pm P
    · rw [c, if_pos (nI_le (Nat.le_refl _) (by omega))]
      exact fin
    · have hj : j < 48 := by omega
      have nx : Td n sup fc P A M (F_D_enters_b137 (F_D_enters_b80 m) (nI b) (nI j) M) := by
        unfold F_D_enters_b137
        rw [lt_v, nI_1]
        exact ih (j + 1) A M (by omega) (by omega) hI
      rw [if_neg (nI_ge (by omega) (by omega))]
      split
      · rw [bnd_nI hj (by decide)]
        split
        · rw [bnd_nI hj (by decide), nI_clamp (by omega), (i5 j hj).1]
          by_cases c1 : ah A j = true
          · rw [if_neg (fun z => by rw [bI0.mp z] at c1; cases c1), bnd_nI hj (by decide)]
            split
            · rw [bnd_nI hj (by decide), lt_v, nar1]
              unfold F_D_enters_b137
              rw [lt_v, nI_1]
              have hI2 : Ie n sup fc P (ah A, sg (ac A) j true, an A, af A) e (sI M 42 0 j 1) := by
                refine ⟨i1, ?_, TRe_cg i3 ?_ (fun t i k q => ?_), DMe_kx (S := fun t k => t = 42) (S2 := No2) i4 (KX.sI rfl) (fun t c q z => by omega), fun k hk => ?_, AOk_c i6 (fun _ => c1)⟩
                · rw [sI1, if_neg (by omega)]; exact i2
                · rw [sI1, if_neg (by omega)]
                · rw [sI1, if_neg (by omega)]
                · obtain ⟨a1, a2, a3, a4⟩ := i5 k hk
                  refine ⟨?_, ?_, a3, fun q => Ds_cg (a4 q) (fun t c q1 q2 _ _ _ => ?_) rfl⟩
                  · rw [sI1, if_neg (by omega)]; exact a1
                  · show (sI M 42 0 j 1).1 42 0 k = bI (sg (ac A) j true k)
                    rw [sI1]
                    by_cases z : k = j
                    · rw [if_pos ⟨rfl, rfl, z⟩, z, sg_s]
                      rfl
                    · rw [if_neg (fun w => z w.2.2), sg_n z]
                      exact a2
                  · rw [sI1, if_neg (by omega)]
              exact (ih (j + 1) _ _ (by omega) (by omega) hI2).tr (fun _ q => q) (by rw [sI1, if_neg (by omega)])
            · exact nx
          · rw [if_pos (bI0.mpr (by cases q : ah A j <;> simp_all))]
            exact nx
        · exact nx
      · exact fin
theorem t_enters {k b : Nat} {f : Fr} (hG : GP n sup fc P) (hk : k < pm P) (hb : b < pm P) (h : Ie n sup fc P A 0 M) (hh : Dh M f) (tk : TK f) (hw : wt f ≤ pS P) : Td n sup fc P A M (F_D_enters (nI k) (nI b) M) := by
  have hO := hG.2.1
  have hpm := hO.1
  have pS12 := hO.2.2.2.2.1
  unfold F_D_enters
  split
  · exact Td.fail (v := 6) h (by decide) (by decide)
  · have hge := wsum_ge (fs f) (fd f)
    have hwf : wt f = wsum (fs f) (fd f) := rfl
    obtain ⟨M1, m1, m2, m3⟩ := e_put (v := 2000 + nI b) hh (by omega)
    rw [m1, bd_some]
    have hI1 : Ie n sup fc P A 0 M1 := ⟨h.1, (m3.1 30 34 (by omega)).trans h.2.1, h.2.2.kx m3 (fun t c q z => by omega) (fun t c q z => z)⟩
    have l1 : M1.1 30 0 36 = M.1 30 0 36 := m3.1 30 36 (by omega)
    rw [m2.2.2.1, hI1.2.2.2.1.2.2.2.2.2.1]
    have hv : tok (2000 + nI b) := ⟨2000 + b, by rw [show (2000 : Int32) = nI 2000 from rfl, nI_add], by omega⟩
    have hw2 : wt (psh f (2000 + nI b)) ≤ 30 := by
      rw [wt_psh]
      have := (wid_1 (2000 + nI b)).2
      omega
    by_cases cw : wt (psh f (2000 + nI b)) ≤ pS P
    · rw [if_pos (nI_le cw (by omega))]
      have hge2 := wsum_ge (fs (psh f (2000 + nI b))) (fd (psh f (2000 + nI b)))
      have hw3 : wt (psh f (2000 + nI b)) = wsum (fs (psh f (2000 + nI b))) (fd (psh f (2000 + nI b))) := rfl
      obtain ⟨M2, c1, c2, c3⟩ := e_copyOut m2 (by omega)
      rw [c1, bv_some, lt_v, bnd_nI (show b < 48 by omega) (by decide), lt_v, nI_clamp (by omega), c2.2.2.2.2.1]
      have d2 := Dt_ent (b := b) c2 (by omega)
      have kx2 : KX (fun t c => Sco t c) (fun t c => Sco2 t c) M1 (sI (sL M2 30 0 40 (fb (psh f (2000 + nI b)) ||| (1 : Int64) <<< ((nI b).toInt64 &&& 63))) 54 0 b 0) := kx_i (kx_l c3 ⟨rfl, rfl⟩) (by omega)
      have hI2 : Ie n sup fc P A 0 (sI (sL M2 30 0 40 (fb (psh f (2000 + nI b)) ||| (1 : Int64) <<< ((nI b).toInt64 &&& 63))) 54 0 b 0) := ⟨hI1.1, (kx2.1 30 34 (by omega)).trans hI1.2.1, hI1.2.2.kx kx2 (fun t c q z => by omega) (fun t c q z => by omega)⟩
      obtain ⟨e', A', M', g1, g2, g3, g4⟩ := t_go (k := k) (g := b) hG hI2 d2 (TK_psh tk hv) cw (by omega) (by omega)
      rw [g1, bv_some]
      refine (t_wakeD hO (by omega) fuel 0 A' M' (Nat.lt_of_le_of_lt hpm (fuel_pos (by decide))) (Nat.zero_le _) g2).tr g3 ?_
      rw [g4.1 30 36 (by omega), kx2.1 30 36 (by omega), l1]
    · rw [if_neg (nI_ge (by omega) (by omega))]
      exact (Td.fail (v := 3) hI1 (by decide) (by decide)).tr (fun _ q => q) l1
end IdD
