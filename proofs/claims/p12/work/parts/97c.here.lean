/-! The STATE in which is done, in the reference. -/
def Dh (M : Mm) (f : Fr) : Prop := fd f ≤ 16 ∧ M.1 30 0 31 = nI (fd f) ∧ M.1 30 0 32 = nI (wt f) ∧ (∀ j, j < 12 → M.1 49 0 j = fl f j) ∧ (∀ j, j < fd f → M.1 50 0 j = fs f j) ∧ M.2 30 0 39 = fb f ∧ (∀ b, 48 ≤ b → bq (fb f) b = false) ∧ ∀ b, b < 48 → bq (fb f) b = true → M.1 51 0 b = ft f b
abbrev Shh (t k : Nat) : Prop := (49 ≤ t ∧ t ≤ 51) ∨ (t = 30 ∧ (k = 31 ∨ k = 32))
abbrev No2 (_t _k : Nat) : Prop := False
abbrev KH (M M' : Mm) : Prop := KX Shh No2 M M'
def tp (f : Fr) (e : Nat) : Int32 := if e < fd f then fs f (fd f - 1 - e) else -1
theorem tp_drp {f : Fr} {m e : Nat} : tp (drp f m) e = tp f (e + m) := by
  unfold tp
  show (if e < fd f - m then fs f (fd f - m - 1 - e) else -1) = _
  by_cases c : e + m < fd f
  · rw [if_pos c, if_pos (by omega)]
    congr 1
    omega
  · rw [if_neg c, if_neg (by omega)]
theorem tp_in {f : Fr} {e : Nat} (h : ¬ tp f e = -1) : e < fd f := by
  by_cases c : e < fd f
  · exact c
  · unfold tp at h
    rw [if_neg c] at h
    exact absurd rfl h
theorem e_topC {i e : Nat} {M : Mm} {f : Fr} (h : Cf M i f) (he : e ≤ 3) : F_R_top i (nI e) M = some (tp f e, M) := e_top h he
theorem e_topD {e : Nat} {M : Mm} {f : Fr} (h : Dh M f) (he : e ≤ 3) : F_D_top (nI e) M = some (tp f e, M) := by
  have h1 := h.1
  unfold F_D_top tp
  rw [h.2.1]
  by_cases c : e < fd f
  · rw [if_neg (nI_ge c (by omega)), if_pos c]
    have e1 : nI (fd f) - 1 - nI e = nI (fd f - 1 - e) := by
      rw [show (1 : Int32) = nI 1 from rfl, pk_sub (by omega), pk_sub (by omega)]
    rw [e1, bnd_nI (by omega) (by decide), nI_clamp (by omega), h.2.2.2.2.1 _ (by omega)]
  · rw [if_pos (nI_le (by omega) (by omega)), if_neg c]
theorem e_single {e : Nat} {M : Mm} {f : Fr} (h : Dh M f) (he : e ≤ 3) : F_D_single (nI e) M = some (if e < fd f ∧ wid (fs f (fd f - 1 - e)) = 1 then 1 else 0, M) := by
  have h1 := h.1
  unfold F_D_single
  rw [h.2.1]
  by_cases c : e < fd f
  · rw [if_neg (nI_ge c (by omega))]
    have e1 : nI (fd f) - 1 - nI e = nI (fd f - 1 - e) := by
      rw [show (1 : Int32) = nI 1 from rfl, pk_sub (by omega), pk_sub (by omega)]
    rw [e1, bnd_nI (by omega) (by decide), lt_v, nI_clamp (by omega), h.2.2.2.2.1 _ (by omega), e_wideD]
    unfold wid
    by_cases w : fs f (fd f - 1 - e) = 3 ∨ fs f (fd f - 1 - e) = 4
    · simp [w, c]
    · simp [w, c]
  · rw [if_pos (nI_le (by omega) (by omega)), if_neg (fun z => c z.1)]
theorem e_put {M : Mm} {f : Fr} {v : Int32} (h : Dh M f) (hd : fd f < 16) : ∃ M', F_D_put v M = some (1, M') ∧ Dh M' (psh f v) ∧ KH M M' := by
  obtain ⟨h1, h2, h3, h4, h5, h6, h7, h8⟩ := h
  refine ⟨sI (sI (sI M 50 0 (fd f) v) 30 0 31 (nI (fd f + 1))) 30 0 32 (nI (wt f + wid v)), ?_, ?_, kx_i (kx_i (kx_i KX.rf (by omega)) (by omega)) (by omega)⟩
  · unfold F_D_put
    rw [h2, bnd_nI (by omega) (by decide), lt_v, lt_v, lt_v, nI_clamp (by omega)]
    have r1 : (sI M 50 0 (fd f) v).1 30 0 31 = nI (fd f) := by
      rw [sI1, if_neg (by omega)]
      exact h2
    rw [r1, nI_1, e_wideD]
    have r2 : (sI (sI M 50 0 (fd f) v) 30 0 31 (nI (fd f + 1))).1 30 0 32 = nI (wt f) := by
      rw [sI1, if_neg (by omega), sI1, if_neg (by omega)]
      exact h3
    rw [r2]
    unfold wid
    by_cases c : v = 3 ∨ v = 4
    · rw [if_pos c, if_neg (by decide), lt_v, show (2 : Int32) = nI 2 from rfl, nI_add, if_pos c]
    · rw [if_neg c, if_pos rfl, lt_v, nI_1, if_neg c]
  · refine ⟨by show fd f + 1 ≤ 16; omega, ?_, ?_, fun j hj => ?_, fun j hj => ?_, h6, h7, fun b hb hq => ?_⟩
    · rw [sI1, if_neg (by omega), sI1, if_pos ⟨rfl, rfl, rfl⟩]
    · rw [sI1, if_pos ⟨rfl, rfl, rfl⟩, wt_psh]
    · rw [sI1, if_neg (by omega), sI1, if_neg (by omega), sI1, if_neg (by omega)]
      exact h4 j hj
    · have hj' : j < fd f + 1 := hj
      rw [sI1, if_neg (by omega), sI1, if_neg (by omega), sI1]
      show _ = upd (fs f) (fd f) v j
      by_cases q2 : j = fd f
      · subst q2
        rw [if_pos ⟨rfl, rfl, rfl⟩, pk_us]
      · rw [if_neg (fun z => q2 z.2.2), pk_un q2]
        exact h5 j (by omega)
    · rw [sI1, if_neg (by omega), sI1, if_neg (by omega), sI1, if_neg (by omega)]
      exact h8 b hb hq
theorem wt_drp {f : Fr} (h : 0 < fd f) : wt f = wt (drp f 1) + wid (fs f (fd f - 1)) := by
  show wsum (fs f) (fd f) = wsum (fs f) (fd f - 1) + wid (fs f (fd f - 1))
  have e : fd f = (fd f - 1) + 1 := by omega
  rw [show wsum (fs f) (fd f) = wsum (fs f) ((fd f - 1) + 1) by rw [← e]]
  rfl
theorem e_dropD {M : Mm} {f : Fr} (h : Dh M f) (hd : 0 < fd f) : ∃ M', F_D_drop M = some M' ∧ Dh M' (drp f 1) ∧ KH M M' := by
  obtain ⟨h1, h2, h3, h4, h5, h6, h7, h8⟩ := h
  have hw := wsum_le2 (fs f) (fd f)
  have hwt : wt f = wsum (fs f) (fd f) := rfl
  refine ⟨sI (sI M 30 0 31 (nI (fd f - 1))) 30 0 32 (nI (wt (drp f 1))), ?_, ?_, kx_i (kx_i KX.rf (by omega)) (by omega)⟩
  · unfold F_D_drop
    rw [h2, show (1 : Int32) = nI 1 from rfl, pk_sub (by omega), lt_v]
    have r1 : (sI M 30 0 31 (nI (fd f - 1))).1 30 0 31 = nI (fd f - 1) := by
      rw [sI1, if_pos ⟨rfl, rfl, rfl⟩]
    have r2 : (sI M 30 0 31 (nI (fd f - 1))).1 50 0 (fd f - 1) = fs f (fd f - 1) := by
      rw [sI1, if_neg (by omega)]
      exact h5 _ (by omega)
    have r3 : (sI M 30 0 31 (nI (fd f - 1))).1 30 0 32 = nI (wt f) := by
      rw [sI1, if_neg (by omega)]
      exact h3
    rw [r1, bnd_nI (by omega) (by decide), lt_v, nI_clamp (by omega), r2, e_wideD, r3]
    have e := wt_drp hd
    unfold wid at e
    by_cases c : fs f (fd f - 1) = 3 ∨ fs f (fd f - 1) = 4
    · rw [if_pos c] at e
      rw [if_pos c, if_neg (by decide), lt_v, show (2 : Int32) = nI 2 from rfl, pk_sub (by omega)]
      rw [show wt f - 2 = wt (drp f 1) by omega]
    · rw [if_neg c] at e
      rw [if_neg c, if_pos rfl, lt_v, pk_sub (by omega)]
      rw [show wt f - 1 = wt (drp f 1) by omega]
  · refine ⟨by show fd f - 1 ≤ 16; omega, ?_, ?_, fun j hj => ?_, fun j hj => ?_, h6, h7, fun b hb hq => ?_⟩
    · rw [sI1, if_neg (by omega), sI1, if_pos ⟨rfl, rfl, rfl⟩]
    · rw [sI1, if_pos ⟨rfl, rfl, rfl⟩]
    · rw [sI1, if_neg (by omega), sI1, if_neg (by omega)]
      exact h4 j hj
    · have hj' : j < fd f - 1 := hj
      rw [sI1, if_neg (by omega), sI1, if_neg (by omega)]
      exact h5 j (by omega)
    · rw [sI1, if_neg (by omega), sI1, if_neg (by omega)]
      exact h8 b hb hq
/-- taking what is on top, if it is right -/
abbrev Tk (p : Prop) (f : Fr) (M : Mm) (o : Option (Int32 × Mm)) : Prop := (p → ∃ M', o = some (1, M') ∧ Dh M' (drp f 1) ∧ KH M M') ∧ (¬ p → o = some (0, M))
theorem fd0 {M : Mm} {f : Fr} (h : Dh M f) : M.1 30 0 31 = 0 ↔ fd f = 0 := by
  have h1 := h.1
  rw [h.2.1]
  exact nI_eqz (by omega)
theorem e_takes {M : Mm} {f : Fr} {v : Int32} (h : Dh M f) (hv : ¬ v = -1) : Tk (tp f 0 = v) f M (F_D_takes v M) := by
  unfold F_D_takes
  have et : F_D_top 0 M = some (tp f 0, M) := e_topD (e := 0) h (by omega)
  constructor
  · intro p
    have hd : 0 < fd f := tp_in (fun z => hv (by rw [← p, z]))
    obtain ⟨M', e1, e2, e3⟩ := e_dropD h hd
    rw [if_neg (fun z => by have := (fd0 h).mp z; omega), et, bd_some, if_pos p, e1]
    exact ⟨M', rfl, e2, e3⟩
  · intro p
    by_cases c : fd f = 0
    · rw [if_pos ((fd0 h).mpr c)]
    · rw [if_neg (fun z => c ((fd0 h).mp z)), et, bd_some, if_neg p]
theorem gs_m1 {n : Nat} {sup : Nat → Nat} {fc : Nat → Int32} {v : Int32} (hv : ¬ v = -1) : gs n sup fc (-1) v = false := by
  unfold gs
  rw [if_neg (fun z => hv z.symm)]
  split
  · rw [if_neg (by decide), rf_neg (by decide), if_neg (by decide)]
  · rfl
theorem e_takesFor {n : Nat} {sup : Nat → Nat} {fc : Nat → Int32} {M : Mm} {f : Fr} {v : Int32} (hT : TOk n sup fc) (hR : TRe n sup fc M) (h : Dh M f) (hv : ¬ v = -1) : Tk (gs n sup fc (tp f 0) v = true) f M (F_D_takesFor v M) := by
  unfold F_D_takesFor
  have et : F_D_top 0 M = some (tp f 0, M) := e_topD (e := 0) h (by omega)
  constructor
  · intro p
    have hd : 0 < fd f := tp_in (fun z => by rw [z, gs_m1 hv] at p; cases p)
    obtain ⟨M', e1, e2, e3⟩ := e_dropD h hd
    rw [if_neg (fun z => by have := (fd0 h).mp z; omega), et, bd_some, e_goesD hT hR, bd_some, p, if_pos rfl, if_neg (by decide), e1]
    exact ⟨M', rfl, e2, e3⟩
  · intro p
    by_cases c : fd f = 0
    · rw [if_pos ((fd0 h).mpr c)]
    · rw [if_neg (fun z => c ((fd0 h).mp z)), et, bd_some, e_goesD hT hR, bd_some, if_neg p, if_pos rfl]
theorem e_takesRef {n : Nat} {sup : Nat → Nat} {fc : Nat → Int32} {M : Mm} {f : Fr} (hT : TOk n sup fc) (hR : TRe n sup fc M) (h : Dh M f) : Tk (tp f 0 = 5 ∨ rf n (tp f 0) = true) f M (F_D_takesRef M) := by
  unfold F_D_takesRef F_D_takesRef_b30
  have et : F_D_top 0 M = some (tp f 0, M) := e_topD (e := 0) h (by omega)
  constructor
  · intro p
    have hd : 0 < fd f := tp_in (fun z => by
      rcases p with p | p
      · rw [z] at p
        exact absurd p (by decide)
      · rw [z, rf_neg (by decide)] at p
        cases p)
    obtain ⟨M', e1, e2, e3⟩ := e_dropD h hd
    rw [if_neg (fun z => by have := (fd0 h).mp z; omega), et, bd_some]
    by_cases c : tp f 0 = 5
    · rw [if_pos c, e1]
      exact ⟨M', rfl, e2, e3⟩
    · rw [if_neg c, et, bd_some, lt_v, e_isRefD hT hR, p.resolve_left c, if_pos rfl, if_neg (by decide), e1]
      exact ⟨M', rfl, e2, e3⟩
  · intro p
    by_cases c : fd f = 0
    · rw [if_pos ((fd0 h).mpr c)]
    · rw [if_neg (fun z => c ((fd0 h).mp z)), et, bd_some, if_neg (fun z => p (Or.inl z)), et, bd_some, lt_v, e_isRefD hT hR, if_neg (fun z => p (Or.inr z)), if_pos rfl]
theorem e_takesRow {M : Mm} {f : Fr} {v : Int32} (h : Dh M f) (hv : ¬ v = -1) : Tk (tp f 0 = v ∨ tp f 0 = 5) f M (F_D_takesRow v M) := by
  unfold F_D_takesRow
  have t1 := e_takes h hv
  have t2 := e_takes (v := 5) h (by decide)
  constructor
  · intro p
    by_cases c : tp f 0 = v
    · obtain ⟨M', e1, e2, e3⟩ := t1.1 c
      rw [e1, bd_some, if_neg (by decide)]
      exact ⟨M', rfl, e2, e3⟩
    · obtain ⟨M', e1, e2, e3⟩ := t2.1 (p.resolve_left c)
      rw [t1.2 c, bd_some, if_pos rfl, e1, bd_some, if_neg (by decide)]
      exact ⟨M', rfl, e2, e3⟩
  · intro p
    rw [t1.2 (fun z => p (Or.inl z)), bd_some, if_pos rfl, t2.2 (fun z => p (Or.inr z)), bd_some, if_pos rfl]
theorem msk2 : ∀ a, a < 12 → (1 : Int32) <<< (nI a &&& 31) ||| (2 : Int32) <<< (nI a &&& 31) = (3 : Int32) <<< (nI a &&& 31) := by decide +kernel
theorem orr0 (x : Int32) : x ||| 0 = x := by
  apply b_ext
  intro i _
  rw [b_or, b_0, Bool.or_false]
theorem e_touches {a : Nat} {t : Int32} {f : Fr} {M : Mm} (h : Dh M f) (ha : a < 12) : ∃ M', F_D_touches (nI a) t M = some M' ∧ Dh M' (tch f (msk a t)) ∧ KH M M' := by
  obtain ⟨h1, h2, h3, h4, h5, h6, h7, h8⟩ := h
  have key : ∃ s : Unit, True ∧ F_D_touches (nI a) t M = some (rg M 51 0 0 48 (fun b => if bq (fb f) b then M.1 51 0 b ||| msk a t else M.1 51 0 b)) := by
    refine (lpR (σ := Unit) (L := fun n i _ M => F_D_touches_b2 n (nI a) t i M) (t := 51) (lo := 0) (N := 48) (v := fun b => if bq (fb f) b then M.1 51 0 b ||| msk a t else M.1 51 0 b) (Q := fun j _ M' => M'.2 30 0 39 = fb f ∧ ∀ b, j ≤ b → M'.1 51 0 b = M.1 51 0 b) (fin := fun _ M => some M) (fun n j s M' hj q => ?_) (fun n s M' q => ?_) fuel 0 () M (by show 48 < 0 + 100000; omega) (by omega) ⟨h6, fun _ _ => rfl⟩).elim (fun s q => ⟨(), trivial, q.2⟩)
    · refine ⟨(), ⟨q.1, fun b hb => ?_⟩, ?_⟩
      · rw [sI1, if_neg (by omega)]
        exact q.2 b (by omega)
      · show F_D_touches_b2 (n + 1) (nI a) t (nI j) M' = F_D_touches_b2 n (nI a) t (nI (j + 1)) _
        rw [F_D_touches_b2, if_neg (ge48 hj), q.1, Nat.zero_add]
        have e := bq_t1 (x := fb f) (b := j) (by omega)
        cases w : bq (fb f) j
        · rw [if_neg (fun z => by rw [e.mp z] at w; cases w), if_neg (show ¬ false = true by decide), F_D_touches_b48, lt_v, nI_1, ← q.2 j (Nat.le_refl j), sI_same]
        · rw [if_pos (rfl : true = true), if_pos (e.mpr w), bnd_nI hj (by decide), lt_v, e_wideD, nI_clamp (by omega), q.2 j (Nat.le_refl j)]
          unfold msk
          by_cases c : t = 3 ∨ t = 4
          · rw [if_pos c, if_neg (by decide), if_pos c, F_D_touches_b45, bnd_nI hj (by decide), lt_v, F_D_touches_b48, lt_v, nI_1, nI_clamp (by omega), msk2 a ha]
          · rw [if_neg c, if_pos rfl, if_neg c, F_D_touches_b45, bnd_nI hj (by decide), lt_v, F_D_touches_b48, lt_v, nI_1, nI_clamp (by omega), orr0]
    · show F_D_touches_b2 (n + 1) (nI a) t (nI 48) M' = _
      rw [F_D_touches_b2, if_pos le48]
  obtain ⟨_, _, e⟩ := key
  refine ⟨_, e, ⟨h1, ?_, ?_, fun j hj => ?_, fun j hj => ?_, h6, h7, fun b hb hq => ?_⟩, kx_g KX.rf (fun c _ _ => by omega)⟩
  · rw [rg_out (by omega)]
    exact h2
  · rw [rg_out (by omega)]
    exact h3
  · rw [rg_out (by omega)]
    exact h4 j hj
  · rw [rg_out (by omega)]
    exact h5 j hj
  · have := rg_in (M := M) (t := 51) (lo := 0) (N := 48) (v := fun b => if bq (fb f) b then M.1 51 0 b ||| msk a t else M.1 51 0 b) hb
    rw [Nat.zero_add] at this
    have hq' : bq (fb f) b = true := hq
    rw [this, if_pos hq', h8 b hb hq']
abbrev Sco (t k : Nat) : Prop := (52 ≤ t ∧ t ≤ 54) ∨ (t = 30 ∧ k = 33)
abbrev Sco2 (t k : Nat) : Prop := t = 30 ∧ k = 40
theorem e_copyOut {f : Fr} {M : Mm} (h : Dh M f) (hd : fd f ≤ 12) : ∃ M', F_D_copyOut M = some M' ∧ Dt M' f ∧ KX Sco Sco2 M M' := by
  obtain ⟨h1, h2, h3, h4, h5, h6, h7, h8⟩ := h
  have a1 : ∀ M1 : Mm, F_D_copyOut_b56 fuel 0 M1 = (fun M => some (sL (sI M 30 0 33 (M.1 30 0 31)) 30 0 40 ((sI M 30 0 33 (M.1 30 0 31)).2 30 0 39))) (rg M1 54 0 0 48 (fun j => M1.1 51 0 j)) := by
    intro M1
    refine lpR0 (L := fun n i M => F_D_copyOut_b56 n i M) (Q := fun M => ∀ j, M.1 51 0 j = M1.1 51 0 j) (fin := fun M => some (sL (sI M 30 0 33 (M.1 30 0 31)) 30 0 40 ((sI M 30 0 33 (M.1 30 0 31)).2 30 0 39))) (fun M c x q j => ?_) (fun n j M hj q => ?_) (fun n M q => ?_) fuel M1 (by show 48 < 100000; omega) (fun _ => rfl)
    · rw [sI1, if_neg (by omega)]
      exact q j
    · show F_D_copyOut_b56 (n + 1) (nI j) M = F_D_copyOut_b56 n (nI (j + 1)) _
      rw [F_D_copyOut_b56, if_neg (ge48 hj), bnd_nI hj (by decide), bnd_nI hj (by decide), lt_v, lt_v, nI_clamp (by omega), q j, nI_1, Nat.zero_add]
    · show F_D_copyOut_b56 (n + 1) (nI 48) M = _
      rw [F_D_copyOut_b56, if_pos le48]
      rfl
  have a2 : ∀ M1 : Mm, M1.1 30 0 31 = nI (fd f) → F_D_copyOut_b28 fuel 0 M1 = F_D_copyOut_b56 fuel 0 (rg M1 53 0 0 (fd f) (fun j => M1.1 50 0 j)) := by
    intro M1 hd1
    refine lpR0 (L := fun n i M => F_D_copyOut_b28 n i M) (Q := fun M => M.1 30 0 31 = nI (fd f) ∧ ∀ j, M.1 50 0 j = M1.1 50 0 j) (fin := fun M => F_D_copyOut_b56 fuel 0 M) (fun M c x q => ⟨?_, fun j => ?_⟩) (fun n j M hj q => ?_) (fun n M q => ?_) fuel M1 (by show fd f < 100000; omega) ⟨hd1, fun _ => rfl⟩
    · rw [sI1, if_neg (by omega)]
      exact q.1
    · rw [sI1, if_neg (by omega)]
      exact q.2 j
    · show F_D_copyOut_b28 (n + 1) (nI j) M = F_D_copyOut_b28 n (nI (j + 1)) _
      rw [F_D_copyOut_b28, q.1, if_neg (nI_ge hj (by omega)), bnd_nI (by omega) (by decide), bnd_nI (by omega) (by decide), lt_v, lt_v, nI_clamp (by omega), q.2 j, nI_1, Nat.zero_add]
    · show F_D_copyOut_b28 (n + 1) (nI (fd f)) M = _
      rw [F_D_copyOut_b28, q.1, if_pos (nI_le (Nat.le_refl _) (by omega))]
  have a3 : F_D_copyOut_b2 fuel 0 M = F_D_copyOut_b28 fuel 0 (rg M 52 0 0 12 (fun j => M.1 49 0 j)) := by
    refine lpR0 (L := fun n i M => F_D_copyOut_b2 n i M) (Q := fun M' => ∀ j, M'.1 49 0 j = M.1 49 0 j) (fin := fun M => F_D_copyOut_b28 fuel 0 M) (fun M c x q j => ?_) (fun n j M hj q => ?_) (fun n M q => ?_) fuel M (by show 12 < 100000; omega) (fun _ => rfl)
    · rw [sI1, if_neg (by omega)]
      exact q j
    · show F_D_copyOut_b2 (n + 1) (nI j) M = F_D_copyOut_b2 n (nI (j + 1)) _
      rw [F_D_copyOut_b2, if_neg (ge12 hj), bnd_nI (by omega) (by decide), bnd_nI hj (by decide), lt_v, lt_v, nI_clamp (by omega), q j, nI_1, Nat.zero_add]
    · show F_D_copyOut_b2 (n + 1) (nI 12) M = _
      rw [F_D_copyOut_b2, if_pos le12]
  unfold F_D_copyOut
  rw [a3, a2 _ (by rw [rg_out (by omega)]; exact h2), a1]
  refine ⟨_, rfl, ⟨hd, ?_, fun j hj => ?_, fun j hj => ?_, ?_, h7, fun b hb hq => ?_⟩, kx_l (kx_i (kx_g (kx_g (kx_g KX.rf (fun c _ _ => by omega)) (fun c _ _ => by omega)) (fun c _ _ => by omega)) (by omega)) ⟨rfl, rfl⟩⟩
  · rw [sL1, sI1, if_pos ⟨rfl, rfl, rfl⟩, rg_out (by omega), rg_out (by omega), rg_out (by omega)]
    exact h2
  · rw [sL1, sI1, if_neg (by omega), rg_out (by omega), rg_out (by omega)]
    have := rg_in (M := M) (t := 52) (lo := 0) (N := 12) (v := fun j => M.1 49 0 j) hj
    rw [Nat.zero_add] at this
    rw [this]
    exact h4 j hj
  · rw [sL1, sI1, if_neg (by omega), rg_out (by omega)]
    have := rg_in (M := rg M 52 0 0 12 (fun j => M.1 49 0 j)) (t := 53) (lo := 0) (N := fd f) (v := fun j => (rg M 52 0 0 12 (fun j => M.1 49 0 j)).1 50 0 j) hj
    rw [Nat.zero_add] at this
    rw [this, rg_out (by omega)]
    exact h5 j hj
  · rw [sL2, if_pos ⟨rfl, rfl, rfl⟩]
    exact h6
  · rw [sL1, sI1, if_neg (by omega)]
    have := rg_in (M := rg (rg M 52 0 0 12 (fun j => M.1 49 0 j)) 53 0 0 (fd f) (fun j => (rg M 52 0 0 12 (fun j => M.1 49 0 j)).1 50 0 j)) (t := 54) (lo := 0) (N := 48) (v := fun j => (rg (rg M 52 0 0 12 (fun j => M.1 49 0 j)) 53 0 0 (fd f) (fun j => (rg M 52 0 0 12 (fun j => M.1 49 0 j)).1 50 0 j)).1 51 0 j) hb
    rw [Nat.zero_add] at this
    rw [this, rg_out (by omega), rg_out (by omega)]
    exact h8 b hb hq
theorem Dh_cg {M M' : Mm} {f : Fr} (h : Dh M f) (e1 : ∀ t k, (t = 49 ∨ t = 50 ∨ t = 51 ∨ (t = 30 ∧ (k = 31 ∨ k = 32))) → M'.1 t 0 k = M.1 t 0 k) (e2 : M'.2 30 0 39 = M.2 30 0 39) : Dh M' f := by
  obtain ⟨h1, h2, h3, h4, h5, h6, h7, h8⟩ := h
  refine ⟨h1, ?_, ?_, fun j hj => ?_, fun j hj => ?_, ?_, h7, fun b hb hq => ?_⟩
  · rw [e1 _ _ (by omega)]
    exact h2
  · rw [e1 _ _ (by omega)]
    exact h3
  · rw [e1 _ _ (by omega)]
    exact h4 j hj
  · rw [e1 _ _ (by omega)]
    exact h5 j hj
  · rw [e2]
    exact h6
  · rw [e1 _ _ (by omega)]
    exact h8 b hb hq
