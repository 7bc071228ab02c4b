abbrev ctc (f : Fr) (v : Int32) : Fr := (fl f, fun _ => v, 1, fb f, ft f)
theorem e_catch {i j : Nat} {v : Int32} {f : Fr} {M : Mm} (h : Cf M j f) (hij : ¬ i = j) : ∃ M', F_R_catchIn i j v M = some M' ∧ Cf M' i (ctc f v) ∧ KF i M M' := by
  obtain ⟨M1, e1, e2, e3⟩ := e_copy h hij
  refine ⟨sI (sI M1 21 i 0 v) 19 i 2 1, ?_, ?_, (e3.tr (KF.sI (by omega))).tr (KF.sI (by omega))⟩
  · unfold F_R_catchIn
    rw [e1, bv_some, bnd_ok (by unfold vp_in; decide)]
    rfl
  · obtain ⟨h1, h2, h3, h4, h5, h6, h7⟩ := e2
    refine ⟨by show 1 ≤ 12; omega, ?_, fun a ha => ?_, fun a ha => ?_, h5, h6, fun b hb => ?_⟩
    · simp [sI1]
      rfl
    · simp [sI1]
      exact h3 a ha
    · have ha' : a < 1 := ha
      have : a = 0 := by omega
      subst this
      simp [sI1]
    · simp [sI1]
      exact h7 b hb
abbrev cmL (h t : Fr) (b : Nat) : Fr := (fun j => if bt (ft h b) j then fl h j else fl t j, fs h, fd h, fb t, ft t)
abbrev cmb (h t : Fr) (b : Nat) : Fr := rep (tch (cmL h t b) (ft h b)) (2000 + nI b) 0
theorem e_cb_lp {b : Nat} {h t : Fr} {M0 : Mm} {i : Nat} (hi : ¬ i = 0) (h0 : Cf M0 0 h) (hb : b < 48) : ∀ n j M, 12 < j + n → j ≤ 12 → KF i M0 M → fd h ≤ 12 → M.1 19 i 2 = nI (fd h) → (∀ k, k < 12 → M.1 20 i k = if k < j ∧ bt (ft h b) k = true then fl h k else fl t k) → (∀ k, k < fd h → M.1 21 i k = fs h k) → M.2 19 i 3 = fb t → (∀ c, 48 ≤ c → bq (fb t) c = false) → (∀ c, c < 48 → M.1 22 i c = if bq (fb t) c then ft t c else 0) → ∃ M', F_R_comeBack_b39 n i 0 (nI b) (ft h b) (nI j) M = some M' ∧ Cf M' i (cmb h t b) ∧ KF i M0 M' := by
  intro n
  induction n with
  | zero =>
    intro j M q1 q2
    omega
  | succ n ih =>
    intro j M q1 q2 k1 k2 k3 k4 k5 k6 k7 k8
    rw [F_R_comeBack_b39]
    by_cases c : j = 12
    · subst c
      rw [if_pos (show (12 : Int32) ≤ nI 12 by decide)]
      have hC : Cf M i (cmL h t b) := ⟨k2, k3, fun k hk => by
        rw [k4 k hk]
        simp [hk], k5, k6, k7, k8⟩
      obtain ⟨M1, a1, a2, a3⟩ := e_touchAll (m := ft h b) hC
      obtain ⟨M2, b1, b2, b3⟩ := e_replace (t := 2000 + nI b) (u := 0) a2
      rw [a1, bv_some, b1, bv_some]
      exact ⟨M2, rfl, b2, (k1.tr a3).tr b3⟩
    · have hj : j < 12 := by omega
      rw [if_neg (show ¬ (12 : Int32) ≤ nI j from nI_ge (b := 12) hj (by decide))]
      have e := bt_test (x := ft h b) (d := j) (by omega)
      cases q : bt (ft h b) j
      · rw [if_pos (e.mpr q), F_R_comeBack_b70, lt_v, nI_1]
        refine ih (j + 1) M (by omega) (by omega) k1 k2 k3 (fun k hk => ?_) k5 k6 k7 k8
        rw [k4 k hk]
        have e2 : (k < j ∧ bt (ft h b) k = true) ↔ (k < j + 1 ∧ bt (ft h b) k = true) := by
          constructor
          · exact fun z => ⟨by omega, z.2⟩
          · intro z
            refine ⟨?_, z.2⟩
            have : ¬ k = j := fun w => by rw [w, q] at z; cases z.2
            omega
        simp only [e2]
      · rw [if_neg (fun z => by rw [e.mp z] at q; cases q), bnd_nI hj (by decide), bnd_nI hj (by decide), lt_v, nI_clamp (by omega), F_R_comeBack_b70, lt_v, nI_1]
        have e3 : M.1 20 0 j = fl h j := by
          rw [k1.1 20 0 j (fun z => hi z.2.2.symm)]
          exact h0.2.2.1 j hj
        rw [e3]
        refine ih (j + 1) _ (by omega) (by omega) (k1.tr (KF.sI (by omega))) k2 ?_ (fun k hk => ?_) (fun k hk => ?_) k6 k7 (fun c hc => ?_)
        · rw [sI1, if_neg (by omega)]
          exact k3
        · rw [sI1]
          by_cases w : k = j
          · subst w
            simp [q]
          · rw [if_neg (fun z => w z.2.2), k4 k hk]
            have e2 : (k < j ∧ bt (ft h b) k = true) ↔ (k < j + 1 ∧ bt (ft h b) k = true) := by
              constructor
              · exact fun z => ⟨by omega, z.2⟩
              · exact fun z => ⟨by omega, z.2⟩
            simp only [e2]
        · rw [sI1, if_neg (by omega)]
          exact k5 k hk
        · rw [sI1, if_neg (by omega)]
          exact k8 c hc
theorem e_comeBack {b j : Nat} {h t : Fr} {M : Mm} (h0 : Cf M 0 h) (ht : Cf M j t) (hj : ¬ 1 = j) (hb : b < 48) (hin : bq (fb h) b = true) : ∃ M', F_R_comeBack 1 0 j (nI b) M = some M' ∧ Cf M' 1 (cmb h t b) ∧ KF 1 M M' := by
  obtain ⟨M1, e1, e2, e3⟩ := e_copy (i := 1) ht hj
  have h0' : Cf M1 0 h := h0.kp e3 (by decide)
  unfold F_R_comeBack
  rw [e1, bv_some, lt_v, lt_v, bnd_nI hb (by decide), lt_v, nI_clamp (by omega)]
  have z0 : (0 : Int32).toNatClampNeg = 0 := by decide
  have z12 : (12 : Int32).toNatClampNeg = 12 := by decide
  rw [z0, z12]
  have r1 : (sA M1 21 1 (va_cpy (M1.1 21 0) (M1.1 21 1) 0 0 12)).1 19 0 2 = nI (fd h) := by
    simp [sA1]
    exact h0'.2.1
  rw [r1]
  have r2 : (sI (sA M1 21 1 (va_cpy (M1.1 21 0) (M1.1 21 1) 0 0 12)) 19 1 2 (nI (fd h))).1 22 0 b = ft h b := by
    simp [sI1, sA1]
    rw [h0'.2.2.2.2.2.2 b hb, hin, if_pos rfl]
  rw [r2]
  have hk1 : KF 1 M (sI (sA M1 21 1 (va_cpy (M1.1 21 0) (M1.1 21 1) 0 0 12)) 19 1 2 (nI (fd h))) := (e3.tr (KF.sA (by omega))).tr (KF.sI (by omega))
  obtain ⟨t1, t2, t3, t4, t5, t6, t7⟩ := e2
  refine e_cb_lp (i := 1) (t := t) (by decide) h0 hb fuel 0 _ (by show 12 < 0 + 100000; omega) (by omega) hk1 h0.1 ?_ (fun k hk => ?_) (fun k hk => ?_) ?_ t6 (fun c hc => ?_)
  · simp [sI1]
  · simp [sI1, sA1]
    exact t3 k hk
  · have := h0.1
    simp [sI1, sA1]
    rw [cpyN (by omega)]
    exact h0'.2.2.2.1 k hk
  · exact t5
  · simp [sI1, sA1]
    exact t7 c hc
/-- LOCALS at the beginning, k ARGUMENTS laid: the next slot, the LOCALS -/
def argL (P : MT) : Nat → Nat × (Nat → Int32)
  | 0 => (0, fun _ => 0)
  | k + 1 => ((argL P k).1 + wid (P.2 7 k), upd (argL P k).2 (argL P k).1 (P.2 7 k))
abbrev st0 (P : MT) : Fr := ((argL P (pg P)).2, fun _ => 0, 0, 0, fun _ => 0)
theorem argL_m (P : MT) {a b : Nat} (h : a ≤ b) : (argL P a).1 ≤ (argL P b).1 := by
  induction b with
  | zero =>
    have : a = 0 := by omega
    subst this
    exact Nat.le_refl _
  | succ b ih =>
    by_cases q : a = b + 1
    · subst q
      exact Nat.le_refl _
    · have := ih (by omega)
      show (argL P a).1 ≤ (argL P b).1 + wid (P.2 7 b)
      omega
theorem e_start_lp {P : MT} {i : Nat} {M0 : Mm} (hP : MOk P) (hM : CMe P M0) (hr : (argL P (pg P)).1 ≤ 12) : ∀ n k M, pg P < k + n → k ≤ pg P → KF i M0 M → M.1 19 i 2 = nI 0 → (∀ j, j < 12 → M.1 20 i j = (argL P k).2 j) → M.2 19 i 3 = 0 → (∀ b, b < 48 → M.1 22 i b = 0) → ∃ M', F_R_start_b30 n i (nI (argL P k).1) (nI k) M = some M' ∧ Cf M' i (st0 P) ∧ KF i M0 M' := by
  obtain ⟨a1, a2, a3, a4, a5, a6, a7, a8⟩ := hP
  obtain ⟨b1, b2, b3, b4, b5, b6, b7, b8, b9⟩ := hM
  intro n
  induction n with
  | zero =>
    intro k M q1 q2
    omega
  | succ n ih =>
    intro k M q1 q2 k1 k2 k3 k4 k5
    rw [F_R_start_b30, k1.1 4 0 10 (by omega), b3]
    by_cases c : k = pg P
    · subst c
      rw [if_pos (nI_le (Nat.le_refl _) (by omega))]
      refine ⟨M, rfl, ⟨by show 0 ≤ 12; omega, k2, k3, fun a ha => absurd ha (Nat.not_lt_zero a), k4, fun b hb => bq_0 b, fun b hb => ?_⟩, k1⟩
      rw [k5 b hb]
      show 0 = if bq 0 b = true then 0 else 0
      simp
    · have m1 := argL_m P (show k + 1 ≤ pg P by omega)
      have m2 : (argL P (k + 1)).1 = (argL P k).1 + wid (P.2 7 k) := rfl
      have m3 := (wid_1 (P.2 7 k)).1
      rw [if_neg (nI_ge (by omega) (by omega)), if_neg (show ¬ (12 : Int32) ≤ nI (argL P k).1 from nI_ge (b := 12) (by omega) (by decide)), bnd_nI (by omega) (by decide), bnd_nI (by omega) (by decide), lt_v, bnd_nI (by omega) (by decide), lt_v, lt_v, lt_v, nI_clamp (by omega), nI_clamp (by omega)]
      have e1 : M.1 12 0 k = P.2 7 k := by
        rw [k1.1 12 0 k (by omega)]
        exact b9 k (by omega)
      have e2 : (sI M 20 i (argL P k).1 (M.1 12 0 k)).1 12 0 k = P.2 7 k := by
        rw [sI1, if_neg (by omega)]
        exact e1
      rw [e2, e1, e_width, nI_add, nI_1, ← m2]
      refine ih (k + 1) _ (by omega) (by omega) (k1.tr (KF.sI (by omega))) ?_ (fun j hj => ?_) k4 (fun b hb => ?_)
      · rw [sI1, if_neg (by omega)]
        exact k2
      · rw [sI1]
        show _ = upd (argL P k).2 (argL P k).1 (P.2 7 k) j
        by_cases q : j = (argL P k).1
        · rw [q, if_pos ⟨rfl, rfl, rfl⟩, pk_us]
        · rw [if_neg (fun z => q z.2.2), pk_un q]
          exact k3 j hj
      · rw [sI1, if_neg (by omega)]
        exact k5 b hb
theorem e_start {P : MT} {i : Nat} {M : Mm} (hP : MOk P) (hM : CMe P M) (hr : (argL P (pg P)).1 ≤ 12) : ∃ M', F_R_start i M = some M' ∧ Cf M' i (st0 P) ∧ KF i M M' := by
  unfold F_R_start F_fillI
  simp only [lt_v]
  have n20 : nf 20 = 12 := rfl
  have n22 : nf 22 = 48 := rfl
  rw [n20, n22]
  refine e_start_lp (i := i) hP hM hr fuel 0 _ (by have := hP.2.2.1; show pg P < 0 + 100000; omega) (by omega) ((((KF.sA (by omega)).tr (KF.sA (by omega))).tr (KF.sI (by omega))).tr KF.sL) ?_ (fun j hj => ?_) ?_ (fun b hb => ?_)
  · simp [sL1, sI1]
    rfl
  · simp [sL1, sI1, sA1, hj]
    rfl
  · simp [sL2]
  · simp [sL1, sI1, sA1, hb]
