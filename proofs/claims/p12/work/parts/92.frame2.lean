theorem cpyN {f g : Nat → Int32} {N j : Nat} (hj : j < N) : va_cpy f g 0 0 N j = f j := by
  rw [pk_cpy_in (by omega) (by omega)]
  congr 1
  omega
theorem e_copy {i j : Nat} {M : Mm} {f : Fr} (h : Cf M j f) (hij : ¬ i = j) : ∃ M', F_R_copy i j M = some M' ∧ Cf M' i f ∧ KF i M M' := by
  refine ⟨_, rfl, ?_, ((((KF.sA (by omega)).tr (KF.sA (by omega))).tr (KF.sA (by omega))).tr (KF.sI (by omega))).tr KF.sL⟩
  obtain ⟨h1, h2, h3, h4, h5, h6, h7⟩ := h
  have hji : ¬ j = i := fun q => hij q.symm
  refine ⟨h1, ?_, fun a ha => ?_, fun a ha => ?_, ?_, h6, fun b hb => ?_⟩
  · simp [sL1, sI1, sA1]
    exact h2
  · simp [sL1, sI1, sA1]
    rw [cpyN ha]
    exact h3 a ha
  · simp [sL1, sI1, sA1]
    rw [cpyN (by omega)]
    simp [sA1]
    exact h4 a ha
  · simp [sL2, sI2, sA2]
    exact h5
  · simp [sL1, sI1, sA1]
    rw [cpyN hb]
    simp [sA1]
    exact h7 b hb
/-- nothing is set from bit j on -/
theorem shr0 {x : Int64} {b : Nat} (hb : b < 64) (h63 : bq x 63 = false) : lg_cmp (x >>> ((nI b).toInt64 &&& 63)) 0 = 0 ↔ ∀ k, b ≤ k → k < 64 → bq x k = false := by
  rw [cmp0]
  constructor
  · intro e k h1 h2
    have := congrArg (fun z => bq z (k - b)) e
    simp only [bq_0] at this
    rw [bq_shr b hb x (by omega), if_pos (by omega), show b + (k - b) = k by omega] at this
    exact this
  · intro e
    apply bq_ext
    intro k hk
    rw [bq_shr b hb x hk, bq_0]
    by_cases q : b + k < 64
    · rw [if_pos q]
      exact e (b + k) (by omega) q
    · rw [if_neg q]
      exact h63
abbrev tch (f : Fr) (m : Int32) : Fr := (fl f, fs f, fd f, fb f, fun b => ft f b ||| m)
theorem e_touchAll_lp {i : Nat} {m : Int32} {f : Fr} {M0 : Mm} (h : Cf M0 i f) : ∀ n j M, 48 < j + n → j ≤ 48 → KF i M0 M → (∀ t k, ¬ t = 22 → M.1 t i k = M0.1 t i k) → M.2 19 i 3 = fb f → (∀ b, b < 48 → M.1 22 i b = if bq (fb f) b then (if b < j then ft f b ||| m else ft f b) else 0) → ∃ M', F_R_touchAll_b2 n i m (nI j) M = some M' ∧ Cf M' i (tch f m) ∧ KF i M0 M' := by
  obtain ⟨h1, h2, h3, h4, h5, h6, h7⟩ := h
  have h63 : bq (fb f) 63 = false := h6 63 (by omega)
  have fin : ∀ M, KF i M0 M → (∀ t k, ¬ t = 22 → M.1 t i k = M0.1 t i k) → M.2 19 i 3 = fb f → (∀ b, b < 48 → M.1 22 i b = if bq (fb f) b then ft f b ||| m else 0) → Cf M i (tch f m) := by
    intro M k1 k2 k3 k4
    refine ⟨h1, ?_, fun a ha => ?_, fun a ha => ?_, k3, h6, k4⟩
    · rw [k2 19 2 (by omega)]
      exact h2
    · rw [k2 20 a (by omega)]
      exact h3 a ha
    · rw [k2 21 a (by omega)]
      exact h4 a ha
  intro n
  induction n with
  | zero =>
    intro j M q1 q2
    omega
  | succ n ih =>
    intro j M q1 q2 k1 k2 k3 k4
    rw [F_R_touchAll_b2]
    by_cases c : j = 48
    · subst c
      rw [if_pos (show (48 : Int32) ≤ nI 48 by decide)]
      refine ⟨M, rfl, fin M k1 k2 k3 (fun b hb => ?_), k1⟩
      rw [k4 b hb, if_pos hb]
    · rw [if_neg (show ¬ (48 : Int32) ≤ nI j from nI_ge (b := 48) (by omega) (by decide)), k3]
      by_cases c2 : ∀ k, j ≤ k → k < 64 → bq (fb f) k = false
      · rw [if_pos ((shr0 (by omega) h63).mpr c2)]
        refine ⟨M, rfl, fin M k1 k2 k3 (fun b hb => ?_), k1⟩
        rw [k4 b hb]
        by_cases q : b < j
        · rw [if_pos q]
        · rw [c2 b (by omega) (by omega)]
          rfl
      · rw [if_neg (fun z => c2 ((shr0 (by omega) h63).mp z)), lt_v]
        have e1 : P_R_isIn i (nI j) M = if bq (fb f) j then 1 else 0 := by
          unfold P_R_isIn
          rw [k3]
          have e := bq_t0 (x := fb f) (b := j) (by omega)
          cases q : bq (fb f) j
          · rw [if_pos (e.mpr q)]
            rfl
          · rw [if_neg (fun z => by rw [e.mp z] at q; cases q)]
            rfl
        cases q : bq (fb f) j
        · have e2 : P_R_isIn i (nI j) M = 0 := by rw [e1, q]; rfl
          rw [e2, if_pos rfl, F_R_touchAll_b37, lt_v, nI_1]
          refine ih (j + 1) M (by omega) (by omega) k1 k2 k3 (fun b hb => ?_)
          rw [k4 b hb]
          by_cases q2 : b = j
          · subst q2
            rw [q]
            rfl
          · by_cases q3 : b < j
            · rw [if_pos q3, if_pos (show b < j + 1 by omega)]
            · rw [if_neg q3, if_neg (show ¬ b < j + 1 by omega)]
        · have e2 : P_R_isIn i (nI j) M = 1 := by rw [e1, q]; rfl
          rw [e2, if_neg (by decide), bnd_nI (by omega) (by decide), bnd_nI (by omega) (by decide), lt_v, nI_clamp (by omega), F_R_touchAll_b37, lt_v, nI_1]
          refine ih (j + 1) _ (by omega) (by omega) (k1.tr (KF.sI (by omega))) (fun t k ht => ?_) k3 (fun b hb => ?_)
          · rw [sI1, if_neg (fun z => ht z.1)]
            exact k2 t k ht
          · rw [sI1]
            by_cases q2 : b = j
            · subst q2
              rw [if_pos ⟨rfl, rfl, rfl⟩, k4 b hb, q, if_pos rfl, if_pos rfl, if_neg (by omega), if_pos (by omega)]
            · rw [if_neg (fun z => q2 z.2.2), k4 b hb]
              by_cases q3 : b < j
              · rw [if_pos q3, if_pos (show b < j + 1 by omega)]
              · rw [if_neg q3, if_neg (show ¬ b < j + 1 by omega)]
theorem e_touchAll {i : Nat} {m : Int32} {f : Fr} {M : Mm} (h : Cf M i f) : ∃ M', F_R_touchAll i m M = some M' ∧ Cf M' i (tch f m) ∧ KF i M M' := by
  unfold F_R_touchAll
  refine e_touchAll_lp (m := m) h fuel 0 M (by show 48 < 0 + 100000; omega) (by omega) KF.rf (fun _ _ _ => rfl) h.2.2.2.2.1 (fun b hb => ?_)
  rw [h.2.2.2.2.2.2 b hb]
  simp
def msk (a : Nat) (t : Int32) : Int32 := if t = 3 ∨ t = 4 then (3 : Int32) <<< (nI a &&& 31) else (1 : Int32) <<< (nI a &&& 31)
theorem e_touch {i a : Nat} {t : Int32} {f : Fr} {M : Mm} (h : Cf M i f) : ∃ M', F_R_touch i (nI a) t M = some M' ∧ Cf M' i (tch f (msk a t)) ∧ KF i M M' := by
  obtain ⟨M', e1, e2, e3⟩ := e_touchAll (m := msk a t) h
  refine ⟨M', ?_, e2, e3⟩
  unfold F_R_touch F_R_touch_b17
  rw [lt_v, e_wideC]
  unfold msk at e1
  by_cases c : t = 3 ∨ t = 4
  · rw [if_pos c] at e1
    rw [if_pos c, if_neg (by decide), e1]
    rfl
  · rw [if_neg c] at e1
    rw [if_neg c, if_pos rfl, e1]
    rfl
abbrev ent (f : Fr) (b : Nat) : Fr := (fl f, fs f, fd f, fb f ||| (1 : Int64) <<< ((nI b).toInt64 &&& 63), fun c => if c = b then 0 else ft f c)
theorem e_enter {i b : Nat} {f : Fr} {M : Mm} (h : Cf M i f) (hb : b < 48) : ∃ M', F_R_enter i (nI b) M = some M' ∧ Cf M' i (ent f b) ∧ KF i M M' := by
  refine ⟨sI (sL M 19 i 3 (fb f ||| (1 : Int64) <<< ((nI b).toInt64 &&& 63))) 22 i b 0, ?_, ?_, KF.sL.tr (KF.sI (by omega))⟩
  · unfold F_R_enter
    rw [lt_v, bnd_nI hb (by decide), lt_v, nI_clamp (by omega), h.2.2.2.2.1]
  · obtain ⟨h1, h2, h3, h4, h5, h6, h7⟩ := h
    refine ⟨h1, ?_, fun a ha => ?_, fun a ha => ?_, ?_, fun c hc => ?_, fun c hc => ?_⟩
    · rw [sI1, if_neg (by omega)]
      exact h2
    · rw [sI1, if_neg (by omega)]
      exact h3 a ha
    · rw [sI1, if_neg (by omega)]
      exact h4 a ha
    · rw [sI2, sL2, if_pos ⟨rfl, rfl, rfl⟩]
    · show bq (fb f ||| _) c = false
      rw [bq_or, h6 c hc, Bool.false_or]
      by_cases q : c < 64
      · rw [bq_one1 (by omega) q, decide_eq_false (by omega)]
      · exact bq_big (by omega)
    · rw [sI1]
      show _ = if bq (fb f ||| _) c = true then (if c = b then 0 else ft f c) else 0
      rw [bq_or, bq_one1 (by omega) (by omega)]
      by_cases q : c = b
      · subst q
        rw [if_pos ⟨rfl, rfl, rfl⟩]
        simp
      · rw [if_neg (fun z => q z.2.2)]
        have e := h7 c hc
        rw [sL1]
        rw [e]
        simp [q]
