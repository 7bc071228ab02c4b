abbrev sto (f : Fr) (a : Nat) (t : Int32) : Fr := (fun j => if j = a + 1 ∧ wid t = 2 then 0 else if j = a then t else if j + 1 = a ∧ wid (fl f j) = 2 then 0 else fl f j, fs f, fd f, fb f, ft f)
theorem wid2 {t : Int32} : wid t = 2 ↔ (t = 3 ∨ t = 4) := by
  unfold wid
  split
  · simp [*]
  · simp [*]
theorem Cf.loc {i : Nat} {M M' : Mm} {f : Fr} {g : Nat → Int32} (h : Cf M i f) (k1 : ∀ t k, ¬ t = 20 → M'.1 t i k = M.1 t i k) (k2 : M'.2 19 i 3 = M.2 19 i 3) (k3 : ∀ j, j < 12 → M'.1 20 i j = g j) : Cf M' i (g, fs f, fd f, fb f, ft f) := by
  obtain ⟨h1, h2, h3, h4, h5, h6, h7⟩ := h
  refine ⟨h1, ?_, k3, fun a ha => ?_, ?_, h6, fun b hb => ?_⟩
  · rw [k1 19 2 (by omega)]
    exact h2
  · rw [k1 21 a (by omega)]
    exact h4 a ha
  · rw [k2]
    exact h5
  · rw [k1 22 b (by omega)]
    exact h7 b hb
theorem e_store {i a : Nat} {t : Int32} {f : Fr} {M : Mm} (h : Cf M i f) (ha : a < 12) (hw : wid t = 2 → a + 1 < 12) : ∃ M', F_R_store i (nI a) t M = some M' ∧ Cf M' i (sto f a t) ∧ KF i M M' := by
  have b27 : ∀ M0 : Mm, F_R_store_b27 i (nI a) t M0 = some (if wid t = 2 then sI (sI M0 20 i a t) 20 i (a + 1) 0 else sI M0 20 i a t) := by
    intro M0
    unfold F_R_store_b27
    rw [bnd_nI ha (by decide), lt_v, lt_v, nI_clamp (by omega), e_wideC]
    by_cases c : t = 3 ∨ t = 4
    · rw [if_pos c, if_neg (by decide), nI_1, bnd_nI (hw (wid2.mpr c)) (by decide), lt_v, nI_clamp (by omega), if_pos (wid2.mpr c)]
    · rw [if_neg c, if_pos rfl, if_neg (fun z => c (wid2.mp z))]
  have k27 : ∀ M0 : Mm, KF i M0 (if wid t = 2 then sI (sI M0 20 i a t) 20 i (a + 1) 0 else sI M0 20 i a t) := by
    intro M0
    split
    · exact (KF.sI (by omega)).tr (KF.sI (by omega))
    · exact KF.sI (by omega)
  have r27 : ∀ (M0 : Mm) (s k : Nat), (if wid t = 2 then sI (sI M0 20 i a t) 20 i (a + 1) 0 else sI M0 20 i a t).1 s i k = if s = 20 ∧ k = a + 1 ∧ wid t = 2 then 0 else if s = 20 ∧ k = a then t else M0.1 s i k := by
    intro M0 s k
    by_cases c : wid t = 2
    · rw [if_pos c]
      simp [sI1, c]
    · rw [if_neg c]
      simp [sI1, c]
  have s27 : ∀ (M0 : Mm), (if wid t = 2 then sI (sI M0 20 i a t) 20 i (a + 1) 0 else sI M0 20 i a t).2 = M0.2 := by
    intro M0
    split <;> rfl
  have h3 := h.2.2.1
  unfold F_R_store
  by_cases a0 : a = 0
  · subst a0
    rw [if_pos (show nI 0 ≤ 0 by decide), b27]
    refine ⟨_, rfl, Cf.loc h (fun s k hs => ?_) ?_ (fun j hj => ?_), k27 M⟩
    · rw [r27, if_neg (fun z => hs z.1), if_neg (fun z => hs z.1)]
    · rw [s27]
    · rw [r27]
      simp [h3 j hj]
  · have e1 : nI a - 1 = nI (a - 1) := by rw [show (1 : Int32) = nI 1 from rfl, pk_sub (by omega)]
    rw [if_neg (nI_nle (by omega) (by omega)), e1, bnd_nI (by omega) (by decide), lt_v, nI_clamp (by omega), h3 _ (by omega), e_wideC]
    by_cases c : fl f (a - 1) = 3 ∨ fl f (a - 1) = 4
    · rw [if_pos c, if_neg (by decide), bnd_nI (by omega) (by decide), lt_v, b27]
      refine ⟨_, rfl, Cf.loc h (fun s k hs => ?_) ?_ (fun j hj => ?_), (KF.sI (by omega)).tr (k27 _)⟩
      · rw [r27, if_neg (fun z => hs z.1), if_neg (fun z => hs z.1), sI1, if_neg (fun z => hs z.1)]
      · rw [s27]
        rfl
      · rw [r27, sI1]
        by_cases q : j = a - 1
        · have q2 : j + 1 = a := by omega
          have q3 : wid (fl f j) = 2 := by rw [q]; exact wid2.mpr c
          simp [q, q2, q3, show ¬ a - 1 = a by omega, show ¬ a - 1 = a + 1 by omega, show a - 1 + 1 = a by omega, wid2.mpr c]
        · have q2 : ¬ j + 1 = a := by omega
          simp [q, q2, h3 j hj]
    · rw [if_neg c, if_pos rfl, b27]
      refine ⟨_, rfl, Cf.loc h (fun s k hs => ?_) ?_ (fun j hj => ?_), k27 M⟩
      · rw [r27, if_neg (fun z => hs z.1), if_neg (fun z => hs z.1)]
      · rw [s27]
      · rw [r27]
        by_cases q2 : j + 1 = a
        · have q3 : ¬ wid (fl f j) = 2 := by
            rw [show j = a - 1 by omega]
            exact fun z => c (wid2.mp z)
          simp [q3, h3 j hj]
        · simp [q2, h3 j hj]
abbrev rep (f : Fr) (t u : Int32) : Fr := (fun j => if fl f j = t then u else fl f j, fun j => if fs f j = t then u else fs f j, fd f, fb f, ft f)
theorem e_rep2 {i : Nat} {t u : Int32} {f : Fr} {M0 : Mm} (h : Cf M0 i f) : ∀ n j M, fd f < j + n → j ≤ fd f → KF i M0 M → (∀ s k, ¬ s = 21 → ¬ s = 20 → M.1 s i k = M0.1 s i k) → (∀ k, k < 12 → M.1 20 i k = if fl f k = t then u else fl f k) → M.2 19 i 3 = fb f → (∀ k, k < fd f → M.1 21 i k = if k < j ∧ fs f k = t then u else fs f k) → ∃ M', F_R_replace_b33 n i t u (nI j) M = some M' ∧ Cf M' i (rep f t u) ∧ KF i M0 M' := by
  obtain ⟨h1, h2, h3, h4, h5, h6, h7⟩ := h
  intro n
  induction n with
  | zero =>
    intro j M q1 q2
    omega
  | succ n ih =>
    intro j M q1 q2 k1 k2 k2' k3 k4
    rw [F_R_replace_b33, k2 19 2 (by omega) (by omega), h2]
    by_cases c : j = fd f
    · subst c
      rw [if_pos (nI_le (Nat.le_refl _) (by omega))]
      refine ⟨M, rfl, ⟨h1, ?_, k2', fun a ha => ?_, k3, h6, fun b hb => ?_⟩, k1⟩
      · rw [k2 19 2 (by omega) (by omega)]
        exact h2
      · have ha' : a < fd f := ha
        rw [k4 a ha']
        simp [ha']
      · rw [k2 22 b (by omega) (by omega)]
        exact h7 b hb
    · have hj : j < fd f := by omega
      rw [if_neg (nI_ge hj (by omega)), bnd_nI (by omega) (by decide), nI_clamp (by omega), k4 j hj, if_neg (show ¬ (j < j ∧ fs f j = t) by omega)]
      by_cases c2 : fs f j = t
      · rw [if_pos c2, bnd_nI (by omega) (by decide), lt_v, F_R_replace_b58, lt_v, nI_1]
        refine ih (j + 1) _ (by omega) (by omega) (k1.tr (KF.sI (by omega))) (fun s k hs hs2 => ?_) (fun k hk => ?_) k3 (fun k hk => ?_)
        · rw [sI1, if_neg (fun z => hs z.1)]
          exact k2 s k hs hs2
        · rw [sI1, if_neg (by omega)]
          exact k2' k hk
        · rw [sI1]
          by_cases q : k = j
          · subst q
            simp [c2]
          · rw [if_neg (fun z => q z.2.2), k4 k hk]
            have e : (k < j ∧ fs f k = t) ↔ (k < j + 1 ∧ fs f k = t) := by
              constructor
              · exact fun z => ⟨by omega, z.2⟩
              · exact fun z => ⟨by omega, z.2⟩
            simp only [e]
      · rw [if_neg c2, F_R_replace_b58, lt_v, nI_1]
        refine ih (j + 1) M (by omega) (by omega) k1 k2 k2' k3 (fun k hk => ?_)
        rw [k4 k hk]
        have e : (k < j ∧ fs f k = t) ↔ (k < j + 1 ∧ fs f k = t) := by
          constructor
          · exact fun z => ⟨by omega, z.2⟩
          · intro z
            refine ⟨?_, z.2⟩
            have : ¬ k = j := fun q => c2 (q ▸ z.2)
            omega
        simp only [e]
theorem e_rep1 {i : Nat} {t u : Int32} {f : Fr} {M0 : Mm} (h : Cf M0 i f) : ∀ n j M, 12 < j + n → j ≤ 12 → KF i M0 M → (∀ s k, ¬ s = 20 → M.1 s i k = M0.1 s i k) → M.2 19 i 3 = fb f → (∀ k, k < 12 → M.1 20 i k = if k < j ∧ fl f k = t then u else fl f k) → ∃ M', F_R_replace_b2 n i t u (nI j) M = some M' ∧ Cf M' i (rep f t u) ∧ KF i M0 M' := by
  have h' := h
  obtain ⟨h1, h2, h3, h4, h5, h6, h7⟩ := h
  intro n
  induction n with
  | zero =>
    intro j M q1 q2
    omega
  | succ n ih =>
    intro j M q1 q2 k1 k2 k3 k4
    rw [F_R_replace_b2]
    by_cases c : j = 12
    · subst c
      rw [if_pos (show (12 : Int32) ≤ nI 12 by decide)]
      refine e_rep2 h' fuel 0 M (by show fd f < 0 + 100000; omega) (by omega) k1 (fun s k hs hs2 => k2 s k hs2) (fun k hk => ?_) k3 (fun k hk => ?_)
      · rw [k4 k hk]
        simp [hk]
      · rw [k2 21 k (by omega), h4 k hk]
        simp
    · have hj : j < 12 := by omega
      rw [if_neg (show ¬ (12 : Int32) ≤ nI j from nI_ge (b := 12) hj (by decide)), bnd_nI hj (by decide), nI_clamp (by omega), k4 j hj, if_neg (show ¬ (j < j ∧ fl f j = t) by omega)]
      by_cases c2 : fl f j = t
      · rw [if_pos c2, bnd_nI hj (by decide), lt_v, F_R_replace_b25, lt_v, nI_1]
        refine ih (j + 1) _ (by omega) (by omega) (k1.tr (KF.sI (by omega))) (fun s k hs => ?_) k3 (fun k hk => ?_)
        · rw [sI1, if_neg (fun z => hs z.1)]
          exact k2 s k hs
        · rw [sI1]
          by_cases q : k = j
          · subst q
            simp [c2]
          · rw [if_neg (fun z => q z.2.2), k4 k hk]
            have e : (k < j ∧ fl f k = t) ↔ (k < j + 1 ∧ fl f k = t) := by
              constructor
              · exact fun z => ⟨by omega, z.2⟩
              · exact fun z => ⟨by omega, z.2⟩
            simp only [e]
      · rw [if_neg c2, F_R_replace_b25, lt_v, nI_1]
        refine ih (j + 1) M (by omega) (by omega) k1 k2 k3 (fun k hk => ?_)
        rw [k4 k hk]
        have e : (k < j ∧ fl f k = t) ↔ (k < j + 1 ∧ fl f k = t) := by
          constructor
          · exact fun z => ⟨by omega, z.2⟩
          · intro z
            refine ⟨?_, z.2⟩
            have : ¬ k = j := fun q => c2 (q ▸ z.2)
            omega
        simp only [e]
theorem e_replace {i : Nat} {t u : Int32} {f : Fr} {M : Mm} (h : Cf M i f) : ∃ M', F_R_replace i t u M = some M' ∧ Cf M' i (rep f t u) ∧ KF i M M' := by
  unfold F_R_replace
  refine e_rep1 h fuel 0 M (by show 12 < 0 + 100000; omega) (by omega) KF.rf (fun _ _ _ => rfl) h.2.2.2.2.1 (fun k hk => ?_)
  rw [h.2.2.1 k hk]
  simp
theorem e_onStack {i : Nat} {t : Int32} {f : Fr} {M : Mm} (h : Cf M i f) : ∃ r, F_R_isOnStack i t M = some (r, M) ∧ ((r = 1 ∧ ∃ k, k < fd f ∧ fs f k = t) ∨ (r = 0 ∧ ∀ k, k < fd f → ¬ fs f k = t)) := by
  have h1 := h.1
  have lp1 : ∀ n j, fd f < j + n → j ≤ fd f → (∀ k, k < j → ¬ fs f k = t) → ∃ r, F_R_isOnStack_b2 n i t (nI j) M = some (r, M) ∧ ((r = 1 ∧ ∃ k, k < fd f ∧ fs f k = t) ∨ (r = 0 ∧ ∀ k, k < fd f → ¬ fs f k = t)) := by
    intro n
    induction n with
    | zero =>
      intro j q1 q2
      omega
    | succ n ih =>
      intro j q1 q2 q3
      rw [F_R_isOnStack_b2, h.2.1]
      by_cases c : j = fd f
      · subst c
        rw [if_pos (nI_le (Nat.le_refl _) (by omega))]
        exact ⟨0, rfl, Or.inr ⟨rfl, q3⟩⟩
      · rw [if_neg (nI_ge (by omega) (by omega)), bnd_nI (by omega) (by decide), nI_clamp (by omega), h.2.2.2.1 j (by omega)]
        by_cases c2 : fs f j = t
        · rw [if_pos c2]
          exact ⟨1, rfl, Or.inl ⟨rfl, j, by omega, c2⟩⟩
        · rw [if_neg c2, lt_v, nI_1]
          refine ih (j + 1) (by omega) (by omega) (fun k hk => ?_)
          by_cases q : k = j
          · rw [q]
            exact c2
          · exact q3 k (by omega)
  unfold F_R_isOnStack
  exact lp1 fuel 0 (by show fd f < 0 + 100000; omega) (by omega) (fun k hk => absurd hk (Nat.not_lt_zero k))
def raw (t : Int32) : Prop := ¬ t < 1000 ∧ ¬ 1048 ≤ t
theorem e_raw {v : Int32} {M : Mm} : (raw v → P_G_isRaw v M = 1) ∧ (¬ raw v → P_G_isRaw v M = 0) := by
  unfold raw P_G_isRaw
  constructor
  · intro q
    rw [if_neg q.1, if_neg q.2]
  · intro q
    by_cases c : v < 1000
    · rw [if_pos c]
    · rw [if_neg c, if_pos (Classical.byContradiction fun z => q ⟨c, z⟩)]
theorem e_rawLoc {i : Nat} {f : Fr} {M : Mm} (h : Cf M i f) : ∃ r, F_R_hasRawLocal i M = some (r, M) ∧ ((r = 1 ∧ ∃ k, k < 12 ∧ raw (fl f k)) ∨ (r = 0 ∧ ∀ k, k < 12 → ¬ raw (fl f k))) := by
  have lp1 : ∀ n j, 12 < j + n → j ≤ 12 → (∀ k, k < j → ¬ raw (fl f k)) → ∃ r, F_R_hasRawLocal_b2 n i (nI j) M = some (r, M) ∧ ((r = 1 ∧ ∃ k, k < 12 ∧ raw (fl f k)) ∨ (r = 0 ∧ ∀ k, k < 12 → ¬ raw (fl f k))) := by
    intro n
    induction n with
    | zero =>
      intro j q1 q2
      omega
    | succ n ih =>
      intro j q1 q2 q3
      rw [F_R_hasRawLocal_b2]
      by_cases c : j = 12
      · subst c
        rw [if_pos (show (12 : Int32) ≤ nI 12 by decide)]
        exact ⟨0, rfl, Or.inr ⟨rfl, q3⟩⟩
      · rw [if_neg (show ¬ (12 : Int32) ≤ nI j from nI_ge (b := 12) (by omega) (by decide)), bnd_nI (by omega) (by decide), lt_v, nI_clamp (by omega), h.2.2.1 j (by omega)]
        by_cases c2 : raw (fl f j)
        · rw [e_raw.1 c2, if_neg (by decide)]
          exact ⟨1, rfl, Or.inl ⟨rfl, j, by omega, c2⟩⟩
        · rw [e_raw.2 c2, if_pos rfl, lt_v, nI_1]
          refine ih (j + 1) (by omega) (by omega) (fun k hk => ?_)
          by_cases q : k = j
          · rw [q]
            exact c2
          · exact q3 k (by omega)
  unfold F_R_hasRawLocal
  exact lp1 fuel 0 (by show 12 < 0 + 100000; omega) (by omega) (fun k hk => absurd hk (Nat.not_lt_zero k))
def hraw (f : Fr) : Prop := (∃ k, k < fd f ∧ raw (fs f k)) ∨ ∃ k, k < 12 ∧ raw (fl f k)
theorem e_hasRaw {i : Nat} {f : Fr} {M : Mm} (h : Cf M i f) : ∃ r, F_R_hasRaw i M = some (r, M) ∧ ((r = 1 ∧ hraw f) ∨ (r = 0 ∧ ¬ hraw f)) := by
  have h1 := h.1
  have lp1 : ∀ n j, fd f < j + n → j ≤ fd f → (∀ k, k < j → ¬ raw (fs f k)) → ∃ r, F_R_hasRaw_b2 n i (nI j) M = some (r, M) ∧ ((r = 1 ∧ hraw f) ∨ (r = 0 ∧ ¬ hraw f)) := by
    intro n
    induction n with
    | zero =>
      intro j q1 q2
      omega
    | succ n ih =>
      intro j q1 q2 q3
      rw [F_R_hasRaw_b2, h.2.1]
      by_cases c : j = fd f
      · subst c
        obtain ⟨r, e1, e2⟩ := e_rawLoc h
        rw [if_pos (nI_le (Nat.le_refl _) (by omega)), e1, bd_some]
        refine ⟨r, bnz_ok ?_, ?_⟩
        · rcases e2 with z | z
          · exact Or.inr z.1
          · exact Or.inl z.1
        · rcases e2 with z | z
          · exact Or.inl ⟨z.1, Or.inr z.2⟩
          · refine Or.inr ⟨z.1, ?_⟩
            rintro (⟨k, k1, k2⟩ | ⟨k, k1, k2⟩)
            · exact q3 k k1 k2
            · exact z.2 k k1 k2
      · rw [if_neg (nI_ge (by omega) (by omega)), bnd_nI (by omega) (by decide), lt_v, nI_clamp (by omega), h.2.2.2.1 j (by omega)]
        by_cases c2 : raw (fs f j)
        · rw [e_raw.1 c2, if_neg (by decide)]
          exact ⟨1, rfl, Or.inl ⟨rfl, Or.inl ⟨j, by omega, c2⟩⟩⟩
        · rw [e_raw.2 c2, if_pos rfl, lt_v, nI_1]
          refine ih (j + 1) (by omega) (by omega) (fun k hk => ?_)
          by_cases q : k = j
          · rw [q]
            exact c2
          · exact q3 k (by omega)
  unfold F_R_hasRaw
  exact lp1 fuel 0 (by show fd f < 0 + 100000; omega) (by omega) (fun k hk => absurd hk (Nat.not_lt_zero k))
