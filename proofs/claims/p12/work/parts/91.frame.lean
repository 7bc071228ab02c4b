/-! STATES: an abstract one, and how the class's frames hold it. -/
theorem lp {σ α : Type} {L : Nat → Int32 → σ → Option α} {Inv : Nat → σ → Prop} {N : Nat} {fin : σ → Option α} (hs : ∀ n i s, i < N → Inv i s → ∃ s', Inv (i + 1) s' ∧ L (n + 1) (nI i) s = L n (nI (i + 1)) s') (he : ∀ n s, Inv N s → L (n + 1) (nI N) s = fin s) : ∀ n i s, N < i + n → i ≤ N → Inv i s → ∃ s', Inv N s' ∧ L n (nI i) s = fin s' := by
  intro n
  induction n with
  | zero =>
    intro i s h1 h2
    omega
  | succ n ih =>
    intro i s h1 h2 h3
    by_cases q : i = N
    · subst q
      exact ⟨s, h3, he n s h3⟩
    · obtain ⟨s', a1, a2⟩ := hs n i s (by omega) h3
      obtain ⟨s2, b1, b2⟩ := ih (i + 1) s' (by omega) (by omega) a1
      exact ⟨s2, b1, by rw [a2, b2]⟩
abbrev Fr : Type := (Nat → Int32) × (Nat → Int32) × Nat × Int64 × (Nat → Int32)
abbrev fl (f : Fr) : Nat → Int32 := f.1
abbrev fs (f : Fr) : Nat → Int32 := f.2.1
abbrev fd (f : Fr) : Nat := f.2.2.1
abbrev fb (f : Fr) : Int64 := f.2.2.2.1
abbrev ft (f : Fr) : Nat → Int32 := f.2.2.2.2
def wid (t : Int32) : Nat := if t = 3 ∨ t = 4 then 2 else 1
def wsum (f : Nat → Int32) : Nat → Nat
  | 0 => 0
  | n + 1 => wsum f n + wid (f n)
theorem wid_1 (t : Int32) : 1 ≤ wid t ∧ wid t ≤ 2 := by
  unfold wid
  split <;> omega
theorem wsum_ge (f : Nat → Int32) : ∀ n, n ≤ wsum f n := by
  intro n
  induction n with
  | zero => exact Nat.le_refl _
  | succ n ih =>
    have := (wid_1 (f n)).1
    show n + 1 ≤ wsum f n + wid (f n)
    omega
theorem wsum_le2 (f : Nat → Int32) : ∀ n, wsum f n ≤ 2 * n := by
  intro n
  induction n with
  | zero => exact Nat.le_refl _
  | succ n ih =>
    have := (wid_1 (f n)).2
    show wsum f n + wid (f n) ≤ 2 * (n + 1)
    omega
theorem wsum_mono (f : Nat → Int32) {a b : Nat} (h : a ≤ b) : wsum f a ≤ wsum f b := by
  induction b with
  | zero =>
    have : a = 0 := by omega
    subst this
    exact Nat.le_refl _
  | succ b ih =>
    by_cases q : a = b + 1
    · subst q
      exact Nat.le_refl _
    · have := ih (by omega)
      show wsum f a ≤ wsum f b + wid (f b)
      omega
theorem wsum_cg {f g : Nat → Int32} : ∀ n, (∀ j, j < n → f j = g j) → wsum f n = wsum g n := by
  intro n
  induction n with
  | zero => exact fun _ => rfl
  | succ n ih =>
    intro h
    show wsum f n + wid (f n) = wsum g n + wid (g n)
    rw [ih (fun j hj => h j (by omega)), h n (by omega)]
abbrev wt (f : Fr) : Nat := wsum (fs f) (fd f)
theorem e_wideC {v : Int32} {M : Mm} : P_G_isWide v M = if v = 3 ∨ v = 4 then 1 else 0 := by
  unfold P_G_isWide
  by_cases c1 : v = 3
  · simp [c1]
  · by_cases c2 : v = 4
    · simp [c2]
    · simp [c1, c2]
theorem e_wideD {v : Int32} {M : Mm} : P_D_isWide v M = if v = 3 ∨ v = 4 then 1 else 0 := by
  unfold P_D_isWide
  by_cases c1 : v = 3
  · simp [c1]
  · by_cases c2 : v = 4
    · simp [c2]
    · simp [c1, c2]
theorem e_width {v : Int32} {M : Mm} : P_G_widthOf v M = nI (wid v) := by
  unfold P_G_widthOf wid
  by_cases c1 : v = 3
  · simp [c1]
    rfl
  · by_cases c2 : v = 4
    · simp [c2]
      rfl
    · simp [c1, c2]
      rfl
/-- a TYPE that may stand in a STATE -/
def tok (t : Int32) : Prop := ∃ j : Nat, t = nI j ∧ (j < 256 ∨ (1000 ≤ j ∧ j < 1048) ∨ (2000 ≤ j ∧ j < 2048))
def Cf (M : Mm) (i : Nat) (f : Fr) : Prop := fd f ≤ 12 ∧ M.1 19 i 2 = nI (fd f) ∧ (∀ j, j < 12 → M.1 20 i j = fl f j) ∧ (∀ j, j < fd f → M.1 21 i j = fs f j) ∧ M.2 19 i 3 = fb f ∧ (∀ b, 48 ≤ b → bq (fb f) b = false) ∧ ∀ b, b < 48 → M.1 22 i b = if bq (fb f) b then ft f b else 0
/-- nothing but frame i changed -/
def KF (i : Nat) (M M' : Mm) : Prop := (∀ t a k, ¬ (19 ≤ t ∧ t ≤ 22 ∧ a = i) → M'.1 t a k = M.1 t a k) ∧ ∀ t a k, ¬ (t = 19 ∧ a = i) → M'.2 t a k = M.2 t a k
theorem KF.rf {i : Nat} {M : Mm} : KF i M M := ⟨fun _ _ _ _ => rfl, fun _ _ _ _ => rfl⟩
theorem KF.tr {i : Nat} {M M' M2 : Mm} (h : KF i M M') (h2 : KF i M' M2) : KF i M M2 := ⟨fun t a k q => (h2.1 t a k q).trans (h.1 t a k q), fun t a k q => (h2.2 t a k q).trans (h.2 t a k q)⟩
theorem KF.sI {i t k : Nat} {M : Mm} {v : Int32} (ht : 19 ≤ t ∧ t ≤ 22) : KF i M (sI M t i k v) := by
  refine ⟨fun a b c q => ?_, fun _ _ _ _ => rfl⟩
  rw [sI1, if_neg (fun z => q ⟨by omega, by omega, z.2.1⟩)]
theorem KF.sA {i t : Nat} {M : Mm} {f : Nat → Int32} (ht : 19 ≤ t ∧ t ≤ 22) : KF i M (sA M t i f) := by
  refine ⟨fun a b c q => ?_, fun _ _ _ _ => rfl⟩
  rw [sA1, if_neg (fun z => q ⟨by omega, by omega, z.2⟩)]
theorem KF.sL {i k : Nat} {M : Mm} {v : Int64} : KF i M (sL M 19 i k v) := by
  refine ⟨fun _ _ _ _ => rfl, fun a b c q => ?_⟩
  rw [sL2, if_neg (fun z => q ⟨z.1, z.2.1⟩)]
theorem Cf.kp {i j : Nat} {M M' : Mm} {f : Fr} (h : Cf M j f) (k : KF i M M') (hij : ¬ j = i) : Cf M' j f := by
  obtain ⟨h1, h2, h3, h4, h5, h6, h7⟩ := h
  refine ⟨h1, ?_, fun a ha => ?_, fun a ha => ?_, ?_, h6, fun b hb => ?_⟩
  · rw [k.1 _ _ _ (fun z => hij z.2.2)]
    exact h2
  · rw [k.1 _ _ _ (fun z => hij z.2.2)]
    exact h3 a ha
  · rw [k.1 _ _ _ (fun z => hij z.2.2)]
    exact h4 a ha
  · rw [k.2 _ _ _ (fun z => hij z.2)]
    exact h5
  · rw [k.1 _ _ _ (fun z => hij z.2.2)]
    exact h7 b hb
theorem e_isIn {i b : Nat} {M : Mm} {f : Fr} (h : Cf M i f) (hb : b < 64) : P_R_isIn i (nI b) M = if bq (fb f) b then 1 else 0 := by
  unfold P_R_isIn
  rw [h.2.2.2.2.1]
  have e := bq_t0 (x := fb f) hb
  cases q : bq (fb f) b
  · rw [if_pos (e.mpr q)]
    rfl
  · rw [if_neg (fun z => by rw [e.mp z] at q; cases q)]
    rfl
theorem e_top {i e : Nat} {M : Mm} {f : Fr} (h : Cf M i f) (he : e ≤ 3) : F_R_top i (nI e) M = some (if e < fd f then fs f (fd f - 1 - e) else -1, M) := by
  have h1 := h.1
  unfold F_R_top
  rw [h.2.1]
  by_cases c : e < fd f
  · rw [if_neg (nI_ge c (by omega)), if_pos c]
    have e1 : nI (fd f) - 1 - nI e = nI (fd f - 1 - e) := by
      rw [show (1 : Int32) = nI 1 from rfl, pk_sub (by omega), pk_sub (by omega)]
    rw [e1, bnd_nI (by omega) (by decide), nI_clamp (by omega), h.2.2.2.1 _ (by omega)]
  · rw [if_pos (nI_le (by omega) (by omega)), if_neg c]
theorem e_narrow {i e : Nat} {M : Mm} {f : Fr} (h : Cf M i f) (he : e ≤ 3) : F_R_hasNarrow i (nI e) M = some (if e < fd f ∧ wid (fs f (fd f - 1 - e)) = 1 then 1 else 0, M) := by
  have h1 := h.1
  unfold F_R_hasNarrow
  rw [h.2.1]
  by_cases c : e < fd f
  · rw [if_neg (nI_ge c (by omega))]
    have e1 : nI (fd f) - 1 - nI e = nI (fd f - 1 - e) := by
      rw [show (1 : Int32) = nI 1 from rfl, pk_sub (by omega), pk_sub (by omega)]
    rw [e1, bnd_nI (by omega) (by decide), lt_v, nI_clamp (by omega), h.2.2.2.1 _ (by omega), e_wideC]
    unfold wid
    by_cases w : fs f (fd f - 1 - e) = 3 ∨ fs f (fd f - 1 - e) = 4
    · simp [w, c]
    · simp [w, c]
  · rw [if_pos (nI_le (by omega) (by omega)), if_neg (fun z => c z.1)]
abbrev drp (f : Fr) (n : Nat) : Fr := (fl f, fs f, fd f - n, fb f, ft f)
abbrev psh (f : Fr) (v : Int32) : Fr := (fl f, upd (fs f) (fd f) v, fd f + 1, fb f, ft f)
theorem wt_psh {f : Fr} {v : Int32} : wt (psh f v) = wt f + wid v := by
  show wsum (upd (fs f) (fd f) v) (fd f) + wid (upd (fs f) (fd f) v (fd f)) = _
  rw [wsum_cg (fd f) (fun j hj => pk_un (by omega)), pk_us]
theorem e_drop {i n : Nat} {M : Mm} {f : Fr} (h : Cf M i f) (hn : n ≤ fd f) : ∃ M', F_R_drop i (nI n) M = some M' ∧ Cf M' i (drp f n) ∧ KF i M M' := by
  have h1 := h.1
  refine ⟨sI M 19 i 2 (nI (fd f - n)), ?_, ?_, KF.sI (by omega)⟩
  · unfold F_R_drop
    rw [lt_v, h.2.1, pk_sub hn]
  · obtain ⟨h1, h2, h3, h4, h5, h6, h7⟩ := h
    refine ⟨by show fd f - n ≤ 12; omega, ?_, fun a ha => ?_, fun a ha => ?_, h5, h6, fun b hb => ?_⟩
    · simp [sI1]
    · rw [sI1, if_neg (by omega)]
      exact h3 a ha
    · rw [sI1, if_neg (by omega)]
      have ha' : a < fd f - n := ha
      exact h4 a (by omega)
    · rw [sI1, if_neg (by omega)]
      exact h7 b hb
theorem e_push_lp {i m : Nat} {M : Mm} {f : Fr} {v : Int32} (h : Cf M i f) (hm : m ≤ 12) : ∀ n j, fd f < j + n → j ≤ fd f → F_R_push_b8 n i v (nI m) (nI (wid v + wsum (fs f) j)) (nI j) M = (if wid v + wsum (fs f) (fd f) ≤ m then some (0, sI (sI M 21 i (fd f) v) 19 i 2 (nI (fd f + 1))) else some (3, M)) := by
  have h1 := h.1
  have hw := wsum_le2 (fs f)
  have hwv := (wid_1 v)
  intro n
  induction n with
  | zero =>
    intro j q1 q2
    omega
  | succ n ih =>
    intro j q1 q2
    rw [F_R_push_b8, h.2.1]
    have hj2 := hw j
    by_cases c : j = fd f
    · subst c
      rw [if_pos (nI_le (Nat.le_refl _) (by omega))]
      have hj3 := wsum_ge (fs f) (fd f)
      by_cases w : wid v + wsum (fs f) (fd f) ≤ m
      · rw [if_pos (nI_le w (by omega)), if_pos w, bnd_nI (by omega) (by decide), lt_v, lt_v, nI_clamp (by omega)]
        have z : (sI M 21 i (fd f) v).1 19 i 2 = nI (fd f) := by
          rw [sI1, if_neg (by omega)]
          exact h.2.1
        rw [z, nI_1]
      · rw [if_neg (nI_ge (by omega) (by omega)), if_neg w]
    · rw [if_neg (nI_ge (by omega) (by omega)), bnd_nI (by omega) (by decide), lt_v, lt_v, lt_v, nI_clamp (by omega), h.2.2.2.1 j (by omega), e_width, nI_add, nI_1]
      have e2 : wid v + wsum (fs f) j + wid (fs f j) = wid v + wsum (fs f) (j + 1) := by
        show _ = wid v + (wsum (fs f) j + wid (fs f j))
        omega
      rw [e2]
      exact ih (j + 1) (by omega) (by omega)
theorem e_push {i m : Nat} {M : Mm} {f : Fr} {v : Int32} (h : Cf M i f) (hm : m ≤ 12) : (wt (psh f v) ≤ m → ∃ M', F_R_push i v (nI m) M = some (0, M') ∧ Cf M' i (psh f v) ∧ KF i M M') ∧ (¬ wt (psh f v) ≤ m → F_R_push i v (nI m) M = some (3, M)) := by
  have h1 := h.1
  have e := e_push_lp (v := v) h hm fuel 0 (by show fd f < 0 + 100000; omega) (by omega)
  have e0 : F_R_push i v (nI m) M = F_R_push_b8 fuel i v (nI m) (nI (wid v + wsum (fs f) 0)) (nI 0) M := by
    unfold F_R_push
    rw [lt_v, e_width]
    rfl
  rw [e0, e, wt_psh]
  have hwt : wt f = wsum (fs f) (fd f) := rfl
  have hj3 := wsum_ge (fs f) (fd f)
  have hwv := (wid_1 v)
  constructor
  · intro q
    refine ⟨_, if_pos (by omega), ?_, (KF.sI (by omega)).tr (KF.sI (by omega))⟩
    obtain ⟨h1, h2, h3, h4, h5, h6, h7⟩ := h
    refine ⟨by show fd f + 1 ≤ 12; omega, ?_, fun a ha => ?_, fun a ha => ?_, h5, h6, fun b hb => ?_⟩
    · simp [sI1]
    · rw [sI1, if_neg (by omega), sI1, if_neg (by omega)]
      exact h3 a ha
    · rw [sI1, if_neg (by omega), sI1]
      have ha' : a < fd f + 1 := ha
      show _ = upd (fs f) (fd f) v a
      by_cases q2 : a = fd f
      · subst q2
        rw [if_pos ⟨rfl, rfl, rfl⟩, pk_us]
      · rw [if_neg (fun z => q2 z.2.2), pk_un q2]
        exact h4 a (by omega)
    · rw [sI1, if_neg (by omega), sI1, if_neg (by omega)]
      exact h7 b hb
  · intro q
    exact if_neg (by omega)
