/-! What the going has found so far, and how the class holds it; MEET in the class. -/
abbrev AS : Type := (Nat → Bool) × (Nat → Bool) × (Nat → Int64) × (Nat → Fr)
abbrev ah (A : AS) : Nat → Bool := A.1
abbrev ac (A : AS) : Nat → Bool := A.2.1
abbrev an (A : AS) : Nat → Int64 := A.2.2.1
abbrev af (A : AS) : Nat → Fr := A.2.2.2
noncomputable def pB (p : Prop) : Bool := @decide p (Classical.propDecidable p)
theorem pBt {p : Prop} : pB p = true ↔ p := @decide_eq_true_iff p (Classical.propDecidable p)
def bI (b : Bool) : Int32 := if b then 1 else 0
theorem bI0 {b : Bool} : bI b = 0 ↔ b = false := by
  cases b
  · exact ⟨fun _ => rfl, fun _ => rfl⟩
  · exact ⟨fun z => absurd z (by decide), fun z => by cases z⟩
def sg {α : Type} (g : Nat → α) (k : Nat) (v : α) : Nat → α := fun j => if j = k then v else g j
theorem sg_s {α : Type} {g : Nat → α} {k : Nat} {v : α} : sg g k v k = v := if_pos rfl
theorem sg_n {α : Type} {g : Nat → α} {k j : Nat} {v : α} (h : ¬ j = k) : sg g k v j = g j := if_neg h
def hct (h : Nat → Bool) : Nat → Nat
  | 0 => 0
  | n + 1 => hct h n + (if h n then 1 else 0)
theorem hct_cg {h g : Nat → Bool} : ∀ n, (∀ k, k < n → h k = g k) → hct h n = hct g n := by
  intro n
  induction n with
  | zero => exact fun _ => rfl
  | succ n ih =>
    intro e
    show hct h n + _ = hct g n + _
    rw [ih (fun k hk => e k (by omega)), e n (by omega)]
theorem hct_sg {h : Nat → Bool} {k : Nat} (hk : h k = false) : ∀ n, k < n → hct (sg h k true) n = hct h n + 1 := by
  intro n
  induction n with
  | zero => exact fun q => absurd q (Nat.not_lt_zero k)
  | succ n ih =>
    intro q
    show hct (sg h k true) n + (if sg h k true n then 1 else 0) = hct h n + (if h n then 1 else 0) + 1
    by_cases c : n = k
    · subst c
      rw [sg_s, hk, hct_cg n (fun j hj => sg_n (by omega))]
      rfl
    · rw [sg_n c, ih (by omega)]
      omega
theorem hct_le (h : Nat → Bool) : ∀ n, hct h n ≤ n := by
  intro n
  induction n with
  | zero => exact Nat.le_refl _
  | succ n ih =>
    show hct h n + (if h n then 1 else 0) ≤ n + 1
    split <;> omega
def bgn (P : MT) (h : Nat → Bool) (b : Nat) : Prop := ∃ k, k < 48 ∧ h k = true ∧ P.2 0 k = 15 ∧ P.2 2 k = nI b
def CA (P : MT) (A : AS) (M : Mm) : Prop := (∀ k, k < 48 → M.1 16 0 k = bI (ah A k) ∧ M.1 17 0 k = bI (ac A k) ∧ M.2 18 0 k = an A k ∧ (ah A k = true → Cf M (k + 2) (af A k))) ∧ M.1 14 0 10 = nI (hct (ah A) 48) ∧ ∀ b, b < 64 → (bq (M.2 14 0 11) b = true ↔ bgn P (ah A) b)
/-- the class's memory outside the going, and the frames below s, are as before -/
def KC (s : Nat) (M M' : Mm) : Prop := (∀ t i k, t < 14 → M'.1 t i k = M.1 t i k) ∧ M'.1 14 0 8 = M.1 14 0 8 ∧ (∀ t i k, 19 ≤ t → i < s → M'.1 t i k = M.1 t i k) ∧ ∀ i k, i < s → M'.2 19 i k = M.2 19 i k
theorem KC.rf {s : Nat} {M : Mm} : KC s M M := ⟨fun _ _ _ _ => rfl, rfl, fun _ _ _ _ _ => rfl, fun _ _ _ => rfl⟩
theorem KC.tr {s : Nat} {M M' M2 : Mm} (h : KC s M M') (h2 : KC s M' M2) : KC s M M2 := ⟨fun t i k q => (h2.1 t i k q).trans (h.1 t i k q), h2.2.1.trans h.2.1, fun t i k q q2 => (h2.2.2.1 t i k q q2).trans (h.2.2.1 t i k q q2), fun i k q => (h2.2.2.2 i k q).trans (h.2.2.2 i k q)⟩
theorem KC.lo {s s' : Nat} {M M' : Mm} (h : KC s M M') (e : s' ≤ s) : KC s' M M' := ⟨h.1, h.2.1, fun t i k q q2 => h.2.2.1 t i k q (by omega), fun i k q => h.2.2.2 i k (by omega)⟩
theorem KC.sI {s t k : Nat} {v : Int32} {M : Mm} (h : t = 16 ∨ t = 17 ∨ (t = 14 ∧ ¬ k = 8)) : KC s M (sI M t 0 k v) := by
  refine ⟨fun a b c q => ?_, ?_, fun a b c q _ => ?_, fun _ _ _ => rfl⟩
  · rw [sI1, if_neg (by omega)]
  · rw [sI1, if_neg (by omega)]
  · rw [sI1, if_neg (by omega)]
theorem KC.sL {s t k : Nat} {v : Int64} {M : Mm} (h : ¬ t = 19) : KC s M (sL M t 0 k v) := by
  refine ⟨fun _ _ _ _ => rfl, rfl, fun _ _ _ _ _ => rfl, fun a b _ => ?_⟩
  rw [sL2, if_neg (fun z => h z.1.symm)]
theorem KF.kc {i s : Nat} {M M' : Mm} (h : KF i M M') (e : s ≤ i) : KC s M M' := ⟨fun t a k q => h.1 t a k (by omega), h.1 14 0 8 (by omega), fun t a k _ q => h.1 t a k (by omega), fun a k q => h.2 19 a k (by omega)⟩
theorem Cf.kc {s j : Nat} {M M' : Mm} {f : Fr} (h : Cf M j f) (k : KC s M M') (hj : j < s) : Cf M' j f := by
  obtain ⟨h1, h2, h3, h4, h5, h6, h7⟩ := h
  have k1 := k.2.2.1
  refine ⟨h1, ?_, fun a ha => ?_, fun a ha => ?_, ?_, h6, fun b hb => ?_⟩
  · rw [k1 _ _ _ (by omega) hj]
    exact h2
  · rw [k1 _ _ _ (by omega) hj]
    exact h3 a ha
  · rw [k1 _ _ _ (by omega) hj]
    exact h4 a ha
  · rw [k.2.2.2 _ _ hj]
    exact h5
  · rw [k1 _ _ _ (by omega) hj]
    exact h7 b hb
theorem CMe_cg {P : MT} {M M' : Mm} (h : CMe P M) (e : ∀ t i k, t < 14 → M'.1 t i k = M.1 t i k) : CMe P M' := by
  obtain ⟨h1, h2, h3, h4, h5, h6, h7, h8, h9⟩ := h
  refine ⟨?_, ?_, ?_, ?_, ?_, ?_, fun k hk => ⟨?_, ?_, ?_⟩, fun k hk => ⟨?_, ?_, ?_, ?_⟩, fun k hk => ?_⟩
  · rw [e _ _ _ (by omega)]; exact h1
  · rw [e _ _ _ (by omega)]; exact h2
  · rw [e _ _ _ (by omega)]; exact h3
  · rw [e _ _ _ (by omega)]; exact h4
  · rw [e _ _ _ (by omega)]; exact h5
  · rw [e _ _ _ (by omega)]; exact h6
  · rw [e _ _ _ (by omega)]; exact (h7 k hk).1
  · rw [e _ _ _ (by omega)]; exact (h7 k hk).2.1
  · rw [e _ _ _ (by omega)]; exact (h7 k hk).2.2
  · rw [e _ _ _ (by omega)]; exact (h8 k hk).1
  · rw [e _ _ _ (by omega)]; exact (h8 k hk).2.1
  · rw [e _ _ _ (by omega)]; exact (h8 k hk).2.2.1
  · rw [e _ _ _ (by omega)]; exact (h8 k hk).2.2.2
  · rw [e _ _ _ (by omega)]; exact h9 k hk
theorem KC.me {s : Nat} {P : MT} {M M' : Mm} (k : KC s M M') (h : CMe P M) : CMe P M' := CMe_cg h k.1
theorem KC.ty {s n : Nat} {sup : Nat → Nat} {fc : Nat → Int32} {M M' : Mm} (k : KC s M M') (h : TCl n sup fc M) : TCl n sup fc M' := TCl_cg h (fun t i c _ q => k.1 t i c (by omega))
/-- CA goes over to a memory in which only frames 0 and 1 changed -/
theorem CA.kf {P : MT} {A : AS} {i : Nat} {M M' : Mm} (h : CA P A M) (k : KF i M M') (hi : i < 2) : CA P A M' := by
  obtain ⟨h1, h2, h3⟩ := h
  refine ⟨fun j hj => ?_, ?_, ?_⟩
  · obtain ⟨a1, a2, a3, a4⟩ := h1 j hj
    refine ⟨?_, ?_, ?_, fun q => (a4 q).kp k (by omega)⟩
    · rw [k.1 16 0 j (by omega)]; exact a1
    · rw [k.1 17 0 j (by omega)]; exact a2
    · rw [k.2 18 0 j (by omega)]; exact a3
  · rw [k.1 14 0 10 (by omega)]; exact h2
  · rw [k.2 14 0 11 (by omega)]; exact h3
/-- each SUB of THE METHOD goes to one of its INSTRUCTIONS -/
def SBk (P : MT) : Prop := ∀ k, k < 48 → k < pm P → P.2 0 k = 15 → ∃ b, b < 48 ∧ P.2 2 k = nI b
theorem nI_b {b c : Nat} (hb : b < 64) (hc : c < 64) : nI b = nI c ↔ b = c := nI_eq (by omega) (by omega)
theorem e_reach {P : MT} {A : AS} {i k : Nat} {f : Fr} {M : Mm} (hP : CMe P M) (hS : SBk P) (hA : CA P A M) (hf : Cf M i f) (hi : i < 2) (hk : k < 48) (hkm : k < pm P) (h0 : ah A k = false) : ∃ M', F_W_reach (nI k) i M = some M' ∧ CA P (sg (ah A) k true, sg (ac A) k true, an A, sg (af A) k f) M' ∧ KC 2 M M' ∧ M'.1 14 0 9 = M.1 14 0 9 := by
  obtain ⟨M1, c1, c2, c3⟩ := e_copy (i := k + 2) hf (by omega)
  have hop := (hP.2.2.2.2.2.2.1 k hk)
  obtain ⟨a1, a2, a3⟩ := hA
  unfold F_W_reach
  rw [bnd_nI hk (by decide), nI_clamp (by omega), c1, bv_some, bnd_nI hk (by decide), lt_v, bnd_nI hk (by decide), lt_v, lt_v, bnd_nI hk (by decide), nar1]
  have r10 : (sI (sI M1 16 0 k 1) 17 0 k 1).1 14 0 10 = nI (hct (ah A) 48) := by
    rw [sI1, if_neg (by omega), sI1, if_neg (by omega), c3.1 14 0 10 (by omega)]
    exact a2
  rw [r10, nI_1]
  have hkc : KC 2 M (sI (sI (sI M1 16 0 k 1) 17 0 k 1) 14 0 10 (nI (hct (ah A) 48 + 1))) := (((c3.kc (by omega)).tr (KC.sI (by omega))).tr (KC.sI (by omega))).tr (KC.sI (by omega))
  have m9 : (sI (sI (sI M1 16 0 k 1) 17 0 k 1) 14 0 10 (nI (hct (ah A) 48 + 1))).1 14 0 9 = M.1 14 0 9 := by
    rw [sI1, if_neg (by omega), sI1, if_neg (by omega), sI1, if_neg (by omega), c3.1 14 0 9 (by omega)]
  have key : ∀ M2 : Mm, M2.1 = (sI (sI (sI M1 16 0 k 1) 17 0 k 1) 14 0 10 (nI (hct (ah A) 48 + 1))).1 → (∀ t a c, ¬ (t = 14 ∧ a = 0 ∧ c = 11) → M2.2 t a c = M1.2 t a c) → (∀ b, b < 64 → (bq (M2.2 14 0 11) b = true ↔ bgn P (sg (ah A) k true) b)) → CA P (sg (ah A) k true, sg (ac A) k true, an A, sg (af A) k f) M2 := by
    intro M2 e1 e2 e3
    refine ⟨fun j hj => ?_, ?_, e3⟩
    · obtain ⟨d1, d2, d3, d4⟩ := a1 j hj
      refine ⟨?_, ?_, ?_, ?_⟩
      · rw [e1, sI1, if_neg (by omega), sI1, if_neg (by omega), sI1]
        show _ = bI (sg (ah A) k true j)
        by_cases q : j = k
        · rw [if_pos ⟨rfl, rfl, q⟩, q, sg_s]
          rfl
        · rw [if_neg (fun z => q z.2.2), sg_n q, c3.1 16 0 j (by omega)]
          exact d1
      · rw [e1, sI1, if_neg (by omega), sI1]
        show _ = bI (sg (ac A) k true j)
        by_cases q : j = k
        · rw [if_pos ⟨rfl, rfl, q⟩, q, sg_s]
          rfl
        · rw [if_neg (fun z => q z.2.2), sg_n q, sI1, if_neg (by omega), c3.1 17 0 j (by omega)]
          exact d2
      · rw [e2 18 0 j (by omega), c3.2 18 0 j (by omega)]
        exact d3
      · intro q
        have fr1 : ∀ g, Cf M1 (j + 2) g → Cf M2 (j + 2) g := by
          intro g hg
          obtain ⟨h1, h2, h3, h4, h5, h6, h7⟩ := hg
          refine ⟨h1, ?_, fun a ha => ?_, fun a ha => ?_, ?_, h6, fun b hb => ?_⟩
          · rw [e1, sI1, if_neg (by omega), sI1, if_neg (by omega), sI1, if_neg (by omega)]; exact h2
          · rw [e1, sI1, if_neg (by omega), sI1, if_neg (by omega), sI1, if_neg (by omega)]; exact h3 a ha
          · rw [e1, sI1, if_neg (by omega), sI1, if_neg (by omega), sI1, if_neg (by omega)]; exact h4 a ha
          · rw [e2 19 _ 3 (by omega)]; exact h5
          · rw [e1, sI1, if_neg (by omega), sI1, if_neg (by omega), sI1, if_neg (by omega)]; exact h7 b hb
        by_cases q2 : j = k
        · subst q2
          show Cf M2 (j + 2) (sg (af A) j f j)
          rw [sg_s]
          exact fr1 f c2
        · show Cf M2 (j + 2) (sg (af A) k f j)
          rw [sg_n q2]
          have q' : ah A j = true := by
            have : sg (ah A) k true j = true := q
            rwa [sg_n q2] at this
          exact fr1 _ ((d4 q').kp c3 (by omega))
    · rw [e1, sI1, if_pos ⟨rfl, rfl, rfl⟩]
      show _ = nI (hct (sg (ah A) k true) 48)
      rw [hct_sg h0 48 hk]
  have r5 : (sI (sI (sI M1 16 0 k 1) 17 0 k 1) 14 0 10 (nI (hct (ah A) 48 + 1))).1 5 0 k = P.2 0 k := by
    rw [hkc.1 5 0 k (by omega)]
    exact hop.1
  have r7 : (sI (sI (sI M1 16 0 k 1) 17 0 k 1) 14 0 10 (nI (hct (ah A) 48 + 1))).1 7 0 k = P.2 2 k := by
    rw [hkc.1 7 0 k (by omega)]
    exact hop.2.2
  have r11 : M1.2 14 0 11 = M.2 14 0 11 := c3.2 14 0 11 (by omega)
  rw [r5]
  by_cases c : P.2 0 k = 15
  · obtain ⟨b, hb, eb⟩ := hS k hk hkm c
    rw [if_pos c, bnd_nI hk (by decide), lt_v, r7, eb]
    refine ⟨_, rfl, key _ rfl (fun t a d q => ?_) (fun d hd => ?_), hkc.tr (KC.sL (by omega)), m9⟩
    · rw [sL2, if_neg q]
      rfl
    · rw [sL2, if_pos ⟨rfl, rfl, rfl⟩, bq_or, bq_one1 (by omega) hd]
      have e0 : (sI (sI (sI M1 16 0 k 1) 17 0 k 1) 14 0 10 (nI (hct (ah A) 48 + 1))).2 14 0 11 = M.2 14 0 11 := r11
      rw [e0]
      constructor
      · intro q
        rw [Bool.or_eq_true, decide_eq_true_eq] at q
        rcases q with q | q
        · obtain ⟨j, j1, j2, j3, j4⟩ := (a3 d hd).mp q
          refine ⟨j, j1, ?_, j3, j4⟩
          by_cases w : j = k
          · rw [w, sg_s]
          · rw [sg_n w]
            exact j2
        · exact ⟨k, hk, sg_s, c, by rw [q]; exact eb⟩
      · rintro ⟨j, j1, j2, j3, j4⟩
        rw [Bool.or_eq_true, decide_eq_true_eq]
        by_cases w : j = k
        · subst w
          rw [eb] at j4
          exact Or.inr ((nI_b (by omega) hd).mp j4).symm
        · rw [sg_n w] at j2
          exact Or.inl ((a3 d hd).mpr ⟨j, j1, j2, j3, j4⟩)
  · rw [if_neg c]
    refine ⟨_, rfl, key _ rfl (fun t a d q => rfl) (fun d hd => ?_), hkc, m9⟩
    have e0 : (sI (sI (sI M1 16 0 k 1) 17 0 k 1) 14 0 10 (nI (hct (ah A) 48 + 1))).2 14 0 11 = M.2 14 0 11 := r11
    rw [e0, a3 d hd]
    constructor
    · rintro ⟨j, j1, j2, j3, j4⟩
      refine ⟨j, j1, ?_, j3, j4⟩
      by_cases w : j = k
      · rw [w, sg_s]
      · rw [sg_n w]
        exact j2
    · rintro ⟨j, j1, j2, j3, j4⟩
      by_cases w : j = k
      · subst w
        exact absurd j3 c
      · rw [sg_n w] at j2
        exact ⟨j, j1, j2, j3, j4⟩
noncomputable def mtA (n : Nat) (sup : Nat → Nat) (fc : Nat → Int32) (A : AS) (g : Nat) (f : Fr) : AS := if ah A g = true then (if fd (af A g) = fd f then (ah A, (if pB (chg n sup fc (af A g) f) = true then sg (ac A) g true else ac A), an A, sg (af A) g (jnF n sup fc (af A g) f)) else A) else (sg (ah A) g true, sg (ac A) g true, an A, sg (af A) g f)
def mtE (A : AS) (g : Nat) (f : Fr) : Nat := if ah A g = true then (if fd (af A g) = fd f then 0 else 4) else 0
theorem e_meet28 {n : Nat} {sup : Nat → Nat} {fc : Nat → Int32} {P : MT} {A : AS} {i g : Nat} {f : Fr} {M : Mm} (hT : TOk n sup fc) (hC : TCl n sup fc M) (hP : CMe P M) (hS : SBk P) (hA : CA P A M) (hf : Cf M i f) (hi : i < 2) (hk : g < 48) (hkm : g < pm P) : ∃ M', F_W_meet_b28 (nI g) i M = some (nI (mtE A g f), M') ∧ CA P (mtA n sup fc A g f) M' ∧ KC 2 M M' ∧ M'.1 14 0 9 = (if mtE A g f = 4 then nI g else M.1 14 0 9) := by
  obtain ⟨d1, d2, d3, d4⟩ := hA.1 g hk
  unfold F_W_meet_b28 mtA mtE
  rw [bnd_nI hk (by decide), nI_clamp (by omega), d1]
  by_cases c : ah A g = true
  · rw [if_neg (fun z => by rw [bI0.mp z] at c; cases c), bnd_nI hk (by decide), if_pos c, if_pos c]
    have hg := d4 c
    rw [hg.2.1, hf.2.1]
    have l1 := hg.1
    have l2 := hf.1
    by_cases c2 : fd (af A g) = fd f
    · rw [if_pos (by rw [c2]), bnd_nI hk (by decide), if_pos c2, if_pos c2]
      obtain ⟨v, M1, b1, b2, b3, b4⟩ := e_absorb (i := g + 2) (o := i) hT hC (by omega) hg hf c2
      rw [b1, bd_some]
      have key : ∀ (M2 : Mm) (z : Nat → Bool), (∀ t a k, ¬ t = 17 → M2.1 t a k = M1.1 t a k) → M2.2 = M1.2 → (∀ k, k < 48 → M2.1 17 0 k = bI (z k)) → CA P (ah A, z, an A, sg (af A) g (jnF n sup fc (af A g) f)) M2 := by
        intro M2 z e1 e2 e3
        obtain ⟨a1, a2, a3⟩ := hA
        refine ⟨fun j hj => ?_, ?_, ?_⟩
        · obtain ⟨x1, x2, x3, x4⟩ := a1 j hj
          refine ⟨?_, e3 j hj, ?_, fun q => ?_⟩
          · rw [e1 _ _ _ (by omega), b4.1 16 0 j (by omega)]
            exact x1
          · rw [e2, b4.2 18 0 j (by omega)]
            exact x3
          · have fr1 : ∀ g, Cf M1 (j + 2) g → Cf M2 (j + 2) g := by
              intro g hg
              obtain ⟨h1, h2, h3, h4, h5, h6, h7⟩ := hg
              refine ⟨h1, ?_, fun a ha => ?_, fun a ha => ?_, ?_, h6, fun b hb => ?_⟩
              · rw [e1 _ _ _ (by omega)]; exact h2
              · rw [e1 _ _ _ (by omega)]; exact h3 a ha
              · rw [e1 _ _ _ (by omega)]; exact h4 a ha
              · rw [e2]; exact h5
              · rw [e1 _ _ _ (by omega)]; exact h7 b hb
            by_cases q2 : j = g
            · subst q2
              show Cf M2 (j + 2) (sg (af A) j _ j)
              rw [sg_s]
              exact fr1 _ b3
            · show Cf M2 (j + 2) (sg (af A) g _ j)
              rw [sg_n q2]
              exact fr1 _ ((x4 q).kp b4 (by omega))
        · rw [e1 _ _ _ (by omega), b4.1 14 0 10 (by omega)]
          exact a2
        · rw [e2, b4.2 14 0 11 (by omega)]
          exact a3
      have m17 : ∀ k, k < 48 → M1.1 17 0 k = bI (ac A k) := fun k hk => by
        rw [b4.1 17 0 k (by omega)]
        exact (hA.1 k hk).2.1
      by_cases c3 : chg n sup fc (af A g) f
      · rw [if_neg (fun z => (b2.z.mp z) c3), bnd_nI hk (by decide), lt_v, nar1, if_pos (pBt.mpr c3)]
        refine ⟨_, rfl, key _ _ (fun t a k q => ?_) rfl (fun k hk2 => ?_), (b4.kc (by omega)).tr (KC.sI (by omega)), ?_⟩
        · rw [sI1, if_neg (fun z => q z.1)]
        · rw [sI1]
          by_cases q : k = g
          · rw [if_pos ⟨rfl, rfl, q⟩, q, sg_s]
            rfl
          · rw [if_neg (fun z => q z.2.2), sg_n q]
            exact m17 k hk2
        · rw [sI1, if_neg (by omega), if_neg (by decide)]
          exact b4.1 14 0 9 (by omega)
      · rw [if_pos (b2.z.mpr c3), if_neg (fun z => c3 (pBt.mp z))]
        refine ⟨_, rfl, key _ _ (fun t a k q => rfl) rfl m17, b4.kc (by omega), ?_⟩
        rw [if_neg (by decide)]
        exact b4.1 14 0 9 (by omega)
    · rw [if_neg (fun z => c2 ((nI_eq (by omega) (by omega)).mp z)), lt_v, if_neg c2, if_neg c2]
      refine ⟨_, rfl, ?_, KC.sI (by omega), ?_⟩
      · obtain ⟨a1, a2, a3⟩ := hA
        refine ⟨fun j hj => ?_, ?_, a3⟩
        · obtain ⟨x1, x2, x3, x4⟩ := a1 j hj
          refine ⟨?_, ?_, x3, fun q => ?_⟩
          · rw [sI1, if_neg (by omega)]; exact x1
          · rw [sI1, if_neg (by omega)]; exact x2
          · obtain ⟨h1, h2, h3, h4, h5, h6, h7⟩ := x4 q
            refine ⟨h1, ?_, fun a ha => ?_, fun a ha => ?_, h5, h6, fun b hb => ?_⟩
            · rw [sI1, if_neg (by omega)]; exact h2
            · rw [sI1, if_neg (by omega)]; exact h3 a ha
            · rw [sI1, if_neg (by omega)]; exact h4 a ha
            · rw [sI1, if_neg (by omega)]; exact h7 b hb
        · rw [sI1, if_neg (by omega)]; exact a2
      · rw [sI1, if_pos ⟨rfl, rfl, rfl⟩, if_pos rfl]
  · have c' : ah A g = false := by
      cases q : ah A g
      · rfl
      · exact absurd q c
    obtain ⟨M', e1, e2, e3, e4⟩ := e_reach hP hS hA hf hi hk hkm c'
    rw [if_pos (bI0.mpr c'), e1, bv_some, if_neg c, if_neg c]
    refine ⟨M', rfl, e2, e3, ?_⟩
    rw [if_neg (by decide)]
    exact e4
noncomputable def goE (P : MT) (A : AS) (k g : Nat) (f : Fr) : Nat := if g < pm P then (if ¬ k < g ∧ pB (hraw f) = true then 8 else mtE A g f) else 5
noncomputable def goA (n : Nat) (sup : Nat → Nat) (fc : Nat → Int32) (P : MT) (A : AS) (k g : Nat) (f : Fr) : AS := if g < pm P then (if ¬ k < g ∧ pB (hraw f) = true then A else mtA n sup fc A g f) else A
noncomputable def goP (P : MT) (A : AS) (k g : Nat) (f : Fr) : Nat := if goE P A k g f = 4 then g else k
theorem mtE_2 (A : AS) (g : Nat) (f : Fr) : mtE A g f = 0 ∨ mtE A g f = 4 := by
  unfold mtE
  split
  · split
    · exact Or.inl rfl
    · exact Or.inr rfl
  · exact Or.inl rfl
theorem e_meetC {n : Nat} {sup : Nat → Nat} {fc : Nat → Int32} {P : MT} {A : AS} {i g k : Nat} {f : Fr} {M : Mm} (hT : TOk n sup fc) (hC : TCl n sup fc M) (hO : MOk P) (hP : CMe P M) (hS : SBk P) (hA : CA P A M) (hf : Cf M i f) (hi : i < 2) (hk : k < 48) (hg : g ≤ 48) (hp : M.1 14 0 9 = nI k) : ∃ M', F_W_meet (nI k) (nI g) i M = some (nI (goE P A k g f), M') ∧ CA P (goA n sup fc P A k g f) M' ∧ KC 2 M M' ∧ M'.1 14 0 9 = nI (goP P A k g f) := by
  have hm := hO.1
  unfold F_W_meet goP goE goA
  rw [hP.1]
  by_cases c : g < pm P
  · rw [if_pos (nI_lt c (by omega)), if_pos c, if_pos c]
    obtain ⟨M', e1, e2, e3, e4⟩ := e_meet28 hT hC hP hS hA hf hi (by omega) c
    have e4' : M'.1 14 0 9 = nI (if mtE A g f = 4 then g else k) := by
      rw [e4, hp]
      split <;> rfl
    by_cases c2 : k < g
    · rw [if_pos (nI_lt c2 (by omega)), if_neg (fun z => z.1 c2), if_neg (fun z => z.1 c2)]
      exact ⟨M', e1, e2, e3, e4'⟩
    · rw [if_neg (nI_nlt (by omega) (by omega))]
      obtain ⟨r, h1, h2⟩ := e_hasRaw hf
      rw [h1, bd_some]
      rcases h2 with ⟨h2, h3⟩ | ⟨h2, h3⟩
      · rw [h2, if_neg (by decide), if_pos ⟨c2, pBt.mpr h3⟩, if_pos ⟨c2, pBt.mpr h3⟩]
        exact ⟨M, rfl, hA, KC.rf, by rw [if_neg (by decide)]; exact hp⟩
      · rw [h2, if_pos rfl, if_neg (fun z => h3 (pBt.mp z.2)), if_neg (fun z => h3 (pBt.mp z.2))]
        exact ⟨M', e1, e2, e3, e4'⟩
  · rw [if_neg (nI_nlt (by omega) (by omega)), if_neg c, if_neg c]
    exact ⟨M, rfl, hA, KC.rf, by rw [if_neg (by decide)]; exact hp⟩
theorem e_meetC0 {n : Nat} {sup : Nat → Nat} {fc : Nat → Int32} {P : MT} {A : AS} {i g : Nat} {f : Fr} {M : Mm} (hT : TOk n sup fc) (hC : TCl n sup fc M) (hO : MOk P) (hP : CMe P M) (hS : SBk P) (hA : CA P A M) (hf : Cf M i f) (hi : i < 2) (hg : g < pm P) : ∃ M', F_W_meet (-1) (nI g) i M = some (nI (mtE A g f), M') ∧ CA P (mtA n sup fc A g f) M' ∧ KC 2 M M' ∧ M'.1 14 0 9 = (if mtE A g f = 4 then nI g else M.1 14 0 9) := by
  have hm := hO.1
  unfold F_W_meet
  rw [hP.1, if_pos (nI_lt hg (by omega)), if_pos (show (-1 : Int32) < nI g from ?_)]
  · exact e_meet28 hT hC hP hS hA hf hi (by omega) hg
  · rw [Int32.lt_iff_toInt_lt, nI_toInt (by omega)]
    show (-1 : Int) < _
    omega
