/-! The reference's loops and its MEET. -/
def KX (S S2 : Nat → Nat → Prop) (M M' : Mm) : Prop := (∀ t k, ¬ S t k → M'.1 t 0 k = M.1 t 0 k) ∧ ∀ t k, ¬ S2 t k → M'.2 t 0 k = M.2 t 0 k
theorem KX.rf {S S2 : Nat → Nat → Prop} {M : Mm} : KX S S2 M M := ⟨fun _ _ _ => rfl, fun _ _ _ => rfl⟩
theorem KX.tr {S S2 : Nat → Nat → Prop} {M M' M2 : Mm} (h : KX S S2 M M') (h2 : KX S S2 M' M2) : KX S S2 M M2 := ⟨fun t k q => (h2.1 t k q).trans (h.1 t k q), fun t k q => (h2.2 t k q).trans (h.2 t k q)⟩
theorem KX.mono {S S2 R R2 : Nat → Nat → Prop} {M M' : Mm} (h : KX S S2 M M') (e : ∀ t k, S t k → R t k) (e2 : ∀ t k, S2 t k → R2 t k) : KX R R2 M M' := ⟨fun t k q => h.1 t k (fun z => q (e t k z)), fun t k q => h.2 t k (fun z => q (e2 t k z))⟩
theorem KX.sI {S S2 : Nat → Nat → Prop} {M : Mm} {t k : Nat} {v : Int32} (h : S t k) : KX S S2 M (sI M t 0 k v) := by
  refine ⟨fun a c q => ?_, fun _ _ _ => rfl⟩
  rw [sI1, if_neg (fun z => q (by rw [z.1, z.2.2]; exact h))]
theorem KX.sL {S S2 : Nat → Nat → Prop} {M : Mm} {t k : Nat} {v : Int64} (h : S2 t k) : KX S S2 M (sL M t 0 k v) := by
  refine ⟨fun _ _ _ => rfl, fun a c q => ?_⟩
  rw [sL2, if_neg (fun z => q (by rw [z.1, z.2.2]; exact h))]
/-- cells lo + j .. lo + N of a row get the values v -/
def rg (M : Mm) (t lo j N : Nat) (v : Nat → Int32) : Mm := (fun a b c => if a = t ∧ b = 0 ∧ lo + j ≤ c ∧ c < lo + N then v (c - lo) else M.1 a b c, M.2)
theorem rg1 {M : Mm} {t lo j N a b c : Nat} {v : Nat → Int32} : (rg M t lo j N v).1 a b c = if a = t ∧ b = 0 ∧ lo + j ≤ c ∧ c < lo + N then v (c - lo) else M.1 a b c := rfl
theorem rg2 {M : Mm} {t lo j N : Nat} {v : Nat → Int32} : (rg M t lo j N v).2 = M.2 := rfl
theorem rg_in {M : Mm} {t lo N k : Nat} {v : Nat → Int32} (h : k < N) : (rg M t lo 0 N v).1 t 0 (lo + k) = v k := by
  rw [rg1, if_pos ⟨rfl, rfl, by omega, by omega⟩]
  congr 1
  omega
theorem rg_out {M : Mm} {t lo j N a c : Nat} {v : Nat → Int32} (h : ¬ (a = t ∧ lo ≤ c ∧ c < lo + N)) : (rg M t lo j N v).1 a 0 c = M.1 a 0 c := by
  rw [rg1, if_neg (fun z => h ⟨z.1, by omega, z.2.2.2⟩)]
theorem rg_s {M : Mm} {t lo j N : Nat} {v : Nat → Int32} (h : j < N) : rg (sI M t 0 (lo + j) (v j)) t lo (j + 1) N v = rg M t lo j N v := by
  refine Prod.ext ?_ rfl
  funext a b c
  show (rg (sI M t 0 (lo + j) (v j)) t lo (j + 1) N v).1 a b c = (rg M t lo j N v).1 a b c
  rw [rg1, rg1]
  by_cases q : a = t ∧ b = 0 ∧ lo + j ≤ c ∧ c < lo + N
  · rw [if_pos q]
    by_cases q2 : c = lo + j
    · rw [if_neg (by omega), sI1, if_pos ⟨q.1, q.2.1, q2⟩]
      congr 1
      omega
    · rw [if_pos ⟨q.1, q.2.1, by omega, q.2.2.2⟩]
  · rw [if_neg q, if_neg (fun z => q ⟨z.1, z.2.1, by omega, z.2.2.2⟩), sI1, if_neg (fun z => q ⟨z.1, z.2.1, by omega, by omega⟩)]
theorem rg_e {M : Mm} {t lo N : Nat} {v : Nat → Int32} : rg M t lo N N v = M := by
  refine Prod.ext ?_ rfl
  funext a b c
  show (rg M t lo N N v).1 a b c = _
  rw [rg1, if_neg (by omega)]
theorem sI_same {M : Mm} {t i k : Nat} : sI M t i k (M.1 t i k) = M := by
  refine Prod.ext ?_ rfl
  funext a b c
  show (sI M t i k (M.1 t i k)).1 a b c = _
  rw [sI1]
  split
  · rename_i z
    rw [z.1, z.2.1, z.2.2]
  · rfl
theorem lpR {α σ : Type} {L : Nat → Int32 → σ → Mm → Option α} {t lo N : Nat} {v : Nat → Int32} {Q : Nat → σ → Mm → Prop} {fin : σ → Mm → Option α} (hs : ∀ n j s M, j < N → Q j s M → ∃ s', Q (j + 1) s' (sI M t 0 (lo + j) (v j)) ∧ L (n + 1) (nI j) s M = L n (nI (j + 1)) s' (sI M t 0 (lo + j) (v j))) (he : ∀ n s M, Q N s M → L (n + 1) (nI N) s M = fin s M) : ∀ n j s M, N < j + n → j ≤ N → Q j s M → ∃ s', Q N s' (rg M t lo j N v) ∧ L n (nI j) s M = fin s' (rg M t lo j N v) := by
  intro n
  induction n with
  | zero =>
    intro j s M h1 h2
    omega
  | succ n ih =>
    intro j s M h1 h2 h3
    by_cases q : j = N
    · subst q
      rw [rg_e]
      exact ⟨s, h3, he n s M h3⟩
    · obtain ⟨s', a1, a2⟩ := hs n j s M (by omega) h3
      obtain ⟨s2, b1, b2⟩ := ih (j + 1) s' _ (by omega) (by omega) a1
      rw [rg_s (by omega)] at b1 b2
      exact ⟨s2, b1, by rw [a2, b2]⟩
theorem lpR0 {α : Type} {L : Nat → Int32 → Mm → Option α} {t lo N : Nat} {v : Nat → Int32} {Q : Mm → Prop} {fin : Mm → Option α} (hQ : ∀ M c x, Q M → Q (sI M t 0 c x)) (hs : ∀ n j M, j < N → Q M → L (n + 1) (nI j) M = L n (nI (j + 1)) (sI M t 0 (lo + j) (v j))) (he : ∀ n M, Q M → L (n + 1) (nI N) M = fin M) (n : Nat) (M : Mm) (hn : N < n) (h : Q M) : L n (nI 0) M = fin (rg M t lo 0 N v) := by
  obtain ⟨s, h1, h2⟩ := lpR (σ := Unit) (L := fun n i _ M => L n i M) (Q := fun _ _ M => Q M) (fin := fun _ M => fin M) (t := t) (lo := lo) (N := N) (v := v) (fun n j s M hj q => ⟨(), hQ M _ _ q, hs n j M hj q⟩) (fun n s M q => he n M q) n 0 () M (by omega) (by omega) h
  exact h2
theorem KX.rg {S S2 : Nat → Nat → Prop} {M : Mm} {t lo N : Nat} {v : Nat → Int32} (h : ∀ k, lo ≤ k → k < lo + N → S t k) : KX S S2 M (rg M t lo 0 N v) := by
  refine ⟨fun a c q => rg_out (fun z => q ?_), fun _ _ _ => rfl⟩
  rw [z.1]
  exact h c z.2.1 z.2.2
theorem nI12 {k r : Nat} : (12 : Int32) * nI k + nI r = nI (12 * k + r) := by
  rw [show (12 : Int32) = nI 12 from rfl, pk_mul, nI_add]
theorem nI48 {k r : Nat} : (48 : Int32) * nI k + nI r = nI (48 * k + r) := by
  rw [show (48 : Int32) = nI 48 from rfl, pk_mul, nI_add]
theorem ge48 {j : Nat} (h : j < 48) : ¬ (48 : Int32) ≤ nI j := nI_ge (b := 48) h (by decide)
theorem ge12 {j : Nat} (h : j < 12) : ¬ (12 : Int32) ≤ nI j := nI_ge (b := 12) h (by decide)
theorem le48 : (48 : Int32) ≤ nI 48 := by decide
theorem le12 : (12 : Int32) ≤ nI 12 := by decide
/-- STATES of the reference: g's own; the one that comes; the one in which is done -/
def Ds (M : Mm) (g : Nat) (f : Fr) : Prop := fd f ≤ 12 ∧ M.1 45 0 g = nI (fd f) ∧ (∀ j, j < 12 → M.1 43 0 (12 * g + j) = fl f j) ∧ (∀ j, j < fd f → M.1 44 0 (12 * g + j) = fs f j) ∧ M.2 47 0 g = fb f ∧ (∀ b, 48 ≤ b → bq (fb f) b = false) ∧ ∀ b, b < 48 → bq (fb f) b = true → M.1 46 0 (48 * g + b) = ft f b
def Dt (M : Mm) (f : Fr) : Prop := fd f ≤ 12 ∧ M.1 30 0 33 = nI (fd f) ∧ (∀ j, j < 12 → M.1 52 0 j = fl f j) ∧ (∀ j, j < fd f → M.1 53 0 j = fs f j) ∧ M.2 30 0 40 = fb f ∧ (∀ b, 48 ≤ b → bq (fb f) b = false) ∧ ∀ b, b < 48 → bq (fb f) b = true → M.1 54 0 b = ft f b
def DA (A : AS) (M : Mm) : Prop := ∀ k, k < 48 → M.1 41 0 k = bI (ah A k) ∧ M.1 42 0 k = bI (ac A k) ∧ M.2 48 0 k = an A k ∧ (ah A k = true → Ds M k (af A k))
theorem Ds_cg {M M' : Mm} {g : Nat} {f : Fr} (h : Ds M g f) (e1 : ∀ t k, 43 ≤ t → t ≤ 46 → (t = 45 → k = g) → (t = 43 ∨ t = 44 → 12 * g ≤ k ∧ k < 12 * g + 12) → (t = 46 → 48 * g ≤ k ∧ k < 48 * g + 48) → M'.1 t 0 k = M.1 t 0 k) (e2 : M'.2 47 0 g = M.2 47 0 g) : Ds M' g f := by
  obtain ⟨h1, h2, h3, h4, h5, h6, h7⟩ := h
  refine ⟨h1, ?_, fun j hj => ?_, fun j hj => ?_, ?_, h6, fun b hb hq => ?_⟩
  · rw [e1 45 g (by omega) (by omega) (by omega) (by omega) (by omega)]
    exact h2
  · rw [e1 43 _ (by omega) (by omega) (by omega) (by omega) (by omega)]
    exact h3 j hj
  · rw [e1 44 _ (by omega) (by omega) (by omega) (by omega) (by omega)]
    exact h4 j hj
  · rw [e2]
    exact h5
  · rw [e1 46 _ (by omega) (by omega) (by omega) (by omega) (by omega)]
    exact h7 b hb hq
abbrev Smt (t k : Nat) : Prop := (41 ≤ t ∧ t ≤ 46) ∨ (t = 30 ∧ (k = 34 ∨ k = 35))
abbrev Smt2 (t _k : Nat) : Prop := t = 47
theorem e_mcopy {g : Nat} {f : Fr} {M : Mm} (hg : g < 48) (ht : Dt M f) : F_D_meet_b45 fuel (nI g) 0 M = some (rg (rg (rg M 43 (12 * g) 0 12 (fun j => M.1 52 0 j)) 44 (12 * g) 0 (fd f) (fun j => M.1 53 0 j)) 46 (48 * g) 0 48 (fun j => M.1 54 0 j)) := by
  obtain ⟨h1, h2, h3, h4, h5, h6, h7⟩ := ht
  have a1 : ∀ M1 : Mm, F_D_meet_b109 fuel (nI g) 0 M1 = some (rg M1 46 (48 * g) 0 48 (fun j => M1.1 54 0 j)) := by
    intro M1
    refine lpR0 (L := fun n i M => F_D_meet_b109 n (nI g) i M) (Q := fun M => ∀ j, M.1 54 0 j = M1.1 54 0 j) (fin := fun M => some M) (fun M c x q j => ?_) (fun n j M hj q => ?_) (fun n M q => ?_) fuel M1 (by show 48 < 100000; omega) (fun _ => rfl)
    · rw [sI1, if_neg (by omega)]
      exact q j
    · show F_D_meet_b109 (n + 1) (nI g) (nI j) M = F_D_meet_b109 n (nI g) (nI (j + 1)) _
      rw [F_D_meet_b109, if_neg (ge48 hj), bnd_nI hj (by decide), nI48, bnd_nI (by omega) (by decide), lt_v, lt_v, nI_clamp (by omega), nI_clamp (by omega), q j, nI_1]
    · show F_D_meet_b109 (n + 1) (nI g) (nI 48) M = _
      rw [F_D_meet_b109, if_pos le48]
  have a2 : ∀ M1 : Mm, M1.1 30 0 33 = nI (fd f) → F_D_meet_b76 fuel (nI g) 0 M1 = F_D_meet_b109 fuel (nI g) 0 (rg M1 44 (12 * g) 0 (fd f) (fun j => M1.1 53 0 j)) := by
    intro M1 hd
    refine lpR0 (L := fun n i M => F_D_meet_b76 n (nI g) i M) (Q := fun M => M.1 30 0 33 = nI (fd f) ∧ ∀ j, M.1 53 0 j = M1.1 53 0 j) (fin := fun M => F_D_meet_b109 fuel (nI g) 0 M) (fun M c x q => ⟨?_, fun j => ?_⟩) (fun n j M hj q => ?_) (fun n M q => ?_) fuel M1 (by show fd f < 100000; omega) ⟨hd, fun _ => rfl⟩
    · rw [sI1, if_neg (by omega)]
      exact q.1
    · rw [sI1, if_neg (by omega)]
      exact q.2 j
    · show F_D_meet_b76 (n + 1) (nI g) (nI j) M = F_D_meet_b76 n (nI g) (nI (j + 1)) _
      rw [F_D_meet_b76, q.1, if_neg (nI_ge hj (by omega)), bnd_nI (by omega) (by decide), nI12, bnd_nI (by omega) (by decide), lt_v, lt_v, nI_clamp (by omega), nI_clamp (by omega), q.2 j, nI_1]
    · show F_D_meet_b76 (n + 1) (nI g) (nI (fd f)) M = _
      rw [F_D_meet_b76, q.1, if_pos (nI_le (Nat.le_refl _) (by omega))]
  have a3 : F_D_meet_b45 fuel (nI g) 0 M = F_D_meet_b76 fuel (nI g) 0 (rg M 43 (12 * g) 0 12 (fun j => M.1 52 0 j)) := by
    refine lpR0 (L := fun n i M => F_D_meet_b45 n (nI g) i M) (Q := fun M' => ∀ j, M'.1 52 0 j = M.1 52 0 j) (fin := fun M => F_D_meet_b76 fuel (nI g) 0 M) (fun M c x q j => ?_) (fun n j M hj q => ?_) (fun n M q => ?_) fuel M (by show 12 < 100000; omega) (fun _ => rfl)
    · rw [sI1, if_neg (by omega)]
      exact q j
    · show F_D_meet_b45 (n + 1) (nI g) (nI j) M = F_D_meet_b45 n (nI g) (nI (j + 1)) _
      rw [F_D_meet_b45, if_neg (ge12 hj), bnd_nI hj (by decide), nI12, bnd_nI (by omega) (by decide), lt_v, lt_v, nI_clamp (by omega), nI_clamp (by omega), q j, nI_1]
    · show F_D_meet_b45 (n + 1) (nI g) (nI 12) M = _
      rw [F_D_meet_b45, if_pos le12]
  rw [a3, a2 _ (by rw [rg_out (by omega)]; exact h2), a1]
  have e1 : (fun j => (rg M 43 (12 * g) 0 12 (fun j => M.1 52 0 j)).1 53 0 j) = fun j => M.1 53 0 j := by
    funext j
    rw [rg_out (by omega)]
  rw [e1]
  have e2 : (fun j => (rg (rg M 43 (12 * g) 0 12 (fun j => M.1 52 0 j)) 44 (12 * g) 0 (fd f) (fun j => M.1 53 0 j)).1 54 0 j) = fun j => M.1 54 0 j := by
    funext j
    rw [rg_out (by omega), rg_out (by omega)]
  rw [e2]
theorem orz {w : Int32} (h : zo w) : w ||| 0 = w ∧ w ||| 1 = 1 := by
  rcases h with rfl | rfl
  · exact ⟨by decide, by decide⟩
  · exact ⟨by decide, by decide⟩
/-- joining into a reached one -/
theorem e_mjoin {n0 : Nat} {sup : Nat → Nat} {fc : Nat → Int32} {g : Nat} {f h : Fr} {M : Mm} {w : Int32} {p : Prop} (hT : TOk n0 sup fc) (hR : TRe n0 sup fc M) (hg : g < 48) (ht : Dt M f) (hd : fd h = fd f) (s1 : ∀ j, j < 12 → M.1 43 0 (12 * g + j) = fl h j) (s2 : ∀ j, j < fd f → M.1 44 0 (12 * g + j) = fs h j) (s3 : M.2 47 0 g = fb h &&& fb f) (s4 : ∀ b, b < 48 → bq (fb h &&& fb f) b = true → M.1 46 0 (48 * g + b) = ft h b) (hw : fg w p) : ∃ w' v46, fg w' (((p ∨ ∃ j, j < 12 ∧ ch3 n0 sup fc h f j) ∨ ∃ j, j < fd f ∧ ch4 n0 sup fc h f j) ∨ ∃ b, b < 48 ∧ ch2 h f b) ∧ (∀ b, b < 48 → bq (fb h &&& fb f) b = true → v46 b = ft h b ||| ft f b) ∧ F_D_meet_b201 fuel (nI g) w 0 M = (if w' = 0 then some (rg (rg (rg M 43 (12 * g) 0 12 (fun j => jn n0 sup fc (fl h j) (fl f j))) 44 (12 * g) 0 (fd f) (fun j => jn n0 sup fc (fs h j) (fs f j))) 46 (48 * g) 0 48 v46) else some (sI (rg (rg (rg M 43 (12 * g) 0 12 (fun j => jn n0 sup fc (fl h j) (fl f j))) 44 (12 * g) 0 (fd f) (fun j => jn n0 sup fc (fs h j) (fs f j))) 46 (48 * g) 0 48 v46) 42 0 g 1)) := by
  obtain ⟨h1, h2, h3, h4, h5, h6, h7⟩ := ht
  have st : ∀ t c x M', (t = 43 ∨ t = 44 ∨ t = 46) → TRe n0 sup fc M' → TRe n0 sup fc (sI M' t 0 c x) := fun t c x M' q z => TRe_cg z (by rw [sI1, if_neg (by omega)]) (fun a b c' q2 => by rw [sI1, if_neg (by omega)])
  have a3 : ∃ w', fg w' (p ∨ ∃ j, j < 12 ∧ ch3 n0 sup fc h f j) ∧ F_D_meet_b201 fuel (nI g) w 0 M = F_D_meet_b275 fuel (nI g) w' 0 (rg M 43 (12 * g) 0 12 (fun j => jn n0 sup fc (fl h j) (fl f j))) := by
    refine (lpR (σ := Int32) (L := fun n i w M => F_D_meet_b201 n (nI g) w i M) (t := 43) (lo := 12 * g) (N := 12) (v := fun j => jn n0 sup fc (fl h j) (fl f j)) (Q := fun j w M' => TRe n0 sup fc M' ∧ (∀ k, M'.1 52 0 k = M.1 52 0 k) ∧ (∀ k, j ≤ k → M'.1 43 0 (12 * g + k) = M.1 43 0 (12 * g + k)) ∧ fg w (p ∨ ∃ k, k < j ∧ ch3 n0 sup fc h f k)) (fin := fun w M => F_D_meet_b275 fuel (nI g) w 0 M) (fun n j w M' hj q => ?_) (fun n w M' q => ?_) fuel 0 w M (by show 12 < 0 + 100000; omega) (by omega) ⟨hR, fun _ => rfl, fun _ _ => rfl, hw.s0⟩).elim (fun w' q0 => ?_)
    · obtain ⟨z1, z2, z3, z4⟩ := q
      have qs : ∀ w', fg w' (p ∨ ∃ k, k < j + 1 ∧ ch3 n0 sup fc h f k) → (TRe n0 sup fc (sI M' 43 0 (12 * g + j) (jn n0 sup fc (fl h j) (fl f j))) ∧ (∀ k, (sI M' 43 0 (12 * g + j) (jn n0 sup fc (fl h j) (fl f j))).1 52 0 k = M.1 52 0 k) ∧ (∀ k, j + 1 ≤ k → (sI M' 43 0 (12 * g + j) (jn n0 sup fc (fl h j) (fl f j))).1 43 0 (12 * g + k) = M.1 43 0 (12 * g + k)) ∧ fg w' (p ∨ ∃ k, k < j + 1 ∧ ch3 n0 sup fc h f k)) := by
        intro w' hw'
        refine ⟨st _ _ _ _ (by omega) z1, fun k => ?_, fun k hk => ?_, hw'⟩
        · rw [sI1, if_neg (by omega)]
          exact z2 k
        · rw [sI1, if_neg (by omega)]
          exact z3 k (by omega)
      have e1 : F_D_meet_b201 (n + 1) (nI g) w (nI j) M' = (if jn n0 sup fc (fl h j) (fl f j) = fl h j then F_D_meet_b252 (F_D_meet_b201 n) (nI g) (nI j) (jn n0 sup fc (fl h j) (fl f j)) w 0 M' else F_D_meet_b252 (F_D_meet_b201 n) (nI g) (nI j) (jn n0 sup fc (fl h j) (fl f j)) w 1 M') := by
        rw [F_D_meet_b201, if_neg (ge12 hj), nI12, bnd_nI (by omega) (by decide), bnd_nI (by omega) (by decide), nI_clamp (by omega), nI_clamp (by omega), z3 j (Nat.le_refl j), z2 j, s1 j hj, h3 j hj, e_joinedD hT z1, bd_some, bnd_nI (by omega) (by decide), z3 j (Nat.le_refl j), s1 j hj]
      have e2 : ∀ x w', w ||| x = w' → F_D_meet_b252 (F_D_meet_b201 n) (nI g) (nI j) (jn n0 sup fc (fl h j) (fl f j)) w x M' = F_D_meet_b201 n (nI g) w' (nI (j + 1)) (sI M' 43 0 (12 * g + j) (jn n0 sup fc (fl h j) (fl f j))) := by
        intro x w' hx
        rw [F_D_meet_b252, lt_v, hx, nI12, bnd_nI (by omega) (by decide), lt_v, lt_v, nI_clamp (by omega), nI_1]
      show ∃ s', _ ∧ F_D_meet_b201 (n + 1) (nI g) w (nI j) M' = F_D_meet_b201 n (nI g) s' (nI (j + 1)) _
      rw [e1]
      by_cases c : jn n0 sup fc (fl h j) (fl f j) = fl h j
      · rw [if_pos c]
        exact ⟨w, qs w (z4.st (fun z => z c)), e2 0 w (orz z4.zo).1⟩
      · rw [if_neg c]
        exact ⟨1, qs 1 (fg.st1 c), e2 1 1 (orz z4.zo).2⟩
    · show F_D_meet_b201 (n + 1) (nI g) w (nI 12) M' = _
      rw [F_D_meet_b201, if_pos le12]
    · obtain ⟨q1, q2⟩ := q0
      exact ⟨w', q1.2.2.2, q2⟩
  obtain ⟨w1, hw1, e3⟩ := a3
  have a2 : ∀ (M1 : Mm), TRe n0 sup fc M1 → M1.1 30 0 33 = nI (fd f) → (∀ j, j < fd f → M1.1 44 0 (12 * g + j) = fs h j) → (∀ j, j < fd f → M1.1 53 0 j = fs f j) → ∃ w', fg w' ((p ∨ ∃ j, j < 12 ∧ ch3 n0 sup fc h f j) ∨ ∃ j, j < fd f ∧ ch4 n0 sup fc h f j) ∧ F_D_meet_b275 fuel (nI g) w1 0 M1 = F_D_meet_b351 fuel (nI g) w' 0 (rg M1 44 (12 * g) 0 (fd f) (fun j => jn n0 sup fc (fs h j) (fs f j))) := by
    intro M1 hR1 hd1 s21 h41
    refine (lpR (σ := Int32) (L := fun n i w M => F_D_meet_b275 n (nI g) w i M) (t := 44) (lo := 12 * g) (N := fd f) (v := fun j => jn n0 sup fc (fs h j) (fs f j)) (Q := fun j w M' => TRe n0 sup fc M' ∧ M'.1 30 0 33 = nI (fd f) ∧ (∀ k, k < fd f → M'.1 53 0 k = fs f k) ∧ (∀ k, j ≤ k → k < fd f → M'.1 44 0 (12 * g + k) = fs h k) ∧ fg w ((p ∨ ∃ j, j < 12 ∧ ch3 n0 sup fc h f j) ∨ ∃ k, k < j ∧ ch4 n0 sup fc h f k)) (fin := fun w M => F_D_meet_b351 fuel (nI g) w 0 M) (fun n j w M' hj q => ?_) (fun n w M' q => ?_) fuel 0 w1 M1 (by show fd f < 0 + 100000; omega) (by omega) ⟨hR1, hd1, h41, fun k _ hk => s21 k hk, hw1.s0⟩).elim (fun w' q0 => ?_)
    · obtain ⟨z1, z0, z2, z3, z4⟩ := q
      have qs : ∀ w', fg w' ((p ∨ ∃ j, j < 12 ∧ ch3 n0 sup fc h f j) ∨ ∃ k, k < j + 1 ∧ ch4 n0 sup fc h f k) → (TRe n0 sup fc (sI M' 44 0 (12 * g + j) (jn n0 sup fc (fs h j) (fs f j))) ∧ (sI M' 44 0 (12 * g + j) (jn n0 sup fc (fs h j) (fs f j))).1 30 0 33 = nI (fd f) ∧ (∀ k, k < fd f → (sI M' 44 0 (12 * g + j) (jn n0 sup fc (fs h j) (fs f j))).1 53 0 k = fs f k) ∧ (∀ k, j + 1 ≤ k → k < fd f → (sI M' 44 0 (12 * g + j) (jn n0 sup fc (fs h j) (fs f j))).1 44 0 (12 * g + k) = fs h k) ∧ fg w' ((p ∨ ∃ j, j < 12 ∧ ch3 n0 sup fc h f j) ∨ ∃ k, k < j + 1 ∧ ch4 n0 sup fc h f k)) := by
        intro w' hw'
        refine ⟨st _ _ _ _ (by omega) z1, ?_, fun k hk => ?_, fun k hk hk2 => ?_, hw'⟩
        · rw [sI1, if_neg (by omega)]
          exact z0
        · rw [sI1, if_neg (by omega)]
          exact z2 k hk
        · rw [sI1, if_neg (by omega)]
          exact z3 k (by omega) hk2
      have e1 : F_D_meet_b275 (n + 1) (nI g) w (nI j) M' = (if jn n0 sup fc (fs h j) (fs f j) = fs h j then F_D_meet_b328 (F_D_meet_b275 n) (nI g) (nI j) (jn n0 sup fc (fs h j) (fs f j)) w 0 M' else F_D_meet_b328 (F_D_meet_b275 n) (nI g) (nI j) (jn n0 sup fc (fs h j) (fs f j)) w 1 M') := by
        rw [F_D_meet_b275, z0, if_neg (nI_ge hj (by omega)), nI12, bnd_nI (by omega) (by decide), bnd_nI (by omega) (by decide), nI_clamp (by omega), nI_clamp (by omega), z3 j (Nat.le_refl j) hj, z2 j hj, e_joinedD hT z1, bd_some, bnd_nI (by omega) (by decide), z3 j (Nat.le_refl j) hj]
      have e2 : ∀ x w', w ||| x = w' → F_D_meet_b328 (F_D_meet_b275 n) (nI g) (nI j) (jn n0 sup fc (fs h j) (fs f j)) w x M' = F_D_meet_b275 n (nI g) w' (nI (j + 1)) (sI M' 44 0 (12 * g + j) (jn n0 sup fc (fs h j) (fs f j))) := by
        intro x w' hx
        rw [F_D_meet_b328, lt_v, hx, nI12, bnd_nI (by omega) (by decide), lt_v, lt_v, nI_clamp (by omega), nI_1]
      show ∃ s', _ ∧ F_D_meet_b275 (n + 1) (nI g) w (nI j) M' = F_D_meet_b275 n (nI g) s' (nI (j + 1)) _
      rw [e1]
      by_cases c : jn n0 sup fc (fs h j) (fs f j) = fs h j
      · rw [if_pos c]
        exact ⟨w, qs w (z4.st (fun z => z c)), e2 0 w (orz z4.zo).1⟩
      · rw [if_neg c]
        exact ⟨1, qs 1 (fg.st1 c), e2 1 1 (orz z4.zo).2⟩
    · show F_D_meet_b275 (n + 1) (nI g) w (nI (fd f)) M' = _
      rw [F_D_meet_b275, q.2.1, if_pos (nI_le (Nat.le_refl _) (by omega))]
    · obtain ⟨q1, q2⟩ := q0
      exact ⟨w', q1.2.2.2.2, q2⟩
  obtain ⟨w2, hw2, e4⟩ := a2 (rg M 43 (12 * g) 0 12 (fun j => jn n0 sup fc (fl h j) (fl f j))) (TRe_cg hR (rg_out (by omega)) (fun t i k q => by rw [rg1, if_neg (by omega)])) (by rw [rg_out (by omega)]; exact h2) (fun j hj => by rw [rg_out (by omega)]; exact s2 j hj) (fun j hj => by rw [rg_out (by omega)]; exact h4 j hj)
  have a1 : ∀ (M1 : Mm), M1.2 47 0 g = fb h &&& fb f → (∀ b, b < 48 → bq (fb h &&& fb f) b = true → M1.1 46 0 (48 * g + b) = ft h b) → (∀ b, b < 48 → bq (fb h &&& fb f) b = true → M1.1 54 0 b = ft f b) → ∃ w' v46, fg w' (((p ∨ ∃ j, j < 12 ∧ ch3 n0 sup fc h f j) ∨ ∃ j, j < fd f ∧ ch4 n0 sup fc h f j) ∨ ∃ b, b < 48 ∧ ch2 h f b) ∧ (∀ b, b < 48 → bq (fb h &&& fb f) b = true → v46 b = ft h b ||| ft f b) ∧ F_D_meet_b351 fuel (nI g) w2 0 M1 = (if w' = 0 then some (rg M1 46 (48 * g) 0 48 v46) else some (sI (rg M1 46 (48 * g) 0 48 v46) 42 0 g 1)) := by
    intro M1 k1 k2 k3
    refine (lpR (σ := Int32) (L := fun n i w M => F_D_meet_b351 n (nI g) w i M) (t := 46) (lo := 48 * g) (N := 48) (v := fun b => if bq (fb h &&& fb f) b then ft h b ||| ft f b else M1.1 46 0 (48 * g + b)) (Q := fun j w M' => M'.2 47 0 g = fb h &&& fb f ∧ (∀ b, j ≤ b → M'.1 46 0 (48 * g + b) = M1.1 46 0 (48 * g + b)) ∧ (∀ b, M'.1 54 0 b = M1.1 54 0 b) ∧ fg w (((p ∨ ∃ j, j < 12 ∧ ch3 n0 sup fc h f j) ∨ ∃ j, j < fd f ∧ ch4 n0 sup fc h f j) ∨ ∃ k, k < j ∧ ch2 h f k)) (fin := fun w M => if w = 0 then some M else some (sI M 42 0 g 1)) (fun n j w M' hj q => ?_) (fun n w M' q => ?_) fuel 0 w2 M1 (by show 48 < 0 + 100000; omega) (by omega) ⟨k1, fun _ _ => rfl, fun _ => rfl, hw2.s0⟩).elim (fun w' q0 => ?_)
    · obtain ⟨z1, z2, z3, z4⟩ := q
      have qs : ∀ w' x, fg w' (((p ∨ ∃ j, j < 12 ∧ ch3 n0 sup fc h f j) ∨ ∃ j, j < fd f ∧ ch4 n0 sup fc h f j) ∨ ∃ k, k < j + 1 ∧ ch2 h f k) → ((sI M' 46 0 (48 * g + j) x).2 47 0 g = fb h &&& fb f ∧ (∀ b, j + 1 ≤ b → (sI M' 46 0 (48 * g + j) x).1 46 0 (48 * g + b) = M1.1 46 0 (48 * g + b)) ∧ (∀ b, (sI M' 46 0 (48 * g + j) x).1 54 0 b = M1.1 54 0 b) ∧ fg w' (((p ∨ ∃ j, j < 12 ∧ ch3 n0 sup fc h f j) ∨ ∃ j, j < fd f ∧ ch4 n0 sup fc h f j) ∨ ∃ k, k < j + 1 ∧ ch2 h f k)) := by
        intro w' x hw'
        refine ⟨z1, fun k hk => ?_, fun k => ?_, hw'⟩
        · rw [sI1, if_neg (by omega)]
          exact z2 k (by omega)
        · rw [sI1, if_neg (by omega)]
          exact z3 k
      show ∃ s', _ ∧ F_D_meet_b351 (n + 1) (nI g) w (nI j) M' = F_D_meet_b351 n (nI g) s' (nI (j + 1)) _
      rw [F_D_meet_b351, if_neg (ge48 hj), bnd_nI hg (by decide), nI_clamp (by omega), z1]
      have e := bq_t0 (x := fb h &&& fb f) (b := j) (by omega)
      cases q : bq (fb h &&& fb f) j
      · rw [if_pos (e.mpr q), F_D_meet_b432, lt_v, nI_1, if_neg (by decide), ← z2 j (Nat.le_refl j)]
        refine ⟨w, qs w _ (z4.st (fun z => ?_)), ?_⟩
        · have z5 := z.1
          rw [q] at z5
          cases z5
        · rw [sI_same]
      · rw [if_pos (rfl : true = true), if_neg (fun z => by rw [e.mp z] at q; cases q), nI48, bnd_nI (by omega) (by decide), bnd_nI (by omega) (by decide), lt_v, bnd_nI (by omega) (by decide), nI_clamp (by omega), nI_clamp (by omega), z2 j (Nat.le_refl j), z3 j, k2 j hj q, k3 j hj q]
        have e2 : ∀ x w', w ||| x = w' → F_D_meet_b417 (F_D_meet_b351 n) (nI g) (nI j) (ft h j ||| ft f j) w x M' = F_D_meet_b351 n (nI g) w' (nI (j + 1)) (sI M' 46 0 (48 * g + j) (ft h j ||| ft f j)) := by
          intro x w' hx
          rw [F_D_meet_b417, lt_v, hx, nI48, bnd_nI (by omega) (by decide), lt_v, F_D_meet_b432, lt_v, nI_clamp (by omega), nI_1]
        by_cases c : ft h j ||| ft f j = ft h j
        · rw [if_pos c]
          exact ⟨w, qs w _ (z4.st (fun z => z.2 c)), e2 0 w (orz z4.zo).1⟩
        · rw [if_neg c]
          exact ⟨1, qs 1 _ (fg.st1 ⟨q, c⟩), e2 1 1 (orz z4.zo).2⟩
    · show F_D_meet_b351 (n + 1) (nI g) w (nI 48) M' = _
      rw [F_D_meet_b351, if_pos le48, bnd_nI hg (by decide), lt_v, nar1, nI_clamp (by omega)]
    · obtain ⟨q1, q2⟩ := q0
      exact ⟨w', _, q1.2.2.2, fun b hb hq => by rw [if_pos hq], q2⟩
  obtain ⟨w3, v46, q1, q2, q3⟩ := a1 (rg (rg M 43 (12 * g) 0 12 (fun j => jn n0 sup fc (fl h j) (fl f j))) 44 (12 * g) 0 (fd f) (fun j => jn n0 sup fc (fs h j) (fs f j))) s3 (fun b hb q => by rw [rg_out (by omega), rg_out (by omega)]; exact s4 b hb q) (fun b hb q => by
    rw [rg_out (by omega), rg_out (by omega)]
    refine h7 b hb ?_
    rw [bq_and, Bool.and_eq_true] at q
    exact q.2)
  exact ⟨w3, v46, q1, q2, by rw [e3, e4, q3]⟩

theorem kx_i {S S2 : Nat → Nat → Prop} {M0 M : Mm} {t c : Nat} {v : Int32} (k : KX S S2 M0 M) (h : S t c) : KX S S2 M0 (sI M t 0 c v) := k.tr (KX.sI h)
theorem kx_l {S S2 : Nat → Nat → Prop} {M0 M : Mm} {t c : Nat} {v : Int64} (k : KX S S2 M0 M) (h : S2 t c) : KX S S2 M0 (sL M t 0 c v) := k.tr (KX.sL h)
theorem kx_g {S S2 : Nat → Nat → Prop} {M0 M : Mm} {t lo N : Nat} {v : Nat → Int32} (k : KX S S2 M0 M) (h : ∀ c, lo ≤ c → c < lo + N → S t c) : KX S S2 M0 (rg M t lo 0 N v) := k.tr (KX.rg h)
