/-! What each INSTRUCTION does to a STATE: class and reference side by side. -/
def TK (f : Fr) : Prop := (∀ j, j < 12 → tok (fl f j)) ∧ ∀ j, j < fd f → tok (fs f j)
def Ou (P : MT) (Mc Mr : Mm) (oc od : Option (Int32 × Mm)) : Prop := (∃ Mc' Mr', oc = some (2, Mc') ∧ od = some (0, Mr') ∧ KF 0 Mc Mc' ∧ KH Mr Mr') ∨ ∃ f' Mr', od = some (1, Mr') ∧ Dh Mr' f' ∧ KH Mr Mr' ∧ TK f' ∧ (wt f' ≤ pS P → ∃ Mc', oc = some (0, Mc') ∧ Cf Mc' 0 f' ∧ KF 0 Mc Mc') ∧ (¬ wt f' ≤ pS P → ∃ Mc', oc = some (3, Mc') ∧ KF 0 Mc Mc')
def Cx (n : Nat) (sup : Nat → Nat) (fc : Nat → Int32) (P : MT) (f : Fr) (Mc Mr : Mm) : Prop := TOk n sup fc ∧ TCl n sup fc Mc ∧ TRe n sup fc Mr ∧ MOk P ∧ CMe P Mc ∧ DMe P Mr ∧ Cf Mc 0 f ∧ Dh Mr f ∧ TK f ∧ wt f ≤ pS P
theorem TRe_kx {n : Nat} {sup : Nat → Nat} {fc : Nat → Int32} {S S2 : Nat → Nat → Prop} {M M' : Mm} (h : TRe n sup fc M) (k : KX S S2 M M') (e : ∀ t c, (t = 31 ∨ t = 32 ∨ (t = 30 ∧ c = 2)) → ¬ S t c) : TRe n sup fc M' := by
  refine ⟨?_, ?_, fun c h0 hc => ?_, fun c hc => ?_⟩
  · rw [k.1 _ _ (e _ _ (by omega))]
    exact h.1
  · rw [k.1 _ _ (e _ _ (by omega))]
    exact h.2.1
  · rw [k.1 _ _ (e _ _ (by omega))]
    exact h.2.2.1 c h0 hc
  · rw [k.1 _ _ (e _ _ (by omega))]
    exact h.2.2.2 c hc
theorem DMe_kx {P : MT} {S S2 : Nat → Nat → Prop} {M M' : Mm} (h : DMe P M) (k : KX S S2 M M') (e : ∀ t c, ((33 ≤ t ∧ t ≤ 40) ∨ (t = 30 ∧ 11 ≤ c ∧ c ≤ 16)) → ¬ S t c) : DMe P M' := by
  obtain ⟨h1, h2, h3, h4, h5, h6, h7, h8, h9⟩ := h
  refine ⟨?_, ?_, ?_, ?_, ?_, ?_, fun j hj => ⟨?_, ?_, ?_⟩, fun j hj => ⟨?_, ?_, ?_, ?_⟩, fun j hj => ?_⟩
  · rw [k.1 _ _ (e _ _ (by omega))]; exact h1
  · rw [k.1 _ _ (e _ _ (by omega))]; exact h2
  · rw [k.1 _ _ (e _ _ (by omega))]; exact h3
  · rw [k.1 _ _ (e _ _ (by omega))]; exact h4
  · rw [k.1 _ _ (e _ _ (by omega))]; exact h5
  · rw [k.1 _ _ (e _ _ (by omega))]; exact h6
  · rw [k.1 _ _ (e _ _ (by omega))]; exact (h7 j hj).1
  · rw [k.1 _ _ (e _ _ (by omega))]; exact (h7 j hj).2.1
  · rw [k.1 _ _ (e _ _ (by omega))]; exact (h7 j hj).2.2
  · rw [k.1 _ _ (e _ _ (by omega))]; exact (h8 j hj).1
  · rw [k.1 _ _ (e _ _ (by omega))]; exact (h8 j hj).2.1
  · rw [k.1 _ _ (e _ _ (by omega))]; exact (h8 j hj).2.2.1
  · rw [k.1 _ _ (e _ _ (by omega))]; exact (h8 j hj).2.2.2
  · rw [k.1 _ _ (e _ _ (by omega))]; exact h9 j hj
theorem TRe_kh {n : Nat} {sup : Nat → Nat} {fc : Nat → Int32} {M M' : Mm} (h : TRe n sup fc M) (k : KH M M') : TRe n sup fc M' := TRe_kx h k (fun t c q z => by omega)
theorem wt_drp_le {f : Fr} {m : Nat} : wt (drp f m) ≤ wt f := wsum_mono (fs f) (Nat.sub_le (fd f) m)
theorem TK_drp {f : Fr} {m : Nat} (h : TK f) : TK (drp f m) := ⟨h.1, fun j hj => h.2 j (by have : j < fd f - m := hj; omega)⟩
theorem TK_psh {f : Fr} {v : Int32} (h : TK f) (hv : tok v) : TK (psh f v) := by
  refine ⟨h.1, fun j hj => ?_⟩
  have hj' : j < fd f + 1 := hj
  show tok (upd (fs f) (fd f) v j)
  by_cases q : j = fd f
  · rw [q, pk_us]
    exact hv
  · rw [pk_un q]
    exact h.2 j (by omega)
theorem TK_tch {f : Fr} {m : Int32} (h : TK f) : TK (tch f m) := h
theorem tok_tp {f : Fr} {e : Nat} (h : TK f) (he : ¬ tp f e = -1) : tok (tp f e) := by
  have c := tp_in he
  unfold tp
  rw [if_pos c]
  exact h.2 _ (by omega)
theorem tokN {j : Nat} (h : j < 256) : tok (nI j) := ⟨j, rfl, Or.inl h⟩
theorem tok_m1 {v : Int32} (h : tok v) : ¬ v = -1 := by
  obtain ⟨j, rfl, hj⟩ := h
  intro z
  have : (nI j).toInt = (-1 : Int32).toInt := by rw [z]
  rw [nI_toInt (by omega)] at this
  have e : (-1 : Int32).toInt = -1 := by decide
  rw [e] at this
  omega
theorem ou_push {P : MT} {f : Fr} {Mc Mc0 Mr0 : Mm} {od : Option (Int32 × Mm)} {v : Int32} (hO : MOk P) (hP : CMe P Mc) (hc : Cf Mc 0 f) (k0 : KF 0 Mc0 Mc) (tk : TK f) (hv : tok v) (h1 : ∃ Mr', od = some (1, Mr') ∧ Dh Mr' (psh f v) ∧ KH Mr0 Mr') : Ou P Mc0 Mr0 (F_R_push 0 v (Mc.1 4 0 13) Mc) od := by
  obtain ⟨Mr', a1, a2, a3⟩ := h1
  obtain ⟨p1, p2⟩ := e_push (v := v) (m := pS P) hc hO.2.2.2.2.1
  rw [hP.2.2.2.2.2.1]
  refine Or.inr ⟨psh f v, Mr', a1, a2, a3, TK_psh tk hv, fun w => ?_, fun w => ?_⟩
  · obtain ⟨M', e1, e2, e3⟩ := p1 w
    exact ⟨M', e1, e2, k0.tr e3⟩
  · exact ⟨Mc, p2 w, k0⟩
theorem KF.me {P : MT} {i : Nat} {M M' : Mm} (k : KF i M M') (h : CMe P M) : CMe P M' := CMe_cg h (fun t a c q => k.1 t a c (by omega))
theorem KF.ty {n : Nat} {sup : Nat → Nat} {fc : Nat → Int32} {i : Nat} {M M' : Mm} (k : KF i M M') (h : TCl n sup fc M) : TCl n sup fc M' := TCl_cg h (fun t a c _ q => k.1 t a c (by omega))
theorem ou_take {P : MT} {f : Fr} {Mc Mr : Mm} {od : Option (Int32 × Mm)} {m : Nat} {r : Int32} {p : Prop} (hc : Cf Mc 0 f) (tk : TK f) (hw : wt f ≤ pS P) (hm : p → m ≤ fd f) (hr : fg r p) (h1 : p → ∃ Mr', od = some (1, Mr') ∧ Dh Mr' (drp f m) ∧ KH Mr Mr') (h0 : ¬ p → ∃ Mr', od = some (0, Mr') ∧ KH Mr Mr') : Ou P Mc Mr (F_W_takeIf r (nI m) Mc) od := by
  unfold F_W_takeIf
  rcases hr with ⟨hr, hp⟩ | ⟨hr, hp⟩
  · rw [hr, if_neg (by decide)]
    obtain ⟨Mr', a1, a2, a3⟩ := h1 hp
    obtain ⟨M', e1, e2, e3⟩ := e_drop hc (hm hp)
    rw [e1, bv_some]
    have hw2 : wt (drp f m) ≤ pS P := Nat.le_trans wt_drp_le hw
    exact Or.inr ⟨drp f m, Mr', a1, a2, a3, TK_drp tk, fun _ => ⟨M', rfl, e2, e3⟩, fun w => absurd hw2 w⟩
  · rw [hr, if_pos rfl]
    obtain ⟨Mr', a1, a2⟩ := h0 hp
    exact Or.inl ⟨Mc, Mr', rfl, a1, KF.rf, a2⟩
theorem ou_exch {P : MT} {f : Fr} {Mc Mr : Mm} {od : Option (Int32 × Mm)} {m : Nat} {r v : Int32} {p : Prop} (hO : MOk P) (hP : CMe P Mc) (hc : Cf Mc 0 f) (tk : TK f) (hv : tok v) (hm : p → m ≤ fd f) (hr : fg r p) (h1 : p → ∃ Mr', od = some (1, Mr') ∧ Dh Mr' (psh (drp f m) v) ∧ KH Mr Mr') (h0 : ¬ p → ∃ Mr', od = some (0, Mr') ∧ KH Mr Mr') : Ou P Mc Mr (F_W_exchangeIf r (nI m) v Mc) od := by
  unfold F_W_exchangeIf
  rcases hr with ⟨hr, hp⟩ | ⟨hr, hp⟩
  · rw [hr, if_neg (by decide)]
    obtain ⟨M', e1, e2, e3⟩ := e_drop hc (hm hp)
    rw [e1, bv_some, bd_ret]
    exact ou_push hO (e3.me hP) e2 e3 (TK_drp tk) hv (h1 hp)
  · rw [hr, if_pos rfl]
    obtain ⟨Mr', a1, a2⟩ := h0 hp
    exact Or.inl ⟨Mc, Mr', rfl, a1, KF.rf, a2⟩
theorem dec_fg {p : Prop} {v : Int32} (c : Decidable p) (h : v = @ite Int32 p c 1 0) : fg v p := by
  by_cases q : p
  · rw [if_pos q] at h
    exact Or.inl ⟨h, q⟩
  · rw [if_neg q] at h
    exact Or.inr ⟨h, q⟩
abbrev kB (r : Int32) (M : Mm) : Option (Int32 × Mm) := if r = 0 then some (0, M) else some (1, M)
abbrev kP (v : Int32) (r : Int32) (M : Mm) : Option (Int32 × Mm) := if r = 0 then some (0, M) else bd (F_D_put v M) kB
abbrev kZ (r : Int32) (M : Mm) : Option (Int32 × Mm) := bnz r (some (r, M))
abbrev kT (F : Mm → Option (Int32 × Mm)) (K : Int32 → Mm → Option (Int32 × Mm)) (r : Int32) (M : Mm) : Option (Int32 × Mm) := if r = 0 then some (0, M) else bd (F M) K
/-- an outcome of the reference: p and then the STATE g, or not p -/
abbrev Rs (p : Prop) (g : Fr) (M : Mm) (o : Option (Int32 × Mm)) : Prop := (p → ∃ M', o = some (1, M') ∧ Dh M' g ∧ KH M M') ∧ (¬ p → ∃ M', o = some (0, M') ∧ KH M M')
theorem Tk.rs {p : Prop} {f : Fr} {M : Mm} {o : Option (Int32 × Mm)} (h : Tk p f M o) : Rs p (drp f 1) M o := ⟨h.1, fun q => ⟨M, h.2 q, KX.rf⟩⟩
theorem rs_b {p : Prop} {g : Fr} {M : Mm} {o : Option (Int32 × Mm)} (h : Rs p g M o) : Rs p g M (bd o kB) := by
  constructor
  · intro q
    obtain ⟨M', e1, e2⟩ := h.1 q
    exact ⟨M', by rw [e1]; rfl, e2⟩
  · intro q
    obtain ⟨M', e1, e2⟩ := h.2 q
    exact ⟨M', by rw [e1]; rfl, e2⟩
theorem rs_z {p : Prop} {g : Fr} {M : Mm} {o : Option (Int32 × Mm)} (h : Rs p g M o) : Rs p g M (bd o kZ) := by
  constructor
  · intro q
    obtain ⟨M', e1, e2⟩ := h.1 q
    exact ⟨M', by rw [e1, bd_some, kZ, bnz_ok (Or.inr rfl)], e2⟩
  · intro q
    obtain ⟨M', e1, e2⟩ := h.2 q
    exact ⟨M', by rw [e1, bd_some, kZ, bnz_ok (Or.inl rfl)], e2⟩
theorem rs_p {p : Prop} {g : Fr} {M : Mm} {o : Option (Int32 × Mm)} {v : Int32} (h : Rs p g M o) (hd : fd g < 16) : Rs p (psh g v) M (bd o (kP v)) := by
  constructor
  · intro q
    obtain ⟨M', e1, e2, e3⟩ := h.1 q
    obtain ⟨M2, b1, b2, b3⟩ := e_put (v := v) e2 hd
    refine ⟨M2, ?_, b2, e3.tr b3⟩
    rw [e1, bd_some, kP, if_neg (by decide), b1, bd_some, kB, if_neg (by decide)]
  · intro q
    obtain ⟨M', e1, e2⟩ := h.2 q
    exact ⟨M', by rw [e1, bd_some, kP, if_pos rfl], e2⟩
/-- one taking after another, then what K makes of it -/
theorem rs_t {p q : Prop} {g g2 : Fr} {M : Mm} {o : Option (Int32 × Mm)} {F : Mm → Option (Int32 × Mm)} (h : Rs p g M o) (h2 : p → ∀ M', Dh M' g → KH M M' → Rs q g2 M' (F M')) : ∀ K, (∀ M, K 0 M = some (0, M)) → (p ∧ q → ∃ M', bd o (kT F K) = K 1 M' ∧ Dh M' g2 ∧ KH M M') ∧ (¬ (p ∧ q) → ∃ M', bd o (kT F K) = some (0, M') ∧ KH M M') := by
  intro K hK
  constructor
  · rintro ⟨hp, hq⟩
    obtain ⟨M', e1, e2, e3⟩ := h.1 hp
    obtain ⟨M2, b1, b2, b3⟩ := (h2 hp M' e2 e3).1 hq
    refine ⟨M2, ?_, b2, e3.tr b3⟩
    rw [e1, bd_some, kT, if_neg (by decide), b1, bd_some]
  · intro z
    by_cases hp : p
    · obtain ⟨M', e1, e2, e3⟩ := h.1 hp
      obtain ⟨M2, b1, b2⟩ := (h2 hp M' e2 e3).2 (fun hq => z ⟨hp, hq⟩)
      refine ⟨M2, ?_, e3.tr b2⟩
      rw [e1, bd_some, kT, if_neg (by decide), b1, bd_some, hK]
    · obtain ⟨M', e1, e2⟩ := h.2 hp
      refine ⟨M', ?_, e2⟩
      rw [e1, bd_some, kT, if_pos rfl]
theorem kB0 (M : Mm) : kB 0 M = some (0, M) := rfl
theorem kP0 (v : Int32) (M : Mm) : kP v 0 M = some (0, M) := rfl
theorem kT0 (F : Mm → Option (Int32 × Mm)) (K : Int32 → Mm → Option (Int32 × Mm)) (M : Mm) : kT F K 0 M = some (0, M) := rfl
theorem rs_tb {p q : Prop} {g g2 : Fr} {M : Mm} {o : Option (Int32 × Mm)} {F : Mm → Option (Int32 × Mm)} (h : Rs p g M o) (h2 : p → ∀ M', Dh M' g → KH M M' → Rs q g2 M' (F M')) : Rs (p ∧ q) g2 M (bd o (kT F kB)) := by
  have := rs_t h h2 kB kB0
  exact ⟨fun z => by
    obtain ⟨M', e1, e2⟩ := this.1 z
    exact ⟨M', e1, e2⟩, this.2⟩
theorem rs_tp {p q : Prop} {g g2 : Fr} {M : Mm} {o : Option (Int32 × Mm)} {F : Mm → Option (Int32 × Mm)} {v : Int32} (h : Rs p g M o) (h2 : p → ∀ M', Dh M' g → KH M M' → Rs q g2 M' (F M')) (hd : fd g2 < 16) : Rs (p ∧ q) (psh g2 v) M (bd o (kT F (kP v))) := by
  have := rs_t h h2 (kP v) (kP0 v)
  refine ⟨fun z => ?_, this.2⟩
  obtain ⟨M', e1, e2, e3⟩ := this.1 z
  obtain ⟨M2, b1, b2, b3⟩ := e_put (v := v) e2 hd
  refine ⟨M2, ?_, b2, e3.tr b3⟩
  rw [e1, kP, if_neg (by decide), b1, bd_some, kB, if_neg (by decide)]
