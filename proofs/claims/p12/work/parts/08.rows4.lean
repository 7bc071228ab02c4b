/-! Array copies, lengths, fills. -/
theorem ix_lt {x : Int32} {n sh c : Nat} (h : vp_in x n) (hc : n + sh ≤ c) : x.toNatClampNeg + sh < c := by
  have h1 : x.toNatClampNeg < n := Nat.not_le.mp (fun q => h (Or.inr q))
  omega
section GY
variable {Z : ZT} {X : XT} {M : Mm} {pc : Nat} {lv lv' : List (Nat × Value)} {st rest : List Value} {own : String} {cc : ByteArray} {ts : List Cond} {nL : Nat} {rm : Room} {S : Nat → Bool} {t i k : Nat}
theorem g_copy {t0 i0 t1 i1 index : Nat} {sp dp n : Int32} (h : Ok Z X own cc ts nL rm) (hL : Lay Z S) (hS0 : S t0 = true) (hi0 : i0 < cnt t0) (hc0 : ck t0 = 1) (hS1 : S t1 = true) (hi1 : i1 < cnt t1) (hc1 : ck t1 = 1) (hl : Cond.methodLink own index arraycopyName ∈ ts) (hnat : Cond.native arraycopyName ∈ ts) (hsta : Cond.static arraycopyName ∈ ts) (hini : Cond.initialized "java/lang/System" ∈ ts)
    (h1 : ¬ sp < 0) (h2 : ¬ dp < 0) (h3 : ¬ n < 0) (h4 : sp.toNatClampNeg + n.toNatClampNeg ≤ nf t0) (h5 : dp.toNatClampNeg + n.toNatClampNeg ≤ nf t1) (hfr : 1 ≤ rm.frames) (hlo : (rest.map fun v => v.category).sum + (nativeFrameWords "java/lang/System" "arraycopy" 5 + 11) ≤ rm.locals) (hdg : decode cc pc = .ok (.invokestatic index, 3))
    (kk : G Z X (sA M t1 i1 (va_cpy (M.1 t0 i0) (M.1 t1 i1) sp.toNatClampNeg dp.toNatClampNeg n.toNatClampNeg)) (pc + 3) lv rest) : G Z X M pc lv (.int n :: .int dp :: .ref (za Z t1 i1) :: .int sp :: .ref (za Z t0 i0) :: rest) := fun H locs ls hP hS' hl' => by
  have hR : xR X = rm := h.2.2.2.2.2.2.2.2.2.1.1
  have hw := h.2.2.2.2.1
  refine va_copyi h.1 h.2.1 hl'.1.symm h.2.2.2.1 (hw _ hl) (hw _ hnat) (hw _ hsta) (hw _ hini) h.2.2.2.2.2.2.1 hP (h.2.2.2.2.2.2.2.1 M) hS' (pos t0 i0) (pos t1 i1) 0 0 (hL.ai hS0 hi0 hc0) (hL.ai hS1 hi1 hc1) rfl rfl rfl h1 h2 h3 h4 h5 (fun _ _ => rfl) (by rw [hR]; exact hfr) (by rw [hR]; exact hlo) hdg (fun H1 locs1 hP1 hD1 hS1' => kk H1 locs1 ls ?_ hS1' hl')
  have e := hL.2.1 M (sA M t1 i1 (va_cpy (M.1 t0 i0) (M.1 t1 i1) sp.toNatClampNeg dp.toNatClampNeg n.toNatClampNeg)) t1 i1 hS1 hi1 (fun a b hne => (cellE_eq (sA_ne hne) rfl).symm)
  have e2 : cellE (za Z) (zc Z) t1 i1 (sA M t1 i1 (va_cpy (M.1 t0 i0) (M.1 t1 i1) sp.toNatClampNeg dp.toNatClampNeg n.toNatClampNeg)) = .inl (zc Z 0, nf t1, .inl (va_cpy (M.1 t0 i0) (M.1 t1 i1) sp.toNatClampNeg dp.toNatClampNeg n.toNatClampNeg)) := by
    simp only [cellE, hc1, sA_at]
  rw [e2] at e
  rw [← e]
  exact hP1
theorem g_alenI (h : Ok Z X own cc ts nL rm) (hL : Lay Z S) (hS : S t = true) (hi : i < cnt t) (hck : ck t = 1) {v : Int32} (hv : Int32.ofNat (nf t) = v) (hdg : decode cc pc = .ok (.arraylength, 1))
    (kk : G Z X M (pc + 1) lv (.int v :: st)) : G Z X M pc lv (.ref (za Z t i) :: st) := fun H locs ls hP hS' hl => va_alen h.1 h.2.1 h.2.2.2.2.2.2.1 hP (pos t i) 0 (hL.ai hS hi hck) rfl hv hdg (kk H locs ls hP hS' hl)
theorem g_alenZ (h : Ok Z X own cc ts nL rm) (hL : Lay Z S) (hS : S t = true) (hi : i < cnt t) (hck : ck t = 2) {v : Int32} (hv : Int32.ofNat (nf t) = v) (hdg : decode cc pc = .ok (.arraylength, 1))
    (kk : G Z X M (pc + 1) lv (.int v :: st)) : G Z X M pc lv (.ref (za Z t i) :: st) := fun H locs ls hP hS' hl => va_alen h.1 h.2.1 h.2.2.2.2.2.2.1 hP (pos t i) 1 (hL.az hS hi hck) rfl hv hdg (kk H locs ls hP hS' hl)
theorem g_alenL (h : Ok Z X own cc ts nL rm) (hL : Lay Z S) (hS : S t = true) (hi : i < cnt t) (hck : ck t = 3) {v : Int32} (hv : Int32.ofNat (nf t) = v) (hdg : decode cc pc = .ok (.arraylength, 1))
    (kk : G Z X M (pc + 1) lv (.int v :: st)) : G Z X M pc lv (.ref (za Z t i) :: st) := fun H locs ls hP hS' hl => va_alen h.1 h.2.1 h.2.2.2.2.2.2.1 hP (pos t i) 2 (hL.al hS hi hck) rfl hv hdg (kk H locs ls hP hS' hl)
end GY
theorem q_l {α : Type} {a : α} {f : α → Option (Int32 × Mm)} {g : α → Int32} {M : Mm} (h : f a = some (g a, M)) : lt a f = some (lt a g, M) := h
theorem q_i {c : Prop} [inst : Decidable c] {a b : Option (Int32 × Mm)} {a' b' : Int32} {M : Mm} (h1 : a = some (a', M)) (h2 : b = some (b', M)) : (if c then a else b) = some (if c then a' else b', M) := by
  by_cases hc : c
  · rw [if_pos hc, if_pos hc]
    exact h1
  · rw [if_neg hc, if_neg hc]
    exact h2
def zo (z : Int32) : Prop := z = 0 ∨ z = 1
theorem zo_0 : zo 0 := Or.inl rfl
theorem zo_1 : zo 1 := Or.inr rfl
theorem zo_l {α : Type} {a : α} {g : α → Int32} (h : zo (g a)) : zo (lt a g) := h
theorem zo_i {c : Prop} [inst : Decidable c] {a b : Int32} (h1 : zo a) (h2 : zo b) : zo (if c then a else b) := by
  by_cases hc : c
  · rw [if_pos hc]
    exact h1
  · rw [if_neg hc]
    exact h2
theorem q_b {v : Int32} {M : Mm} (h : zo v) : bnz v (some (v, M)) = some (v, M) := by
  unfold bnz
  exact if_pos h

theorem ob_0 : Ob 0 "FlowGate" T_G 6 := ⟨rfl, rfl, rfl⟩
theorem ob_1 : Ob 1 "FlowGate$Types" T_T 3 := ⟨rfl, rfl, rfl⟩
theorem ob_4 : Ob 4 "FlowGate$Method" T_M 14 := ⟨rfl, rfl, rfl⟩
theorem ob_13 : Ob 13 "FlowGate$Form" T_O 2 := ⟨rfl, rfl, rfl⟩
theorem ob_14 : Ob 14 "FlowGate$Flow" T_W 12 := ⟨rfl, rfl, rfl⟩
theorem ob_19 : Ob 19 "FlowGate$Frame" T_R 5 := ⟨rfl, rfl, rfl⟩
theorem ob_30 : Ob 30 "FlowGateModel" T_D 42 := ⟨rfl, rfl, rfl⟩
