/-! Functions into Option, their peeling; ends, contracts, calls. -/
def fuel : Nat := 100000
def lt {α β : Type} (a : α) (f : α → β) : β := f a
def bnd {α : Type} (i : Int32) (n : Nat) (a : Option α) : Option α := if i < 0 ∨ n ≤ i.toNatClampNeg then none else a
def bnz {α : Type} (v : Int32) (a : Option α) : Option α := if v = 0 ∨ v = 1 then a else none
def bd {α β : Type} (o : Option (α × Mm)) (f : α → Mm → Option β) : Option β := match o with
  | some q => f q.1 q.2
  | none => none
def bv {β : Type} (o : Option Mm) (f : Mm → Option β) : Option β := match o with
  | some q => f q
  | none => none
theorem o_l {α β : Type} {a : α} {f : α → Option β} {r : β} (h : lt a f = some r) : ∀ x, x = a → f x = some r := by
  rintro x rfl
  exact h
theorem o_t {c : Prop} [inst : Decidable c] {β : Type} {a b : Option β} {r : β} (hc : c) (h : (if c then a else b) = some r) : a = some r := by rwa [if_pos hc] at h
theorem o_f {c : Prop} [inst : Decidable c] {β : Type} {a b : Option β} {r : β} (hc : ¬ c) (h : (if c then a else b) = some r) : b = some r := by rwa [if_neg hc] at h
theorem o_in {β : Type} {i : Int32} {n : Nat} {a : Option β} {r : β} (h : bnd i n a = some r) : vp_in i n ∧ a = some r := by
  unfold bnd at h
  by_cases hc : i < 0 ∨ n ≤ i.toNatClampNeg
  · rw [if_pos hc] at h
    cases h
  · rw [if_neg hc] at h
    exact ⟨hc, h⟩
theorem o_z {β : Type} {i : Int32} {a : Option β} {r : β} (h : (if i = 0 then none else a) = some r) : ¬ i = 0 ∧ a = some r := by
  by_cases hc : i = 0
  · rw [if_pos hc] at h
    cases h
  · rw [if_neg hc] at h
    exact ⟨hc, h⟩
theorem o_nz {β : Type} {v : Int32} {a : Option β} {r : β} (h : bnz v a = some r) : narrow .boolean (.int v) = .int v ∧ a = some r := by
  unfold bnz at h
  by_cases hc : v = 0 ∨ v = 1
  · rw [if_pos hc] at h
    refine ⟨?_, h⟩
    rcases hc with rfl | rfl <;> decide +kernel
  · rw [if_neg hc] at h
    cases h
theorem o_b {α β : Type} {o : Option (α × Mm)} {f : α → Mm → Option β} {r : β} (h : bd o f = some r) : ∃ x y, o = some (x, y) ∧ f x y = some r := by
  cases o with
  | none => cases h
  | some q => exact ⟨q.1, q.2, rfl, h⟩
theorem o_v {β : Type} {o : Option Mm} {f : Mm → Option β} {r : β} (h : bv o f = some r) : ∃ y, o = some y ∧ f y = some r := by
  cases o with
  | none => cases h
  | some q => exact ⟨q, rfl, h⟩
theorem sw_out {x : Int32} (lo n : Nat) {hi : Int} {lo' : Int} (h1 : lo' = lo) (h2 : hi = (lo : Int) + n - 1) (h : ∀ j, j < n → ¬ x = Int32.ofNat (lo + j)) (hb : lo + n < 2 ^ 31 := by decide) : x.toInt < lo' ∨ hi < x.toInt := by
  by_cases hc : x.toInt < lo' ∨ hi < x.toInt
  · exact hc
  · exfalso
    have e1 : lo' ≤ x.toInt ∧ x.toInt ≤ hi := by omega
    refine h (x.toInt - lo).toNat (by omega) ?_
    apply Int32.toInt_inj.mp
    have e2 : (Int32.ofNat (lo + (x.toInt - lo).toNat)).toInt = ((lo + (x.toInt - lo).toNat : Nat) : Int) := toInt_of rfl (by omega)
    rw [e2]
    omega
theorem addr_D {A : Nat → Prop} {w w' : va_W} (h : w.map Prod.fst = w'.map Prod.fst) (hD : va_D A w) : va_D A w' := by
  have at' : ∀ (k : Nat) (q : Nat × va_E), w'[k]? = some q → ∃ q', w[k]? = some q' ∧ q'.1 = q.1 := by
    intro k q hq
    have h1 : (w'.map Prod.fst)[k]? = some q.1 := by rw [List.getElem?_map, hq]; rfl
    rw [← h, List.getElem?_map] at h1
    cases hw : w[k]? with
    | none => rw [hw] at h1; cases h1
    | some q' => rw [hw] at h1; exact ⟨q', rfl, Option.some.inj h1⟩
  refine ⟨fun i j p q hp hq e => ?_, fun k q hq => ?_⟩
  · obtain ⟨p', h1, h2⟩ := at' i p hp
    obtain ⟨q', h3, h4⟩ := at' j q hq
    exact hD.1 i j p' q' h1 h3 (by rw [h2, h4, e])
  · obtain ⟨q', h1, h2⟩ := at' k q hq
    rw [← h2]
    exact hD.2 k q' h1
def PcZ (Z : ZT) (av : List Value) (M : Mm) (sz : Nat) : Array Value → State → Prop := va_Pc av (fun U => U.heap.size = sz ∧ va_P (zD Z) vwCl (zw Z M) U.heap ∧ va_K (zD Z) vwCl (ztys (zc Z)) U ∧ va_D (fun _ => True) (zw Z M) ∧ Nst U)
def FinI (Z : ZT) (X : XT) (ty : FieldType) (res : Int32 × Mm) : Prop := xQ X = MQ (xb X) (va_Qi (fun r u => (r, u) = res) (fun M' t => va_P (zD Z) vwCl (zw Z M') t.heap) (xA X)) (xa X) (xs X) 0 0 (xA X) ∧ (xt X).sig.returnType = some ty ∧ xk1 X = 0 ∧ xk2 X = 0
def FinL (Z : ZT) (X : XT) (res : Int64 × Mm) : Prop := xQ X = MQ (xb X) (va_Ql (fun r u => (r, u) = res) (fun M' t => va_P (zD Z) vwCl (zw Z M') t.heap) (xA X)) (xa X) (xs X) 0 0 (xA X) ∧ (xt X).sig.returnType = some .long ∧ xk1 X = 0 ∧ xk2 X = 0
def FinV (Z : ZT) (X : XT) (res : Mm) : Prop := xQ X = MQ (xb X) (va_Qv (fun u => u = res) (fun M' t => va_P (zD Z) vwCl (zw Z M') t.heap) (xA X)) (xa X) (xs X) 0 0 (xA X) ∧ (xt X).sig.returnType = none ∧ xk1 X = 0 ∧ xk2 X = 0
def CtI (Z : ZT) (y : MethodName) (ws : List Cond) (rm : Room) (av : List Value) (M : Mm) (res : Int32 × Mm) : Prop := ∀ sz, Met (zl Z) y ws rm (PcZ Z av M sz) (va_Qi (fun r u => (r, u) = res) (fun M' t => va_P (zD Z) vwCl (zw Z M') t.heap) (va_A (zw Z M) sz)) 0 0 (va_A (zw Z M) sz)
def CtL (Z : ZT) (y : MethodName) (ws : List Cond) (rm : Room) (av : List Value) (M : Mm) (res : Int64 × Mm) : Prop := ∀ sz, Met (zl Z) y ws rm (PcZ Z av M sz) (va_Ql (fun r u => (r, u) = res) (fun M' t => va_P (zD Z) vwCl (zw Z M') t.heap) (va_A (zw Z M) sz)) 0 0 (va_A (zw Z M) sz)
def CtV (Z : ZT) (y : MethodName) (ws : List Cond) (rm : Room) (av : List Value) (M : Mm) (res : Mm) : Prop := ∀ sz, Met (zl Z) y ws rm (PcZ Z av M sz) (va_Qv (fun u => u = res) (fun M' t => va_P (zD Z) vwCl (zw Z M') t.heap) (va_A (zw Z M) sz)) 0 0 (va_A (zw Z M) sz)
section GC
variable {Z : ZT} {X : XT} {M : Mm} {pc : Nat} {lv lv' : List (Nat × Value)} {st rest : List Value} {own : String} {cc : ByteArray} {ts : List Cond} {nL : Nat} {rm : Room} {S : Nat → Bool} {t i k : Nat}
theorem g_iret (h : Ok Z X own cc ts nL rm) {res : Int32 × Mm} (hQ : FinI Z X .int res) {v : Int32} (hdg : decode cc pc = .ok (.ireturn, 1)) (hw : some (v, M) = some res) : G Z X M pc lv [.int v] := fun H locs ls hP hS hl => by
  obtain ⟨p, e, R, s, m, args, below, meth, c, Q0, A, k1, k2⟩ := X
  obtain ⟨hq, hr, hk1, hk2⟩ := hQ
  change Q0 = MQ below (va_Qi (fun r u => (r, u) = res) (fun M' t => va_P (zD Z) vwCl (zw Z M') t.heap) A) args s 0 0 A at hq
  change meth.sig.returnType = _ at hr
  change k1 = 0 at hk1
  change k2 = 0 at hk2
  subst hq
  subst hk1
  subst hk2
  exact W.iret h.1 h.2.1 hr (fun t ht hW => ⟨⟨v, M, rfl, Option.some.inj hw, by show va_P (zD Z) vwCl (zw Z M) t.heap; rw [ht]; exact hP⟩, hS.F ht⟩) hS.2.2 hdg h.2.2.2.2.2.1
theorem g_zret (h : Ok Z X own cc ts nL rm) {res : Int32 × Mm} {ty : FieldType} (hQ : FinI Z X ty res) {v : Int32} (hdg : decode cc pc = .ok (.ireturn, 1)) (hn : narrow ty (.int v) = .int v) (hw : some (v, M) = some res) : G Z X M pc lv [.int v] := fun H locs ls hP hS hl => by
  obtain ⟨p, e, R, s, m, args, below, meth, c, Q0, A, k1, k2⟩ := X
  obtain ⟨hq, hr, hk1, hk2⟩ := hQ
  change Q0 = MQ below (va_Qi (fun r u => (r, u) = res) (fun M' t => va_P (zD Z) vwCl (zw Z M') t.heap) A) args s 0 0 A at hq
  change meth.sig.returnType = _ at hr
  change k1 = 0 at hk1
  change k2 = 0 at hk2
  subst hq
  subst hk1
  subst hk2
  exact W.zret h.1 h.2.1 hr hn (fun t ht hW => ⟨⟨v, M, rfl, Option.some.inj hw, by show va_P (zD Z) vwCl (zw Z M) t.heap; rw [ht]; exact hP⟩, hS.F ht⟩) hS.2.2 hdg h.2.2.2.2.2.1
theorem g_lret (h : Ok Z X own cc ts nL rm) {res : Int64 × Mm} (hQ : FinL Z X res) {v : Int64} (hdg : decode cc pc = .ok (.lreturn, 1)) (hw : some (v, M) = some res) : G Z X M pc lv [.long v] := fun H locs ls hP hS hl => by
  obtain ⟨p, e, R, s, m, args, below, meth, c, Q0, A, k1, k2⟩ := X
  obtain ⟨hq, hr, hk1, hk2⟩ := hQ
  change Q0 = MQ below (va_Ql (fun r u => (r, u) = res) (fun M' t => va_P (zD Z) vwCl (zw Z M') t.heap) A) args s 0 0 A at hq
  change meth.sig.returnType = _ at hr
  change k1 = 0 at hk1
  change k2 = 0 at hk2
  subst hq
  subst hk1
  subst hk2
  exact W.lret h.1 h.2.1 hr (fun t ht hW => ⟨⟨v, M, rfl, Option.some.inj hw, by show va_P (zD Z) vwCl (zw Z M) t.heap; rw [ht]; exact hP⟩, hS.F ht⟩) hS.2.2 hdg h.2.2.2.2.2.1
theorem g_vret (h : Ok Z X own cc ts nL rm) {res : Mm} (hQ : FinV Z X res) (hdg : decode cc pc = .ok (.return_, 1)) (hw : some M = some res) : G Z X M pc lv [] := fun H locs ls hP hS hl => by
  obtain ⟨p, e, R, s, m, args, below, meth, c, Q0, A, k1, k2⟩ := X
  obtain ⟨hq, hr, hk1, hk2⟩ := hQ
  change Q0 = MQ below (va_Qv (fun u => u = res) (fun M' t => va_P (zD Z) vwCl (zw Z M') t.heap) A) args s 0 0 A at hq
  change meth.sig.returnType = _ at hr
  change k1 = 0 at hk1
  change k2 = 0 at hk2
  subst hq
  subst hk1
  subst hk2
  exact W.vret h.1 h.2.1 hr (fun t ht hW => ⟨⟨M, rfl, Option.some.inj hw, by show va_P (zD Z) vwCl (zw Z M) t.heap; rw [ht]; exact hP⟩, hS.F ht⟩) hS.2.2 hdg h.2.2.2.2.2.1
theorem CtI.of (hL : Lay Z S) {y : MethodName} {ws ws' : List Cond} {av : List Value} {res : Int32 × Mm} {ty : FieldType} {maxL : Nat} (hy : plainName y.cls = true) (hw : ws = Cond.code y cc maxL (some ty) :: ws') (hlen : (lg_sl av).length ≤ maxL) (body : ∀ X : XT, Ok Z X y.cls cc ws maxL rm → FinI Z X ty res → G Z X M 0 (lv_args 0 av) []) : CtI Z y ws rm av M res := by
  intro sz
  refine Met.ofW (cc := cc) (maxL := maxL) (ret := some ty) hy hw ?_
  intro p e s m args below meth c s₁ B hml hv
  obtain ⟨rfl, hsz, hP, hK, hD0, hN⟩ := hv
  have hts := atoms_spec (ws := ws) B.pre
  have hown : s.vm.findClass y.cls = some m.cls := findClass_of_methodNamed B.named
  subst hsz
  have hl := lv_entry av (n := maxL) hlen
  rw [lg_entry_eq]
  generalize (lg_sl av ++ List.replicate (maxL - (lg_sl av).length) Slot.unset).toArray = ls at hl ⊢
  exact body (p, e, (headSpec ws rm).room, s, m, av.toArray, below, meth, c, MQ below (va_Qi (fun r u => (r, u) = res) (fun M' t => va_P (zD Z) vwCl (zw Z M') t.heap) (va_A (zw Z M) s.heap.size)) av.toArray s 0 0 (va_A (zw Z M) s.heap.size), va_A (zw Z M) s.heap.size, 0, 0) ⟨B.exec, B.bytes, hml, hown, hts, B.notSynchronized, hK, fun M' => addr_D (hL.2.2 M M') hD0.self, fun q h => Or.inr h, ⟨rfl, Nat.zero_le _, Nat.zero_le _⟩, hN⟩ ⟨rfl, B.returns, rfl, rfl⟩ s.heap [] ls hP va_S.rf (by rw [hml]; exact hl)
theorem CtL.of (hL : Lay Z S) {y : MethodName} {ws ws' : List Cond} {av : List Value} {res : Int64 × Mm} {maxL : Nat} (hy : plainName y.cls = true) (hw : ws = Cond.code y cc maxL (some .long) :: ws') (hlen : (lg_sl av).length ≤ maxL) (body : ∀ X : XT, Ok Z X y.cls cc ws maxL rm → FinL Z X res → G Z X M 0 (lv_args 0 av) []) : CtL Z y ws rm av M res := by
  intro sz
  refine Met.ofW (cc := cc) (maxL := maxL) (ret := some .long) hy hw ?_
  intro p e s m args below meth c s₁ B hml hv
  obtain ⟨rfl, hsz, hP, hK, hD0, hN⟩ := hv
  have hts := atoms_spec (ws := ws) B.pre
  have hown : s.vm.findClass y.cls = some m.cls := findClass_of_methodNamed B.named
  subst hsz
  have hl := lv_entry av (n := maxL) hlen
  rw [lg_entry_eq]
  generalize (lg_sl av ++ List.replicate (maxL - (lg_sl av).length) Slot.unset).toArray = ls at hl ⊢
  exact body (p, e, (headSpec ws rm).room, s, m, av.toArray, below, meth, c, MQ below (va_Ql (fun r u => (r, u) = res) (fun M' t => va_P (zD Z) vwCl (zw Z M') t.heap) (va_A (zw Z M) s.heap.size)) av.toArray s 0 0 (va_A (zw Z M) s.heap.size), va_A (zw Z M) s.heap.size, 0, 0) ⟨B.exec, B.bytes, hml, hown, hts, B.notSynchronized, hK, fun M' => addr_D (hL.2.2 M M') hD0.self, fun q h => Or.inr h, ⟨rfl, Nat.zero_le _, Nat.zero_le _⟩, hN⟩ ⟨rfl, B.returns, rfl, rfl⟩ s.heap [] ls hP va_S.rf (by rw [hml]; exact hl)
theorem CtV.of (hL : Lay Z S) {y : MethodName} {ws ws' : List Cond} {av : List Value} {res : Mm} {maxL : Nat} (hy : plainName y.cls = true) (hw : ws = Cond.code y cc maxL (none) :: ws') (hlen : (lg_sl av).length ≤ maxL) (body : ∀ X : XT, Ok Z X y.cls cc ws maxL rm → FinV Z X res → G Z X M 0 (lv_args 0 av) []) : CtV Z y ws rm av M res := by
  intro sz
  refine Met.ofW (cc := cc) (maxL := maxL) (ret := none) hy hw ?_
  intro p e s m args below meth c s₁ B hml hv
  obtain ⟨rfl, hsz, hP, hK, hD0, hN⟩ := hv
  have hts := atoms_spec (ws := ws) B.pre
  have hown : s.vm.findClass y.cls = some m.cls := findClass_of_methodNamed B.named
  subst hsz
  have hl := lv_entry av (n := maxL) hlen
  rw [lg_entry_eq]
  generalize (lg_sl av ++ List.replicate (maxL - (lg_sl av).length) Slot.unset).toArray = ls at hl ⊢
  exact body (p, e, (headSpec ws rm).room, s, m, av.toArray, below, meth, c, MQ below (va_Qv (fun u => u = res) (fun M' t => va_P (zD Z) vwCl (zw Z M') t.heap) (va_A (zw Z M) s.heap.size)) av.toArray s 0 0 (va_A (zw Z M) s.heap.size), va_A (zw Z M) s.heap.size, 0, 0) ⟨B.exec, B.bytes, hml, hown, hts, B.notSynchronized, hK, fun M' => addr_D (hL.2.2 M M') hD0.self, fun q h => Or.inr h, ⟨rfl, Nat.zero_le _, Nat.zero_le _⟩, hN⟩ ⟨rfl, B.returns, rfl, rfl⟩ s.heap [] ls hP va_S.rf (by rw [hml]; exact hl)
theorem PcZ.blind {av : List Value} {sz : Nat} : FrameBlind (PcZ Z av M sz) := fun a U g mk q => by
  obtain ⟨q0, q1, qP, qK, qD, qN⟩ := q
  exact ⟨q0, q1, qP, va_K.moved (u := U) (U := U.calling g mk a) (Vm.Alike.refl U.vm) qK, qD, fun w hw => va_Nw.same rfl rfl (qN.1 w hw), va_AO.moved (u := U) (U := U.calling g mk a) (Vm.Alike.refl U.vm) qN.2⟩
theorem Ok.pre (h : Ok Z X own cc ts nL rm) {H : Heap} (hP : va_P (zD Z) vwCl (zw Z M) H) {av : List Value} : ∀ U : State, U.heap = H → (xs X).WarmedH U.vm → PcZ Z av M H.size av.toArray U := fun U hU hW =>
  ⟨rfl, by rw [hU], by rw [hU]; exact hP, va_K.moved hW.alike h.2.2.2.2.2.2.1, (h.2.2.2.2.2.2.2.1 M).weaken (fun _ _ _ _ => trivial), fun q hq => va_Nw.warmM hW (h.2.2.2.2.2.2.2.2.2.2.1 q hq), va_AO.moved hW.alike h.2.2.2.2.2.2.2.2.2.2.2⟩
theorem Ok.free (h : Ok Z X own cc ts nL rm) {H : Heap} {locs : List Loc} (hS : va_S (xA X) (xs X).heap H locs) : ∀ q, va_A (zw Z M) H.size q → xA X q := by
  rintro q (⟨k, e, hk⟩ | hq)
  · exact (h.2.2.2.2.2.2.2.1 M).2 k (q, e) hk
  · exact h.2.2.2.2.2.2.2.2.1 q (Nat.le_trans hS.1 hq)
theorem Lay.recv (hL : Lay Z S) (h : Ok Z X own cc ts nL rm) (hS : S t = true) (hi : i < cnt t) {C : String} {T : u_T} {N : Nat} (ho : Ob t C T N) : ∀ H, va_P (zD Z) vwCl (zw Z M) H → ∃ cellB : Cell, H[za Z t i]? = some cellB ∧ cellB.vm.isStatics = false ∧ (xs X).vm.findClass C = some cellB.cls := fun H hP =>
  va_recv h.2.2.2.2.2.2.1 hP ho.2.1 (hL.ob hS hi ho.1)
abbrev RunX (Z : ZT) (X : XT) (M : Mm) (pc : Nat) (lv : List (Nat × Value)) (st rest : List Value) (Qa : Nat → State → Outcome → State → Prop) : Prop := ∀ (H : Heap) (locs : List Loc) (ls : Array Slot), va_P (zD Z) vwCl (zw Z M) H → lv_has ls (xc X).maxLocals lv →
  va_Run (xp X) (zl Z) (xe X) (xR X) (xs X) (xm X) (xa X) (xb X) (xt X) (xc X) H locs (xk1 X) (xk2 X) 0 0 (F0 (xm X) pc ls st) rest (Qa H.size) (va_A (zw Z M) H.size)
theorem g_calli (h : Ok Z X own cc ts nL rm) {a : Array Value} {r : Int32} {M' : Mm} (hr : RunX Z X M pc lv st rest (fun sz => va_Qi (fun r' u => (r', u) = (r, M')) (fun M' t => va_P (zD Z) vwCl (zw Z M') t.heap) (va_A (zw Z M) sz) a)) (kk : G Z X M' (pc + 3) lv (.int r :: rest)) : G Z X M pc lv st := fun H locs ls hP hS hl => by
  refine va_calli (hr H locs ls hP hl) hS (fun q _ hq => h.free hS q hq) (h.free hS) (fun r' u t H1 locs1 ht hvm hw hB hz hk hS1 => ?_)
  cases hw
  exact kk H1 locs1 ls (by rw [← ht]; exact hB) hS1 hl
theorem g_calll (h : Ok Z X own cc ts nL rm) {a : Array Value} {r : Int64} {M' : Mm} (hr : RunX Z X M pc lv st rest (fun sz => va_Ql (fun r' u => (r', u) = (r, M')) (fun M' t => va_P (zD Z) vwCl (zw Z M') t.heap) (va_A (zw Z M) sz) a)) (kk : G Z X M' (pc + 3) lv (.long r :: rest)) : G Z X M pc lv st := fun H locs ls hP hS hl => by
  refine va_calll (hr H locs ls hP hl) hS (fun q _ hq => h.free hS q hq) (h.free hS) (fun r' u t H1 locs1 ht hvm hw hB hz hk hS1 => ?_)
  cases hw
  exact kk H1 locs1 ls (by rw [← ht]; exact hB) hS1 hl
theorem g_callv (h : Ok Z X own cc ts nL rm) {a : Array Value} {M' : Mm} (hr : RunX Z X M pc lv st rest (fun sz => va_Qv (fun u => u = M') (fun M' t => va_P (zD Z) vwCl (zw Z M') t.heap) (va_A (zw Z M) sz) a)) (kk : G Z X M' (pc + 3) lv (rest)) : G Z X M pc lv st := fun H locs ls hP hS hl => by
  refine va_callv (hr H locs ls hP hl) hS (fun q _ hq => h.free hS q hq) (h.free hS) (fun u t H1 locs1 ht hvm hw hB hz hk hS1 => ?_)
  cases hw
  exact kk H1 locs1 ls (by rw [← ht]; exact hB) hS1 hl
theorem g_runV (h : Ok Z X own cc ts nL rm) {y : MethodName} {ws : List Cond} {rm' : Room} {C : String} {index n maxL : Nat} {bytes : ByteArray} {ret : Option FieldType} {b : Addr} {As : List Value} {Qc : Nat → Array Value → State → Outcome → State → Prop} (hM : ∀ sz, Met (zl Z) y ws rm' (PcZ Z (.ref b :: As) M sz) (Qc sz) 0 0 (va_A (zw Z M) sz)) (cw : CallW rm (xs X) (xa X) own C index y bytes maxL ret ws rm' 0 0 n) (hrecv : ∀ H, va_P (zD Z) vwCl (zw Z M) H → ∃ cellB : Cell, H[b]? = some cellB ∧ cellB.vm.isStatics = false ∧ (xs X).vm.findClass C = some cellB.cls) (hn : As.length = n) (hst : st = As.reverse ++ .ref b :: rest) (hroom : (rest.map fun v => v.category).sum ≤ 8) (hdg : decode cc pc = .ok (.invokevirtual index, 3)) :
    RunX Z X M pc lv st rest (fun sz => Qc sz (Value.ref b :: As).toArray) := fun H locs ls hP hl => by
  have hpre := h.pre hP (av := .ref b :: As)
  obtain ⟨p, e, R, s, m, args, below, meth, c, Q0, A, k1, k2⟩ := X
  obtain ⟨hx, hb, hml, hown, hts, hlk, hK, hD, hA, ⟨hR, hk1, hk2⟩, hN⟩ := h
  change R = rm at hR
  change k1 ≤ rm.cells at hk1
  change k2 ≤ rm.slots at hk2
  subst hR
  exact va_runV ⟨hx, hb, rfl, hown, hts⟩ (hM H.size) cw ⟨PcZ.blind, hrecv H hP, hpre⟩ rfl hn hl.1 hst (lv_room hroom) hdg ⟨hk1, hk2⟩
theorem g_runVN (h : Ok Z X own cc ts nL rm) {y : MethodName} {ws : List Cond} {rm' : Room} {C host : String} {index n maxL : Nat} {bytes : ByteArray} {ret : Option FieldType} {b : Addr} {As : List Value} {Qc : Nat → Array Value → State → Outcome → State → Prop} (hM : ∀ sz, Met (zl Z) y ws rm' (PcZ Z (.ref b :: As) M sz) (Qc sz) 0 0 (va_A (zw Z M) sz)) (cw : va_CN rm (xs X) (xa X) own index y host bytes maxL ret ws rm' 0 0 n ∧ (Cond.instanceMethod y).before (xa X) (xs X) = true ∧ (Cond.selects C y y).before (xa X) (xs X) = true) (hrecv : ∀ H, va_P (zD Z) vwCl (zw Z M) H → ∃ cellB : Cell, H[b]? = some cellB ∧ cellB.vm.isStatics = false ∧ (xs X).vm.findClass C = some cellB.cls) (hn : As.length = n) (hst : st = As.reverse ++ .ref b :: rest) (hroom : (rest.map fun v => v.category).sum ≤ 8) (hdg : decode cc pc = .ok (.invokevirtual index, 3)) :
    RunX Z X M pc lv st rest (fun sz => Qc sz (Value.ref b :: As).toArray) := fun H locs ls hP hl => by
  have hpre := h.pre hP (av := .ref b :: As)
  obtain ⟨p, e, R, s, m, args, below, meth, c, Q0, A, k1, k2⟩ := X
  obtain ⟨hx, hb, hml, hown, hts, hlk, hK, hD, hA, ⟨hR, hk1, hk2⟩, hN⟩ := h
  change R = rm at hR
  change k1 ≤ rm.cells at hk1
  change k2 ≤ rm.slots at hk2
  subst hR
  exact va_runVN ⟨hx, hb, rfl, hown, hts⟩ (hM H.size) cw ⟨PcZ.blind, hrecv H hP, hpre⟩ rfl hn hl.1 hst (lv_room hroom) hdg ⟨hk1, hk2⟩
theorem g_runS (h : Ok Z X own cc ts nL rm) {y : MethodName} {ws : List Cond} {rm' : Room} {index n maxL : Nat} {bytes : ByteArray} {ret : Option FieldType} {As : List Value} {Qc : Nat → Array Value → State → Outcome → State → Prop} (hM : ∀ sz, Met (zl Z) y ws rm' (PcZ Z (As) M sz) (Qc sz) 0 0 (va_A (zw Z M) sz)) (cw : CallB rm (xs X) (xa X) own index y bytes maxL ret ws rm' 0 0 n ∧ (Cond.static y).before (xa X) (xs X) = true) (hn : As.length = n) (hst : st = As.reverse ++ rest) (hroom : (rest.map fun v => v.category).sum ≤ 8) (hdg : decode cc pc = .ok (.invokestatic index, 3)) :
    RunX Z X M pc lv st rest (fun sz => Qc sz (As).toArray) := fun H locs ls hP hl => by
  have hpre := h.pre hP (av := As)
  obtain ⟨p, e, R, s, m, args, below, meth, c, Q0, A, k1, k2⟩ := X
  obtain ⟨hx, hb, hml, hown, hts, hlk, hK, hD, hA, ⟨hR, hk1, hk2⟩, hN⟩ := h
  change R = rm at hR
  change k1 ≤ rm.cells at hk1
  change k2 ≤ rm.slots at hk2
  subst hR
  exact va_runS ⟨hx, hb, rfl, hown, hts⟩ (hM H.size) cw ⟨PcZ.blind, hpre⟩ rfl hn hl.1 hst (lv_room hroom) hdg ⟨hk1, hk2⟩
theorem g_runSN (h : Ok Z X own cc ts nL rm) {y : MethodName} {ws : List Cond} {rm' : Room} {host : String} {index n maxL : Nat} {bytes : ByteArray} {ret : Option FieldType} {As : List Value} {Qc : Nat → Array Value → State → Outcome → State → Prop} (hM : ∀ sz, Met (zl Z) y ws rm' (PcZ Z (As) M sz) (Qc sz) 0 0 (va_A (zw Z M) sz)) (cw : va_CN rm (xs X) (xa X) own index y host bytes maxL ret ws rm' 0 0 n ∧ (Cond.static y).before (xa X) (xs X) = true ∧ True) (hn : As.length = n) (hst : st = As.reverse ++ rest) (hroom : (rest.map fun v => v.category).sum ≤ 8) (hdg : decode cc pc = .ok (.invokestatic index, 3)) :
    RunX Z X M pc lv st rest (fun sz => Qc sz (As).toArray) := fun H locs ls hP hl => by
  have hpre := h.pre hP (av := As)
  obtain ⟨p, e, R, s, m, args, below, meth, c, Q0, A, k1, k2⟩ := X
  obtain ⟨hx, hb, hml, hown, hts, hlk, hK, hD, hA, ⟨hR, hk1, hk2⟩, hN⟩ := h
  change R = rm at hR
  change k1 ≤ rm.cells at hk1
  change k2 ≤ rm.slots at hk2
  subst hR
  exact va_runSN ⟨hx, hb, rfl, hown, hts⟩ (hM H.size) cw ⟨PcZ.blind, hpre⟩ rfl hn hl.1 hst (lv_room hroom) hdg ⟨hk1, hk2⟩
end GC
