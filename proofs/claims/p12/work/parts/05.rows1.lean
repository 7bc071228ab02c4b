/-! The judgement G: the machine W over a world that is a function of a memory; a row an instruction. -/
abbrev Mm : Type := (Nat → Nat → Nat → Int32) × (Nat → Nat → Nat → Int64)
def sI (M : Mm) (t i k : Nat) (v : Int32) : Mm := (fun a b c => if a = t ∧ b = i ∧ c = k then v else M.1 a b c, M.2)
def sL (M : Mm) (t i k : Nat) (v : Int64) : Mm := (M.1, fun a b c => if a = t ∧ b = i ∧ c = k then v else M.2 a b c)
def sA (M : Mm) (t i : Nat) (f : Nat → Int32) : Mm := (fun a b c => if a = t ∧ b = i then f c else M.1 a b c, M.2)
def sB (M : Mm) (t i : Nat) (f : Nat → Int64) : Mm := (M.1, fun a b c => if a = t ∧ b = i then f c else M.2 a b c)
/-- the links to private methods of nest mates stand -/
def Nst (U : State) : Prop := (∀ q ∈ nsM, va_Nw (.methodLinkNest q.1 q.2.1 q.2.2.1 q.2.2.2) U) ∧ va_AO "FlowGate$Frame" U
/-- what stays over a whole proof: launch, tables, world, addresses, array classes -/
abbrev ZT : Type := Launch × va_G × (Mm → va_W) × (Nat → Nat → Nat) × (Nat → ClassId)
abbrev zl (Z : ZT) : Launch := Z.1
abbrev zD (Z : ZT) : va_G := Z.2.1
abbrev zw (Z : ZT) : Mm → va_W := Z.2.2.1
abbrev za (Z : ZT) : Nat → Nat → Nat := Z.2.2.2.1
abbrev zc (Z : ZT) : Nat → ClassId := Z.2.2.2.2
/-- one walk: program, env, room, start, method id, arguments, below, method, code, end, own cells -/
abbrev XT : Type := Program × Env × Room × State × MethodId × Array Value × List Frame × Method × Code × (State → Prop) × (Nat → Prop) × Nat × Nat
abbrev xp (X : XT) : Program := X.1
abbrev xe (X : XT) : Env := X.2.1
abbrev xR (X : XT) : Room := X.2.2.1
abbrev xs (X : XT) : State := X.2.2.2.1
abbrev xm (X : XT) : MethodId := X.2.2.2.2.1
abbrev xa (X : XT) : Array Value := X.2.2.2.2.2.1
abbrev xb (X : XT) : List Frame := X.2.2.2.2.2.2.1
abbrev xt (X : XT) : Method := X.2.2.2.2.2.2.2.1
abbrev xc (X : XT) : Code := X.2.2.2.2.2.2.2.2.1
abbrev xQ (X : XT) : State → Prop := X.2.2.2.2.2.2.2.2.2.1
abbrev xA (X : XT) : Nat → Prop := X.2.2.2.2.2.2.2.2.2.2.1
abbrev xk1 (X : XT) : Nat := X.2.2.2.2.2.2.2.2.2.2.2.1
abbrev xk2 (X : XT) : Nat := X.2.2.2.2.2.2.2.2.2.2.2.2
abbrev WX (Z : ZT) (X : XT) (H : Heap) (locs : List Loc) (g : JFrame) : Prop := W (xp X) (zl Z) (xe X) (xR X) (xs X) (xm X) (xa X) (xb X) (xt X) (xc X) H locs (xk1 X) (xk2 X) (xQ X) g
def G (Z : ZT) (X : XT) (M : Mm) (pc : Nat) (lv : List (Nat × Value)) (st : List Value) : Prop :=
  ∀ (H : Heap) (locs : List Loc) (ls : Array Slot), va_P (zD Z) vwCl (zw Z M) H → va_S (xA X) (xs X).heap H locs → lv_has ls (xc X).maxLocals lv → WX Z X H locs (F0 (xm X) pc ls st)
/-- what holds of a walk as a whole: the machine, the code, its locals, its class, its words, no lock, the tables, the world's cells apart, its room -/
def Ok (Z : ZT) (X : XT) (own : String) (cc : ByteArray) (ts : List Cond) (nL : Nat) (rm : Room) : Prop :=
  (xp X).tables.exec = Jvm.exec ∧ (xc X).code = cc ∧ (xc X).maxLocals = nL ∧ (xs X).vm.findClass own = some (xm X).cls ∧ (∀ w ∈ ts, w.before (xa X) (xs X) = true) ∧ (xt X).locks = false ∧ va_K (zD Z) vwCl (ztys (zc Z)) (xs X) ∧ (∀ M, va_D (xA X) (zw Z M)) ∧ (∀ q : Nat, (xs X).heap.size ≤ q → xA X q) ∧ (xR X = rm ∧ xk1 X ≤ rm.cells ∧ xk2 X ≤ rm.slots) ∧ Nst (xs X)
def lvg : List (Nat × Value) → Nat → Option Value
  | [], _ => none
  | q :: r, i => bif q.1 == i then some q.2 else lvg r i
theorem lvg_mem : ∀ {lv : List (Nat × Value)} {i : Nat} {v : Value}, lvg lv i = some v → (i, v) ∈ lv
  | [], _, _, h => by cases h
  | q :: r, i, v, h => by
    unfold lvg at h
    cases hq : q.1 == i with
    | true =>
      rw [hq] at h
      have e1 : q.1 = i := by simpa using hq
      have e2 : q.2 = v := by simpa using h
      rw [← e1, ← e2]
      exact List.mem_cons_self
    | false =>
      rw [hq] at h
      exact List.mem_cons_of_mem _ (lvg_mem h)
theorem lvg_at {ls : Array Slot} {n : Nat} {lv : List (Nat × Value)} {i : Nat} {v : Value} (hl : lv_has ls n lv) (h : lvg lv i = some v) : ls[i]? = some (.val v) := hl.2.2 (i, v) (lvg_mem h)
section GR
variable {Z : ZT} {X : XT} {M : Mm} {pc : Nat} {lv lv' : List (Nat × Value)} {st : List Value} {own : String} {cc : ByteArray} {ts : List Cond} {nL : Nat} {rm : Room}
theorem g_topi {x : Int32} (k : ∀ y : Int32, y = x → G Z X M pc lv (.int y :: st)) : G Z X M pc lv (.int x :: st) := k x rfl
theorem g_topl {x : Int64} (k : ∀ y : Int64, y = x → G Z X M pc lv (.long y :: st)) : G Z X M pc lv (.long x :: st) := k x rfl
theorem g_mem (k : ∀ M1 : Mm, M1 = M → G Z X M1 pc lv st) : G Z X M pc lv st := k M rfl
theorem g_sub (ks : List Nat) (hl : lv_pick lv ks = lv') (k : G Z X M pc lv' st) : G Z X M pc lv st := fun H locs ls hP hS h => k H locs ls hP hS (lv_sub h ks hl)
theorem g_iconst (h : Ok Z X own cc ts nL rm) {n : Int} {v : Int32} (hdg : decode cc pc = .ok (.iconst n, 1)) (hv : Int32.ofInt n = v) (k : G Z X M (pc + 1) lv (.int v :: st)) : G Z X M pc lv st := fun H locs ls hP hS hl => lv_iconst h.1 h.2.1 hdg hv (k H locs ls hP hS hl)
theorem g_bipush (h : Ok Z X own cc ts nL rm) {n : Int} {v : Int32} (hdg : decode cc pc = .ok (.bipush n, 2)) (hv : (Int8.ofInt n).toInt32 = v) (k : G Z X M (pc + 2) lv (.int v :: st)) : G Z X M pc lv st := fun H locs ls hP hS hl => lv_bipush h.1 h.2.1 hdg hv (k H locs ls hP hS hl)
theorem g_sipush (h : Ok Z X own cc ts nL rm) {n : Int} {v : Int32} (hdg : decode cc pc = .ok (.sipush n, 3)) (hv : (Int16.ofInt n).toInt32 = v) (k : G Z X M (pc + 3) lv (.int v :: st)) : G Z X M pc lv st := fun H locs ls hP hS hl => lv_sipush h.1 h.2.1 hdg hv (k H locs ls hP hS hl)
theorem g_lconst (h : Ok Z X own cc ts nL rm) {n : Fin 2} {v : Int64} (hdg : decode cc pc = .ok (.lconst n, 1)) (hv : Int64.ofNat (n : Nat) = v) (k : G Z X M (pc + 1) lv (.long v :: st)) : G Z X M pc lv st := fun H locs ls hP hS hl => lv_lconst h.1 h.2.1 hdg hv (k H locs ls hP hS hl)
theorem g_ldc (h : Ok Z X own cc ts nL rm) {index : Nat} {v : Int32} (hc : Jvm.Cond.constant own index v ∈ ts) (hdg : decode cc pc = .ok (.ldc index, 2)) (k : G Z X M (pc + 2) lv (.int v :: st)) : G Z X M pc lv st := fun H locs ls hP hS hl => lv_ldc h.1 h.2.1 h.2.2.2.1 (h.2.2.2.2.1 _ hc) hdg (k H locs ls hP hS hl)
theorem g_ldc2 (h : Ok Z X own cc ts nL rm) {index : Nat} {v : Int64} (hc : Jvm.Cond.constantLong own index v ∈ ts) (hdg : decode cc pc = .ok (.ldc2_w index, 3)) (k : G Z X M (pc + 3) lv (.long v :: st)) : G Z X M pc lv st := fun H locs ls hP hS hl => lv_ldc2 h.1 h.2.1 h.2.2.2.1 (h.2.2.2.2.1 _ hc) hdg (k H locs ls hP hS hl)
theorem g_iload_n (h : Ok Z X own cc ts nL rm) {k : Fin 4} {i : Nat} {x : Int32} (hdg : decode cc pc = .ok (.iload_n k, 1)) (hi : (k : Nat) = i) (hl : lvg lv i = some (.int x)) (kk : G Z X M (pc + 1) lv (.int x :: st)) : G Z X M pc lv st := fun H locs ls hP hS h2 => lv_iload_n h.1 h.2.1 hdg hi (lvg_at h2 hl) (kk H locs ls hP hS h2)
theorem g_iload (h : Ok Z X own cc ts nL rm) {i : Nat} {x : Int32} (hdg : decode cc pc = .ok (.iload i, 2)) (hl : lvg lv i = some (.int x)) (kk : G Z X M (pc + 2) lv (.int x :: st)) : G Z X M pc lv st := fun H locs ls hP hS h2 => lv_iload h.1 h.2.1 hdg (lvg_at h2 hl) (kk H locs ls hP hS h2)
theorem g_lload_n (h : Ok Z X own cc ts nL rm) {k : Fin 4} {i : Nat} {x : Int64} (hdg : decode cc pc = .ok (.lload_n k, 1)) (hi : (k : Nat) = i) (hl : lvg lv i = some (.long x)) (kk : G Z X M (pc + 1) lv (.long x :: st)) : G Z X M pc lv st := fun H locs ls hP hS h2 => lv_lload_n h.1 h.2.1 hdg hi (lvg_at h2 hl) (kk H locs ls hP hS h2)
theorem g_lload (h : Ok Z X own cc ts nL rm) {i : Nat} {x : Int64} (hdg : decode cc pc = .ok (.lload i, 2)) (hl : lvg lv i = some (.long x)) (kk : G Z X M (pc + 2) lv (.long x :: st)) : G Z X M pc lv st := fun H locs ls hP hS h2 => lv_lload h.1 h.2.1 hdg (lvg_at h2 hl) (kk H locs ls hP hS h2)
theorem g_aload_n (h : Ok Z X own cc ts nL rm) {k : Fin 4} {i : Nat} {x : Nat} (hdg : decode cc pc = .ok (.aload_n k, 1)) (hi : (k : Nat) = i) (hl : lvg lv i = some (.ref x)) (kk : G Z X M (pc + 1) lv (.ref x :: st)) : G Z X M pc lv st := fun H locs ls hP hS h2 => lv_aload_n h.1 h.2.1 hdg hi (lvg_at h2 hl) (kk H locs ls hP hS h2)
theorem g_aload (h : Ok Z X own cc ts nL rm) {i : Nat} {x : Nat} (hdg : decode cc pc = .ok (.aload i, 2)) (hl : lvg lv i = some (.ref x)) (kk : G Z X M (pc + 2) lv (.ref x :: st)) : G Z X M pc lv st := fun H locs ls hP hS h2 => lv_aload h.1 h.2.1 hdg (lvg_at h2 hl) (kk H locs ls hP hS h2)
abbrev lvs (lv : List (Nat × Value)) (i : Nat) (v : Value) : List (Nat × Value) := (i, v) :: lv.filter (fun q => !(q.1 == i) && !(q.1 + 1 == i && q.2.category == 2))
abbrev lvs2 (lv : List (Nat × Value)) (i : Nat) (v : Value) : List (Nat × Value) := (i, v) :: lv.filter (fun q => !(q.1 == i) && (!(q.1 == i + 1) && !(q.1 + 1 == i && q.2.category == 2)))
theorem g_istore_n (h : Ok Z X own cc ts nL rm) {k : Fin 4} {i : Nat} {x : Int32} (hdg : decode cc pc = .ok (.istore_n k, 1)) (hi : (k : Nat) = i) (hn : i < nL) (hl : lvs lv i (.int x) = lv') (kk : G Z X M (pc + 1) lv' st) : G Z X M pc lv (.int x :: st) := fun H locs ls hP hS h2 => lv_istore_n h.1 h.2.1 hdg hi h2 (h.2.2.1 ▸ hn) hl (fun ls' h3 => kk H locs ls' hP hS h3)
theorem g_istore (h : Ok Z X own cc ts nL rm) {i : Nat} {x : Int32} (hdg : decode cc pc = .ok (.istore i, 2)) (hn : i < nL) (hl : lvs lv i (.int x) = lv') (kk : G Z X M (pc + 2) lv' st) : G Z X M pc lv (.int x :: st) := fun H locs ls hP hS h2 => lv_istore h.1 h.2.1 hdg h2 (h.2.2.1 ▸ hn) hl (fun ls' h3 => kk H locs ls' hP hS h3)
theorem g_lstore_n (h : Ok Z X own cc ts nL rm) {k : Fin 4} {i : Nat} {x : Int64} (hdg : decode cc pc = .ok (.lstore_n k, 1)) (hi : (k : Nat) = i) (hn : i + 1 < nL) (hl : lvs2 lv i (.long x) = lv') (kk : G Z X M (pc + 1) lv' st) : G Z X M pc lv (.long x :: st) := fun H locs ls hP hS h2 => lv_lstore_n h.1 h.2.1 hdg hi h2 (h.2.2.1 ▸ hn) hl (fun ls' h3 => kk H locs ls' hP hS h3)
theorem g_lstore (h : Ok Z X own cc ts nL rm) {i : Nat} {x : Int64} (hdg : decode cc pc = .ok (.lstore i, 2)) (hn : i + 1 < nL) (hl : lvs2 lv i (.long x) = lv') (kk : G Z X M (pc + 2) lv' st) : G Z X M pc lv (.long x :: st) := fun H locs ls hP hS h2 => lv_lstore h.1 h.2.1 hdg h2 (h.2.2.1 ▸ hn) hl (fun ls' h3 => kk H locs ls' hP hS h3)
theorem g_astore_n (h : Ok Z X own cc ts nL rm) {k : Fin 4} {i : Nat} {x : Nat} (hdg : decode cc pc = .ok (.astore_n k, 1)) (hi : (k : Nat) = i) (hn : i < nL) (hl : lvs lv i (.ref x) = lv') (kk : G Z X M (pc + 1) lv' st) : G Z X M pc lv (.ref x :: st) := fun H locs ls hP hS h2 => lv_astore_n h.1 h.2.1 hdg hi h2 (h.2.2.1 ▸ hn) hl (fun ls' h3 => kk H locs ls' hP hS h3)
theorem g_astore (h : Ok Z X own cc ts nL rm) {i : Nat} {x : Nat} (hdg : decode cc pc = .ok (.astore i, 2)) (hn : i < nL) (hl : lvs lv i (.ref x) = lv') (kk : G Z X M (pc + 2) lv' st) : G Z X M pc lv (.ref x :: st) := fun H locs ls hP hS h2 => lv_astore h.1 h.2.1 hdg h2 (h.2.2.1 ▸ hn) hl (fun ls' h3 => kk H locs ls' hP hS h3)
theorem g_iinc (h : Ok Z X own cc ts nL rm) {i : Nat} {n : Int} {x n' : Int32} {lw : Int32 → List (Nat × Value)} (hdg : decode cc pc = .ok (.iinc i n, 3)) (hg : lvg lv i = some (.int x)) (hv : Int32.ofInt n = n') (hn : i < nL) (hl : ∀ y, lvs lv i (.int y) = lw y) (kk : ∀ y : Int32, y = x + n' → G Z X M (pc + 3) (lw y) st) : G Z X M pc lv st := fun H locs ls hP hS h2 => by
  subst hv
  obtain ⟨k, hk⟩ := List.getElem?_of_mem (lvg_mem hg)
  exact lv_iinc h.1 h.2.1 hdg h2 hk rfl (h.2.2.1 ▸ hn) (hl _) (fun ls' h3 => kk _ rfl H locs ls' hP hS h3)
theorem g_iadd (h : Ok Z X own cc ts nL rm) {x y : Int32} (hdg : decode cc pc = .ok (.iadd, 1))  (k : G Z X M (pc + 1) lv (.int (x + y) :: st)) : G Z X M pc lv (.int y :: .int x :: st) := fun H locs ls hP hS hl => lv_iadd h.1 h.2.1 hdg  (k H locs ls hP hS hl)
theorem g_isub (h : Ok Z X own cc ts nL rm) {x y : Int32} (hdg : decode cc pc = .ok (.isub, 1))  (k : G Z X M (pc + 1) lv (.int (x - y) :: st)) : G Z X M pc lv (.int y :: .int x :: st) := fun H locs ls hP hS hl => lv_isub h.1 h.2.1 hdg  (k H locs ls hP hS hl)
theorem g_imul (h : Ok Z X own cc ts nL rm) {x y : Int32} (hdg : decode cc pc = .ok (.imul, 1))  (k : G Z X M (pc + 1) lv (.int (x * y) :: st)) : G Z X M pc lv (.int y :: .int x :: st) := fun H locs ls hP hS hl => lv_imul h.1 h.2.1 hdg  (k H locs ls hP hS hl)
theorem g_iand (h : Ok Z X own cc ts nL rm) {x y : Int32} (hdg : decode cc pc = .ok (.iand, 1))  (k : G Z X M (pc + 1) lv (.int (x &&& y) :: st)) : G Z X M pc lv (.int y :: .int x :: st) := fun H locs ls hP hS hl => lv_iand h.1 h.2.1 hdg  (k H locs ls hP hS hl)
theorem g_ior (h : Ok Z X own cc ts nL rm) {x y : Int32} (hdg : decode cc pc = .ok (.ior, 1))  (k : G Z X M (pc + 1) lv (.int (x ||| y) :: st)) : G Z X M pc lv (.int y :: .int x :: st) := fun H locs ls hP hS hl => lv_ior h.1 h.2.1 hdg  (k H locs ls hP hS hl)
theorem g_ixor (h : Ok Z X own cc ts nL rm) {x y : Int32} (hdg : decode cc pc = .ok (.ixor, 1))  (k : G Z X M (pc + 1) lv (.int (x ^^^ y) :: st)) : G Z X M pc lv (.int y :: .int x :: st) := fun H locs ls hP hS hl => lv_ixor h.1 h.2.1 hdg  (k H locs ls hP hS hl)
theorem g_ishl (h : Ok Z X own cc ts nL rm) {x y : Int32} (hdg : decode cc pc = .ok (.ishl, 1))  (k : G Z X M (pc + 1) lv (.int (x <<< (y &&& 31)) :: st)) : G Z X M pc lv (.int y :: .int x :: st) := fun H locs ls hP hS hl => lv_ishl h.1 h.2.1 hdg  (k H locs ls hP hS hl)
theorem g_ishr (h : Ok Z X own cc ts nL rm) {x y : Int32} (hdg : decode cc pc = .ok (.ishr, 1))  (k : G Z X M (pc + 1) lv (.int (x >>> (y &&& 31)) :: st)) : G Z X M pc lv (.int y :: .int x :: st) := fun H locs ls hP hS hl => lv_ishr h.1 h.2.1 hdg  (k H locs ls hP hS hl)
theorem g_ladd (h : Ok Z X own cc ts nL rm) {x y : Int64} (hdg : decode cc pc = .ok (.ladd, 1))  (k : G Z X M (pc + 1) lv (.long (x + y) :: st)) : G Z X M pc lv (.long y :: .long x :: st) := fun H locs ls hP hS hl => lv_ladd h.1 h.2.1 hdg  (k H locs ls hP hS hl)
theorem g_lsub (h : Ok Z X own cc ts nL rm) {x y : Int64} (hdg : decode cc pc = .ok (.lsub, 1))  (k : G Z X M (pc + 1) lv (.long (x - y) :: st)) : G Z X M pc lv (.long y :: .long x :: st) := fun H locs ls hP hS hl => lv_lsub h.1 h.2.1 hdg  (k H locs ls hP hS hl)
theorem g_lmul (h : Ok Z X own cc ts nL rm) {x y : Int64} (hdg : decode cc pc = .ok (.lmul, 1))  (k : G Z X M (pc + 1) lv (.long (x * y) :: st)) : G Z X M pc lv (.long y :: .long x :: st) := fun H locs ls hP hS hl => lv_lmul h.1 h.2.1 hdg  (k H locs ls hP hS hl)
theorem g_land (h : Ok Z X own cc ts nL rm) {x y : Int64} (hdg : decode cc pc = .ok (.land, 1))  (k : G Z X M (pc + 1) lv (.long (x &&& y) :: st)) : G Z X M pc lv (.long y :: .long x :: st) := fun H locs ls hP hS hl => lv_land h.1 h.2.1 hdg  (k H locs ls hP hS hl)
theorem g_lor (h : Ok Z X own cc ts nL rm) {x y : Int64} (hdg : decode cc pc = .ok (.lor, 1))  (k : G Z X M (pc + 1) lv (.long (x ||| y) :: st)) : G Z X M pc lv (.long y :: .long x :: st) := fun H locs ls hP hS hl => lv_lor h.1 h.2.1 hdg  (k H locs ls hP hS hl)
theorem g_lxor (h : Ok Z X own cc ts nL rm) {x y : Int64} (hdg : decode cc pc = .ok (.lxor, 1))  (k : G Z X M (pc + 1) lv (.long (x ^^^ y) :: st)) : G Z X M pc lv (.long y :: .long x :: st) := fun H locs ls hP hS hl => lv_lxor h.1 h.2.1 hdg  (k H locs ls hP hS hl)
theorem g_idiv (h : Ok Z X own cc ts nL rm) {x y : Int32} (hdg : decode cc pc = .ok (.idiv, 1)) (hne : ¬ y = 0) (k : G Z X M (pc + 1) lv (.int (x / y) :: st)) : G Z X M pc lv (.int y :: .int x :: st) := fun H locs ls hP hS hl => lv_idiv h.1 h.2.1 hdg hne (k H locs ls hP hS hl)
theorem g_irem (h : Ok Z X own cc ts nL rm) {x y : Int32} (hdg : decode cc pc = .ok (.irem, 1)) (hne : ¬ y = 0) (k : G Z X M (pc + 1) lv (.int (x - x / y * y) :: st)) : G Z X M pc lv (.int y :: .int x :: st) := fun H locs ls hP hS hl => lv_irem h.1 h.2.1 hdg hne (k H locs ls hP hS hl)
theorem g_ineg (h : Ok Z X own cc ts nL rm) {x : Int32} (hdg : decode cc pc = .ok (.ineg, 1))  (k : G Z X M (pc + 1) lv (.int (-x) :: st)) : G Z X M pc lv (.int x :: st) := fun H locs ls hP hS hl => lv_ineg h.1 h.2.1 hdg  (k H locs ls hP hS hl)
theorem g_i2l (h : Ok Z X own cc ts nL rm) {x : Int32} (hdg : decode cc pc = .ok (.i2l, 1))  (k : G Z X M (pc + 1) lv (.long x.toInt64 :: st)) : G Z X M pc lv (.int x :: st) := fun H locs ls hP hS hl => lv_i2l h.1 h.2.1 hdg rfl (k H locs ls hP hS hl)
theorem g_l2i (h : Ok Z X own cc ts nL rm) {x : Int64} (hdg : decode cc pc = .ok (.l2i, 1))  (k : G Z X M (pc + 1) lv (.int x.toInt32 :: st)) : G Z X M pc lv (.long x :: st) := fun H locs ls hP hS hl => lv_l2i h.1 h.2.1 hdg rfl (k H locs ls hP hS hl)
theorem g_iushr (h : Ok Z X own cc ts nL rm) {x y : Int32} (hdg : decode cc pc = .ok (.iushr, 1))  (k : G Z X M (pc + 1) lv (.int ((x.toUInt32 >>> (y.toUInt32 &&& Int32.toUInt32 31)).toInt32) :: st)) : G Z X M pc lv (.int y :: .int x :: st) := fun H locs ls hP hS hl => lv_iushr h.1 h.2.1 hdg rfl (k H locs ls hP hS hl)
theorem g_lushr (h : Ok Z X own cc ts nL rm) {x : Int64} {y : Int32} (hdg : decode cc pc = .ok (.lushr, 1))  (k : G Z X M (pc + 1) lv (.long ((x.toUInt64 >>> (y.toInt64.toUInt64 &&& Int64.toUInt64 63)).toInt64) :: st)) : G Z X M pc lv (.int y :: .long x :: st) := fun H locs ls hP hS hl => lv_lushr h.1 h.2.1 hdg rfl (k H locs ls hP hS hl)
theorem g_lshl (h : Ok Z X own cc ts nL rm) {x : Int64} {y : Int32} (hdg : decode cc pc = .ok (.lshl, 1))  (k : G Z X M (pc + 1) lv (.long (x <<< (y.toInt64 &&& 63)) :: st)) : G Z X M pc lv (.int y :: .long x :: st) := fun H locs ls hP hS hl => lv_lshl h.1 h.2.1 hdg rfl (k H locs ls hP hS hl)
theorem g_lshr (h : Ok Z X own cc ts nL rm) {x : Int64} {y : Int32} (hdg : decode cc pc = .ok (.lshr, 1))  (k : G Z X M (pc + 1) lv (.long (x >>> (y.toInt64 &&& 63)) :: st)) : G Z X M pc lv (.int y :: .long x :: st) := fun H locs ls hP hS hl => lv_lshr h.1 h.2.1 hdg rfl (k H locs ls hP hS hl)
theorem g_lcmp (h : Ok Z X own cc ts nL rm) {x y : Int64} (hdg : decode cc pc = .ok (.lcmp, 1))  (k : G Z X M (pc + 1) lv (.int (lg_cmp x y) :: st)) : G Z X M pc lv (.long y :: .long x :: st) := fun H locs ls hP hS hl => W.lcmp h.1 h.2.1 hdg  (k H locs ls hP hS hl)
theorem g_dup (h : Ok Z X own cc ts nL rm) {va : Value} (hdg : decode cc pc = .ok (.dup, 1)) (hva : va.category = 1) (k : G Z X M (pc + 1) lv (va :: va :: st)) : G Z X M pc lv (va :: st) := fun H locs ls hP hS hl => lv_dup h.1 h.2.1 hdg hva (k H locs ls hP hS hl)
theorem g_pop (h : Ok Z X own cc ts nL rm) {va : Value} (hdg : decode cc pc = .ok (.pop, 1)) (hva : va.category = 1) (k : G Z X M (pc + 1) lv (st)) : G Z X M pc lv (va :: st) := fun H locs ls hP hS hl => lv_pop h.1 h.2.1 hdg hva (k H locs ls hP hS hl)
theorem g_dup_x1 (h : Ok Z X own cc ts nL rm) {va vb : Value} (hdg : decode cc pc = .ok (.dup_x1, 1)) (hva : va.category = 1) (hvb : vb.category = 1) (k : G Z X M (pc + 1) lv (va :: vb :: va :: st)) : G Z X M pc lv (va :: vb :: st) := fun H locs ls hP hS hl => lv_dup_x1 h.1 h.2.1 hdg hva hvb (k H locs ls hP hS hl)
theorem g_dup2_11 (h : Ok Z X own cc ts nL rm) {va vb : Value} (hdg : decode cc pc = .ok (.dup2, 1)) (hva : va.category = 1) (hvb : vb.category = 1) (k : G Z X M (pc + 1) lv (va :: vb :: va :: vb :: st)) : G Z X M pc lv (va :: vb :: st) := fun H locs ls hP hS hl => lv_dup2_11 h.1 h.2.1 hdg hva hvb (k H locs ls hP hS hl)
theorem g_dup2_2 (h : Ok Z X own cc ts nL rm) {va : Value} (hdg : decode cc pc = .ok (.dup2, 1)) (hva : va.category = 2) (k : G Z X M (pc + 1) lv (va :: va :: st)) : G Z X M pc lv (va :: st) := fun H locs ls hP hS hl => lv_dup2_2 h.1 h.2.1 hdg hva (k H locs ls hP hS hl)
theorem g_dup2_x1_2 (h : Ok Z X own cc ts nL rm) {va vb : Value} (hdg : decode cc pc = .ok (.dup2_x1, 1)) (hva : va.category = 2) (hvb : vb.category = 1) (k : G Z X M (pc + 1) lv (va :: vb :: va :: st)) : G Z X M pc lv (va :: vb :: st) := fun H locs ls hP hS hl => lv_dup2_x1_2 h.1 h.2.1 hdg hva hvb (k H locs ls hP hS hl)
theorem g_if_eq (h : Ok Z X own cc ts nL rm) {x : Int32} {off : Int} {tgt : Nat} (hdg : decode cc pc = .ok (.ifCond .eq off, 3)) (ht : (pc : Int) + off = (tgt : Int)) (kt : x = 0 → G Z X M tgt lv st) (kf : ¬ x = 0 → G Z X M (pc + 3) lv st) : G Z X M pc lv (.int x :: st) := fun H locs ls hP hS hl => lv_if_eq h.1 h.2.1 hdg ht (fun c => kt c H locs ls hP hS hl) (fun c => kf c H locs ls hP hS hl)
theorem g_if_ne (h : Ok Z X own cc ts nL rm) {x : Int32} {off : Int} {tgt : Nat} (hdg : decode cc pc = .ok (.ifCond .ne off, 3)) (ht : (pc : Int) + off = (tgt : Int)) (kt : ¬ x = 0 → G Z X M tgt lv st) (kf : x = 0 → G Z X M (pc + 3) lv st) : G Z X M pc lv (.int x :: st) := fun H locs ls hP hS hl => lv_if_ne h.1 h.2.1 hdg ht (fun c => kt c H locs ls hP hS hl) (fun c => kf c H locs ls hP hS hl)
theorem g_if_lt (h : Ok Z X own cc ts nL rm) {x : Int32} {off : Int} {tgt : Nat} (hdg : decode cc pc = .ok (.ifCond .lt off, 3)) (ht : (pc : Int) + off = (tgt : Int)) (kt : x < 0 → G Z X M tgt lv st) (kf : ¬ x < 0 → G Z X M (pc + 3) lv st) : G Z X M pc lv (.int x :: st) := fun H locs ls hP hS hl => lv_if_lt h.1 h.2.1 hdg ht (fun c => kt c H locs ls hP hS hl) (fun c => kf c H locs ls hP hS hl)
theorem g_if_ge (h : Ok Z X own cc ts nL rm) {x : Int32} {off : Int} {tgt : Nat} (hdg : decode cc pc = .ok (.ifCond .ge off, 3)) (ht : (pc : Int) + off = (tgt : Int)) (kt : 0 ≤ x → G Z X M tgt lv st) (kf : ¬ 0 ≤ x → G Z X M (pc + 3) lv st) : G Z X M pc lv (.int x :: st) := fun H locs ls hP hS hl => lv_if_ge h.1 h.2.1 hdg ht (fun c => kt c H locs ls hP hS hl) (fun c => kf c H locs ls hP hS hl)
theorem g_if_gt (h : Ok Z X own cc ts nL rm) {x : Int32} {off : Int} {tgt : Nat} (hdg : decode cc pc = .ok (.ifCond .gt off, 3)) (ht : (pc : Int) + off = (tgt : Int)) (kt : 0 < x → G Z X M tgt lv st) (kf : ¬ 0 < x → G Z X M (pc + 3) lv st) : G Z X M pc lv (.int x :: st) := fun H locs ls hP hS hl => lv_if_gt h.1 h.2.1 hdg ht (fun c => kt c H locs ls hP hS hl) (fun c => kf c H locs ls hP hS hl)
theorem g_if_le (h : Ok Z X own cc ts nL rm) {x : Int32} {off : Int} {tgt : Nat} (hdg : decode cc pc = .ok (.ifCond .le off, 3)) (ht : (pc : Int) + off = (tgt : Int)) (kt : x ≤ 0 → G Z X M tgt lv st) (kf : ¬ x ≤ 0 → G Z X M (pc + 3) lv st) : G Z X M pc lv (.int x :: st) := fun H locs ls hP hS hl => lv_if_le h.1 h.2.1 hdg ht (fun c => kt c H locs ls hP hS hl) (fun c => kf c H locs ls hP hS hl)
theorem g_icmp_eq (h : Ok Z X own cc ts nL rm) {x y : Int32} {off : Int} {tgt : Nat} (hdg : decode cc pc = .ok (.if_icmp .eq off, 3)) (ht : (pc : Int) + off = (tgt : Int)) (kt : x = y → G Z X M tgt lv st) (kf : ¬ x = y → G Z X M (pc + 3) lv st) : G Z X M pc lv (.int y :: .int x :: st) := fun H locs ls hP hS hl => lv_icmp_eq h.1 h.2.1 hdg ht (fun c => kt c H locs ls hP hS hl) (fun c => kf c H locs ls hP hS hl)
theorem g_icmp_ne (h : Ok Z X own cc ts nL rm) {x y : Int32} {off : Int} {tgt : Nat} (hdg : decode cc pc = .ok (.if_icmp .ne off, 3)) (ht : (pc : Int) + off = (tgt : Int)) (kt : ¬ x = y → G Z X M tgt lv st) (kf : x = y → G Z X M (pc + 3) lv st) : G Z X M pc lv (.int y :: .int x :: st) := fun H locs ls hP hS hl => lv_icmp_ne h.1 h.2.1 hdg ht (fun c => kt c H locs ls hP hS hl) (fun c => kf c H locs ls hP hS hl)
theorem g_icmp_lt (h : Ok Z X own cc ts nL rm) {x y : Int32} {off : Int} {tgt : Nat} (hdg : decode cc pc = .ok (.if_icmp .lt off, 3)) (ht : (pc : Int) + off = (tgt : Int)) (kt : x < y → G Z X M tgt lv st) (kf : ¬ x < y → G Z X M (pc + 3) lv st) : G Z X M pc lv (.int y :: .int x :: st) := fun H locs ls hP hS hl => lv_icmp_lt h.1 h.2.1 hdg ht (fun c => kt c H locs ls hP hS hl) (fun c => kf c H locs ls hP hS hl)
theorem g_icmp_ge (h : Ok Z X own cc ts nL rm) {x y : Int32} {off : Int} {tgt : Nat} (hdg : decode cc pc = .ok (.if_icmp .ge off, 3)) (ht : (pc : Int) + off = (tgt : Int)) (kt : y ≤ x → G Z X M tgt lv st) (kf : ¬ y ≤ x → G Z X M (pc + 3) lv st) : G Z X M pc lv (.int y :: .int x :: st) := fun H locs ls hP hS hl => lv_icmp_ge h.1 h.2.1 hdg ht (fun c => kt c H locs ls hP hS hl) (fun c => kf c H locs ls hP hS hl)
theorem g_icmp_gt (h : Ok Z X own cc ts nL rm) {x y : Int32} {off : Int} {tgt : Nat} (hdg : decode cc pc = .ok (.if_icmp .gt off, 3)) (ht : (pc : Int) + off = (tgt : Int)) (kt : y < x → G Z X M tgt lv st) (kf : ¬ y < x → G Z X M (pc + 3) lv st) : G Z X M pc lv (.int y :: .int x :: st) := fun H locs ls hP hS hl => lv_icmp_gt h.1 h.2.1 hdg ht (fun c => kt c H locs ls hP hS hl) (fun c => kf c H locs ls hP hS hl)
theorem g_icmp_le (h : Ok Z X own cc ts nL rm) {x y : Int32} {off : Int} {tgt : Nat} (hdg : decode cc pc = .ok (.if_icmp .le off, 3)) (ht : (pc : Int) + off = (tgt : Int)) (kt : x ≤ y → G Z X M tgt lv st) (kf : ¬ x ≤ y → G Z X M (pc + 3) lv st) : G Z X M pc lv (.int y :: .int x :: st) := fun H locs ls hP hS hl => lv_icmp_le h.1 h.2.1 hdg ht (fun c => kt c H locs ls hP hS hl) (fun c => kf c H locs ls hP hS hl)
theorem g_goto (h : Ok Z X own cc ts nL rm) {off : Int} {tgt : Nat} (hdg : decode cc pc = .ok (.goto off, 3)) (ht : (pc : Int) + off = (tgt : Int)) (k : G Z X M tgt lv st) : G Z X M pc lv st := fun H locs ls hP hS hl => lv_goto h.1 h.2.1 hdg ht (k H locs ls hP hS hl)
theorem g_tabIn (h : Ok Z X own cc ts nL rm) {dflt lo hi : Int} {offs : Array Int} {len : Nat} {x : Int32} {off : Int} {tgt : Nat} (hdg : decode cc pc = .ok (.tableswitch dflt lo hi offs, len)) (h1 : ¬ x.toInt < lo) (h2 : ¬ hi < x.toInt) (ho : offs[(x.toInt - lo).toNat]? = some off) (ht : (pc : Int) + off = (tgt : Int)) (k : G Z X M tgt lv st) : G Z X M pc lv (.int x :: st) := fun H locs ls hP hS hl => lv_tableIn h.1 h.2.1 hdg h1 h2 ho ht (k H locs ls hP hS hl)
theorem g_tabOut (h : Ok Z X own cc ts nL rm) {dflt lo hi : Int} {offs : Array Int} {len : Nat} {x : Int32} {tgt : Nat} (hdg : decode cc pc = .ok (.tableswitch dflt lo hi offs, len)) (h1 : x.toInt < lo ∨ hi < x.toInt) (ht : (pc : Int) + dflt = (tgt : Int)) (k : G Z X M tgt lv st) : G Z X M pc lv (.int x :: st) := fun H locs ls hP hS hl => lv_tableOut h.1 h.2.1 hdg h1 ht (k H locs ls hP hS hl)
theorem g_look (h : Ok Z X own cc ts nL rm) {dflt : Int} {ps : Array (Int × Int)} {len : Nat} {x : Int32} {off : Int} {tgt : Nat} (hdg : decode cc pc = .ok (.lookupswitch dflt ps, len)) (hp : (ps.toList.zip (ps.toList.drop 1)).all (fun (a, next) => a.1 < next.1) = true) (ho : Op.lookupswitch.offset ps.toList dflt x.toInt = off) (ht : (pc : Int) + off = (tgt : Int)) (k : G Z X M tgt lv st) : G Z X M pc lv (.int x :: st) := fun H locs ls hP hS hl => lv_lookup h.1 h.2.1 hdg hp ho ht (k H locs ls hP hS hl)
end GR
