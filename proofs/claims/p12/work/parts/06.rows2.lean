/-! Memory: a cell is read off the memory by its tag and its number; rows for fields and arrays. -/
def fval (a : Nat → Nat → Nat) (t i : Nat) (M : Mm) (k : Nat) : Value := match fk t k with
  | 0 => .int (M.1 t i k)
  | 1 => .long (M.2 t i k)
  | _ => .ref (a (rt t k) (ri t k i))
def flds (a : Nat → Nat → Nat) (t i : Nat) (M : Mm) : List Value := (List.range (nf t)).map (fval a t i M)
def cellE (a : Nat → Nat → Nat) (c : Nat → ClassId) (t i : Nat) (M : Mm) : va_E := match ck t with
  | 0 => .inr (cn t, flds a t i M)
  | 1 => .inl (c 0, nf t, .inl (M.1 t i))
  | 2 => .inl (c 1, nf t, .inl (M.1 t i))
  | 3 => .inl (c 2, nf t, .inr (.inl (M.2 t i)))
  | _ => .inl (c (cn t), nf t, .inr (.inr (.inr (.inr (fun j => some (a (et t) (ei t j)))))))
/-- the world is laid out by tags and numbers -/
def Lay (Z : ZT) (S : Nat → Bool) : Prop :=
  (∀ (M : Mm) (t i : Nat), S t = true → i < cnt t → (zw Z M)[pos t i]? = some (za Z t i, cellE (za Z) (zc Z) t i M)) ∧
  (∀ (M M' : Mm) (t i : Nat), S t = true → i < cnt t → (∀ a b, ¬ (a = t ∧ b = i) → cellE (za Z) (zc Z) a b M = cellE (za Z) (zc Z) a b M') → (zw Z M).set (pos t i) (za Z t i, cellE (za Z) (zc Z) t i M') = zw Z M') ∧
  (∀ M M' : Mm, (zw Z M).map Prod.fst = (zw Z M').map Prod.fst)
theorem cellE_eq {z : Nat → Nat → Nat} {c : Nat → ClassId} {a b : Nat} {M M' : Mm} (h1 : M.1 a b = M'.1 a b) (h2 : M.2 a b = M'.2 a b) : cellE z c a b M = cellE z c a b M' := by
  have h3 : fval z a b M = fval z a b M' := by
    funext k
    unfold fval
    rw [h1, h2]
  unfold cellE flds
  rw [h1, h2, h3]
theorem sI_ne {M : Mm} {t i k a b : Nat} {v : Int32} (hne : ¬ (a = t ∧ b = i)) : (sI M t i k v).1 a b = M.1 a b := by
  funext c
  show (if a = t ∧ b = i ∧ c = k then v else M.1 a b c) = _
  rw [if_neg (fun q => hne ⟨q.1, q.2.1⟩)]
theorem sL_ne {M : Mm} {t i k a b : Nat} {v : Int64} (hne : ¬ (a = t ∧ b = i)) : (sL M t i k v).2 a b = M.2 a b := by
  funext c
  show (if a = t ∧ b = i ∧ c = k then v else M.2 a b c) = _
  rw [if_neg (fun q => hne ⟨q.1, q.2.1⟩)]
theorem sA_ne {M : Mm} {t i a b : Nat} {f : Nat → Int32} (hne : ¬ (a = t ∧ b = i)) : (sA M t i f).1 a b = M.1 a b := by
  funext c
  show (if a = t ∧ b = i then f c else M.1 a b c) = _
  rw [if_neg hne]
theorem sB_ne {M : Mm} {t i a b : Nat} {f : Nat → Int64} (hne : ¬ (a = t ∧ b = i)) : (sB M t i f).2 a b = M.2 a b := by
  funext c
  show (if a = t ∧ b = i then f c else M.2 a b c) = _
  rw [if_neg hne]
theorem sI_at {M : Mm} {t i k : Nat} {v : Int32} : (sI M t i k v).1 t i = upd (M.1 t i) k v := by
  funext c
  show (if t = t ∧ i = i ∧ c = k then v else M.1 t i c) = (if c = k then v else M.1 t i c)
  by_cases h : c = k
  · rw [if_pos ⟨rfl, rfl, h⟩, if_pos h]
  · rw [if_neg (fun q => h q.2.2), if_neg h]
theorem sL_at {M : Mm} {t i k : Nat} {v : Int64} : (sL M t i k v).2 t i = vp_updL (M.2 t i) k v := by
  funext c
  show (if t = t ∧ i = i ∧ c = k then v else M.2 t i c) = (if c = k then v else M.2 t i c)
  by_cases h : c = k
  · rw [if_pos ⟨rfl, rfl, h⟩, if_pos h]
  · rw [if_neg (fun q => h q.2.2), if_neg h]
theorem sA_at {M : Mm} {t i : Nat} {f : Nat → Int32} : (sA M t i f).1 t i = f := by
  funext c
  show (if t = t ∧ i = i then f c else M.1 t i c) = _
  rw [if_pos ⟨rfl, rfl⟩]
theorem sB_at {M : Mm} {t i : Nat} {f : Nat → Int64} : (sB M t i f).2 t i = f := by
  funext c
  show (if t = t ∧ i = i then f c else M.2 t i c) = _
  rw [if_pos ⟨rfl, rfl⟩]
theorem flds_get {z : Nat → Nat → Nat} {t i k : Nat} {M : Mm} (hk : k < nf t) : (flds z t i M)[k]? = some (fval z t i M k) := by
  unfold flds
  rw [List.getElem?_map, List.getElem?_range hk]
  rfl
theorem flds_len {z : Nat → Nat → Nat} {t i : Nat} {M : Mm} : (flds z t i M).length = nf t := by
  unfold flds
  rw [List.length_map, List.length_range]
theorem flds_ext {z : Nat → Nat → Nat} {t i k : Nat} {M M' : Mm} {v : Value} (hk : k < nf t) (h1 : fval z t i M' k = v) (h2 : ∀ j, j ≠ k → fval z t i M' j = fval z t i M j) : (flds z t i M).set k v = flds z t i M' := by
  apply List.ext_getElem?
  intro j
  by_cases hj : j = k
  · subst hj
    rw [List.getElem?_set_self (by rw [flds_len]; exact hk), flds_get hk, h1]
  · rw [List.getElem?_set_ne (fun q => hj q.symm)]
    by_cases hn : j < nf t
    · rw [flds_get hn, flds_get hn, h2 j hj]
    · rw [List.getElem?_eq_none (by rw [flds_len]; omega), List.getElem?_eq_none (by rw [flds_len]; omega)]
section GM
variable {Z : ZT} {X : XT} {M : Mm} {pc : Nat} {lv lv' : List (Nat × Value)} {st : List Value} {own : String} {cc : ByteArray} {ts : List Cond} {nL : Nat} {rm : Room} {S : Nat → Bool} {t i k : Nat}
/-- an object's cell of tag t: its class in the tables -/
def Ob (t : Nat) (C : String) (T : u_T) (N : Nat) : Prop := ck t = 0 ∧ vwCl[cn t]? = some (C, T, N) ∧ nf t = N
theorem Lay.ob (hL : Lay Z S) (hS : S t = true) (hi : i < cnt t) (hck : ck t = 0) : (zw Z M)[pos t i]? = some (za Z t i, .inr (cn t, flds (za Z) t i M)) := by
  rw [hL.1 M t i hS hi]
  simp only [cellE, hck]
theorem g_getv (h : Ok Z X own cc ts nL rm) (hL : Lay Z S) (hS : S t = true) (hi : i < cnt t) {C ref : String} {T : u_T} {N index : Nat} (ho : Ob t C T N) (hk : k < N) (hin : ∀ w ∈ u_ws C T N, w ∈ ts) (hlink : Cond.fieldLink own index ref (T k).2.1 (T k).2.2.1 ∈ ts) (hsame : (T k).1 = ref) {v : Value} (hv : fval (za Z) t i M k = v) (hdg : decode cc pc = .ok (.getfield index, 3))
    (kk : G Z X M (pc + 3) lv (v :: st)) : G Z X M pc lv (.ref (za Z t i) :: st) := fun H locs ls hP hS' hl => by
  obtain ⟨hck, hc, hN⟩ := ho
  refine va_get h.1 h.2.1 h.2.2.2.2.1 hin h.2.2.2.1 h.2.2.2.2.2.2.1 hP (pos t i) (hL.ob hS hi hck) hc k hk (h.2.2.2.2.1 _ hlink) (fun x hx => by rw [← hsame]; exact hx) (v := v) ?_ hdg (kk H locs ls hP hS' hl)
  rw [flds_get (by rw [hN]; exact hk), hv]
theorem g_getI (h : Ok Z X own cc ts nL rm) (hL : Lay Z S) (hS : S t = true) (hi : i < cnt t) {C ref : String} {T : u_T} {N index : Nat} (ho : Ob t C T N) (hk : k < N) (hfk : fk t k = 0) (hin : ∀ w ∈ u_ws C T N, w ∈ ts) (hlink : Cond.fieldLink own index ref (T k).2.1 (T k).2.2.1 ∈ ts) (hsame : (T k).1 = ref) (hdg : decode cc pc = .ok (.getfield index, 3))
    (kk : G Z X M (pc + 3) lv (.int (M.1 t i k) :: st)) : G Z X M pc lv (.ref (za Z t i) :: st) := g_getv h hL hS hi ho hk hin hlink hsame (by simp only [fval, hfk]) hdg kk
theorem g_getL (h : Ok Z X own cc ts nL rm) (hL : Lay Z S) (hS : S t = true) (hi : i < cnt t) {C ref : String} {T : u_T} {N index : Nat} (ho : Ob t C T N) (hk : k < N) (hfk : fk t k = 1) (hin : ∀ w ∈ u_ws C T N, w ∈ ts) (hlink : Cond.fieldLink own index ref (T k).2.1 (T k).2.2.1 ∈ ts) (hsame : (T k).1 = ref) (hdg : decode cc pc = .ok (.getfield index, 3))
    (kk : G Z X M (pc + 3) lv (.long (M.2 t i k) :: st)) : G Z X M pc lv (.ref (za Z t i) :: st) := g_getv h hL hS hi ho hk hin hlink hsame (by simp only [fval, hfk]) hdg kk
theorem g_getR (h : Ok Z X own cc ts nL rm) (hL : Lay Z S) (hS : S t = true) (hi : i < cnt t) {C ref : String} {T : u_T} {N index : Nat} (ho : Ob t C T N) (hk : k < N) (hfk : fk t k = 2) {t' i' : Nat} (ht' : rt t k = t') (hi' : ri t k i = i') (hin : ∀ w ∈ u_ws C T N, w ∈ ts) (hlink : Cond.fieldLink own index ref (T k).2.1 (T k).2.2.1 ∈ ts) (hsame : (T k).1 = ref) (hdg : decode cc pc = .ok (.getfield index, 3))
    (kk : G Z X M (pc + 3) lv (.ref (za Z t' i') :: st)) : G Z X M pc lv (.ref (za Z t i) :: st) := g_getv h hL hS hi ho hk hin hlink hsame (by subst ht'; subst hi'; simp only [fval, hfk]) hdg kk
theorem g_putv (h : Ok Z X own cc ts nL rm) (hL : Lay Z S) (hS : S t = true) (hi : i < cnt t) {C ref : String} {T : u_T} {N index : Nat} (ho : Ob t C T N) (hk : k < N) (hin : ∀ w ∈ u_ws C T N, w ∈ ts) (ty0 : Nat → FieldType) (hty : ∀ k, k < N → parseFieldDescriptor (T k).2.2.1 = some (ty0 k)) (hnm : ∀ a, a < N → ∀ b, b < N → a ≠ b → (T a).2.1 ≠ (T b).2.1) (hlink : Cond.fieldLink own index ref (T k).2.1 (T k).2.2.1 ∈ ts) (hsame : (T k).1 = ref) (hfin : (T k).2.2.2 = false) {v : Value} (hn : narrow (ty0 k) v = v) (hfit : fits (ty0 k) v = true) {M' : Mm} (hset : (flds (za Z) t i M).set k v = flds (za Z) t i M') (hoth : ∀ a b, ¬ (a = t ∧ b = i) → cellE (za Z) (zc Z) a b M = cellE (za Z) (zc Z) a b M') (hdg : decode cc pc = .ok (.putfield index, 3))
    (kk : G Z X M' (pc + 3) lv st) : G Z X M pc lv (v :: .ref (za Z t i) :: st) := fun H locs ls hP hS' hl => by
  obtain ⟨hck, hc, hN⟩ := ho
  refine va_put h.1 h.2.1 h.2.2.2.2.1 hin ty0 hty hnm h.2.2.2.1 h.2.2.2.2.2.2.1 hP (h.2.2.2.2.2.2.2.1 M) hS' (pos t i) (hL.ob hS hi hck) hc k hk (h.2.2.2.2.1 _ hlink) (fun x hx => by rw [← hsame]; exact hx) hfin (hty k hk) hn hfit (by rw [flds_len, hN]; exact hk) hdg (fun H1 locs1 hP1 hD1 hS1 => ?_)
  refine kk H1 locs1 ls ?_ hS1 hl
  have e := hL.2.1 M M' t i hS hi hoth
  have e2 : cellE (za Z) (zc Z) t i M' = .inr (cn t, flds (za Z) t i M') := by
    simp only [cellE, hck]
  rw [e2, ← hset] at e
  rw [← e]
  exact hP1
theorem g_putI (h : Ok Z X own cc ts nL rm) (hL : Lay Z S) (hS : S t = true) (hi : i < cnt t) {C ref : String} {T : u_T} {N index : Nat} (ho : Ob t C T N) (hk : k < N) (hfk : fk t k = 0) (hin : ∀ w ∈ u_ws C T N, w ∈ ts) (ty0 : Nat → FieldType) (hty : ∀ k, k < N → parseFieldDescriptor (T k).2.2.1 = some (ty0 k)) (hnm : ∀ a, a < N → ∀ b, b < N → a ≠ b → (T a).2.1 ≠ (T b).2.1) (hlink : Cond.fieldLink own index ref (T k).2.1 (T k).2.2.1 ∈ ts) (hsame : (T k).1 = ref) (hfin : (T k).2.2.2 = false) (hint : ty0 k = .int) {v : Int32} (hdg : decode cc pc = .ok (.putfield index, 3))
    (kk : G Z X (sI M t i k v) (pc + 3) lv st) : G Z X M pc lv (.int v :: .ref (za Z t i) :: st) := by
  refine g_putv (M' := sI M t i k v) h hL hS hi ho hk hin ty0 hty hnm hlink hsame hfin (by rw [hint]; rfl) (by rw [hint]; rfl) (flds_ext (by rw [ho.2.2]; exact hk) ?_ ?_) (fun a b hne => (cellE_eq (sI_ne hne) rfl).symm) hdg kk
  · simp [fval, hfk, sI_at, upd]
  · intro j hj
    unfold fval
    rw [sI_at]
    simp [upd, hj, sI]
theorem g_putL (h : Ok Z X own cc ts nL rm) (hL : Lay Z S) (hS : S t = true) (hi : i < cnt t) {C ref : String} {T : u_T} {N index : Nat} (ho : Ob t C T N) (hk : k < N) (hfk : fk t k = 1) (hin : ∀ w ∈ u_ws C T N, w ∈ ts) (ty0 : Nat → FieldType) (hty : ∀ k, k < N → parseFieldDescriptor (T k).2.2.1 = some (ty0 k)) (hnm : ∀ a, a < N → ∀ b, b < N → a ≠ b → (T a).2.1 ≠ (T b).2.1) (hlink : Cond.fieldLink own index ref (T k).2.1 (T k).2.2.1 ∈ ts) (hsame : (T k).1 = ref) (hfin : (T k).2.2.2 = false) (hint : ty0 k = .long) {v : Int64} (hdg : decode cc pc = .ok (.putfield index, 3))
    (kk : G Z X (sL M t i k v) (pc + 3) lv st) : G Z X M pc lv (.long v :: .ref (za Z t i) :: st) := by
  refine g_putv (M' := sL M t i k v) h hL hS hi ho hk hin ty0 hty hnm hlink hsame hfin (by rw [hint]; rfl) (by rw [hint]; rfl) (flds_ext (by rw [ho.2.2]; exact hk) ?_ ?_) (fun a b hne => (cellE_eq (M := sL M t i k v) (M' := M) rfl (sL_ne hne)).symm) hdg kk
  · simp [fval, hfk, sL_at, vp_updL]
  · intro j hj
    unfold fval
    rw [sL_at]
    simp [vp_updL, hj, sL]
theorem Lay.ai (hL : Lay Z S) (hS : S t = true) (hi : i < cnt t) (hck : ck t = 1) : (zw Z M)[pos t i]? = some (za Z t i, .inl (zc Z 0, nf t, .inl (M.1 t i))) := by
  rw [hL.1 M t i hS hi]
  simp only [cellE, hck]
theorem Lay.az (hL : Lay Z S) (hS : S t = true) (hi : i < cnt t) (hck : ck t = 2) : (zw Z M)[pos t i]? = some (za Z t i, .inl (zc Z 1, nf t, .inl (M.1 t i))) := by
  rw [hL.1 M t i hS hi]
  simp only [cellE, hck]
theorem Lay.al (hL : Lay Z S) (hS : S t = true) (hi : i < cnt t) (hck : ck t = 3) : (zw Z M)[pos t i]? = some (za Z t i, .inl (zc Z 2, nf t, .inr (.inl (M.2 t i)))) := by
  rw [hL.1 M t i hS hi]
  simp only [cellE, hck]
theorem Lay.aq (hL : Lay Z S) (hS : S t = true) (hi : i < cnt t) (hck : ck t = 4) : (zw Z M)[pos t i]? = some (za Z t i, .inl (zc Z (cn t), nf t, .inr (.inr (.inr (.inr (fun j => some (za Z (et t) (ei t j)))))))) := by
  rw [hL.1 M t i hS hi]
  simp only [cellE, hck]
theorem g_iald (h : Ok Z X own cc ts nL rm) (hL : Lay Z S) (hS : S t = true) (hi : i < cnt t) (hck : ck t = 1) {n : Nat} (hn : nf t = n) {x : Int32} (hv : vp_in x n) (hdg : decode cc pc = .ok (.iaload, 1))
    (kk : G Z X M (pc + 1) lv (.int (M.1 t i x.toNatClampNeg) :: st)) : G Z X M pc lv (.int x :: .ref (za Z t i) :: st) := fun H locs ls hP hS' hl => va_iald h.1 h.2.1 h.2.2.2.2.2.2.1 hP (pos t i) 0 (hL.ai hS hi hck) rfl (hn ▸ hv) hdg (kk H locs ls hP hS' hl)
theorem g_zald (h : Ok Z X own cc ts nL rm) (hL : Lay Z S) (hS : S t = true) (hi : i < cnt t) (hck : ck t = 2) {n : Nat} (hn : nf t = n) {x : Int32} (hv : vp_in x n) (hdg : decode cc pc = .ok (.baload, 1))
    (kk : G Z X M (pc + 1) lv (.int (M.1 t i x.toNatClampNeg) :: st)) : G Z X M pc lv (.int x :: .ref (za Z t i) :: st) := fun H locs ls hP hS' hl => va_zald h.1 h.2.1 h.2.2.2.2.2.2.1 hP (pos t i) 1 (hL.az hS hi hck) rfl (hn ▸ hv) hdg (kk H locs ls hP hS' hl)
theorem g_lald (h : Ok Z X own cc ts nL rm) (hL : Lay Z S) (hS : S t = true) (hi : i < cnt t) (hck : ck t = 3) {n : Nat} (hn : nf t = n) {x : Int32} (hv : vp_in x n) (hdg : decode cc pc = .ok (.laload, 1))
    (kk : G Z X M (pc + 1) lv (.long (M.2 t i x.toNatClampNeg) :: st)) : G Z X M pc lv (.int x :: .ref (za Z t i) :: st) := fun H locs ls hP hS' hl => va_lald h.1 h.2.1 h.2.2.2.2.2.2.1 hP (pos t i) 2 (hL.al hS hi hck) rfl (hn ▸ hv) hdg (kk H locs ls hP hS' hl)
theorem g_aald (h : Ok Z X own cc ts nL rm) (hL : Lay Z S) (hS : S t = true) (hi : i < cnt t) (hck : ck t = 4) {n t' i' : Nat} (hn : nf t = n) {x : Int32} (hv : vp_in x n) {C : String} (hty : (ztys (zc Z))[cn t]? = some (zc Z (cn t), .object C)) (ht' : et t = t') (hi' : ei t x.toNatClampNeg = i') (hdg : decode cc pc = .ok (.aaload, 1))
    (kk : G Z X M (pc + 1) lv (.ref (za Z t' i') :: st)) : G Z X M pc lv (.int x :: .ref (za Z t i) :: st) := fun H locs ls hP hS' hl => by
  subst ht'
  subst hi'
  exact va_aldq h.1 h.2.1 h.2.2.2.2.2.2.1 hP (pos t i) (cn t) (hL.aq hS hi hck) hty (hn ▸ hv) hdg (kk H locs ls hP hS' hl)
theorem g_iast (h : Ok Z X own cc ts nL rm) (hL : Lay Z S) (hS : S t = true) (hi : i < cnt t) (hck : ck t = 1) {n : Nat} (hn : nf t = n) {x v : Int32} (hv : vp_in x n) (hdg : decode cc pc = .ok (.iastore, 1))
    (kk : G Z X (sI M t i x.toNatClampNeg v) (pc + 1) lv st) : G Z X M pc lv (.int v :: .int x :: .ref (za Z t i) :: st) := fun H locs ls hP hS' hl => by
  refine va_iast h.1 h.2.1 h.2.2.2.2.2.2.1 hP (h.2.2.2.2.2.2.2.1 M) hS' (pos t i) 0 (hL.ai hS hi hck) rfl (hn ▸ hv) hdg (fun H1 locs1 hP1 hD1 hS1 => kk H1 locs1 ls ?_ hS1 hl)
  have e := hL.2.1 M (sI M t i x.toNatClampNeg v) t i hS hi (fun a b hne => (cellE_eq (sI_ne hne) rfl).symm)
  have e2 : cellE (za Z) (zc Z) t i (sI M t i x.toNatClampNeg v) = .inl (zc Z 0, nf t, .inl (upd (M.1 t i) x.toNatClampNeg v)) := by
    simp only [cellE, hck, sI_at]
  rw [e2] at e
  rw [← e]
  exact hP1
theorem g_zast (h : Ok Z X own cc ts nL rm) (hL : Lay Z S) (hS : S t = true) (hi : i < cnt t) (hck : ck t = 2) {n : Nat} (hn : nf t = n) {x v : Int32} (hv : vp_in x n) (hdg : decode cc pc = .ok (.bastore, 1))
    (kk : G Z X (sI M t i x.toNatClampNeg (vp_nar .boolean v)) (pc + 1) lv st) : G Z X M pc lv (.int v :: .int x :: .ref (za Z t i) :: st) := fun H locs ls hP hS' hl => by
  refine va_zast h.1 h.2.1 h.2.2.2.2.2.2.1 hP (h.2.2.2.2.2.2.2.1 M) hS' (pos t i) 1 (hL.az hS hi hck) rfl (hn ▸ hv) hdg (fun H1 locs1 hP1 hD1 hS1 => kk H1 locs1 ls ?_ hS1 hl)
  have e := hL.2.1 M (sI M t i x.toNatClampNeg (vp_nar .boolean v)) t i hS hi (fun a b hne => (cellE_eq (sI_ne hne) rfl).symm)
  have e2 : cellE (za Z) (zc Z) t i (sI M t i x.toNatClampNeg (vp_nar .boolean v)) = .inl (zc Z 1, nf t, .inl (upd (M.1 t i) x.toNatClampNeg (vp_nar .boolean v))) := by
    simp only [cellE, hck, sI_at]
  rw [e2] at e
  rw [← e]
  exact hP1
theorem g_last (h : Ok Z X own cc ts nL rm) (hL : Lay Z S) (hS : S t = true) (hi : i < cnt t) (hck : ck t = 3) {n : Nat} (hn : nf t = n) {x : Int32} {v : Int64} (hv : vp_in x n) (hdg : decode cc pc = .ok (.lastore, 1))
    (kk : G Z X (sL M t i x.toNatClampNeg v) (pc + 1) lv st) : G Z X M pc lv (.long v :: .int x :: .ref (za Z t i) :: st) := fun H locs ls hP hS' hl => by
  refine va_last h.1 h.2.1 h.2.2.2.2.2.2.1 hP (h.2.2.2.2.2.2.2.1 M) hS' (pos t i) 2 (hL.al hS hi hck) rfl (hn ▸ hv) hdg (fun H1 locs1 hP1 hD1 hS1 => kk H1 locs1 ls ?_ hS1 hl)
  have e := hL.2.1 M (sL M t i x.toNatClampNeg v) t i hS hi (fun a b hne => (cellE_eq (M := sL M t i x.toNatClampNeg v) (M' := M) rfl (sL_ne hne)).symm)
  have e2 : cellE (za Z) (zc Z) t i (sL M t i x.toNatClampNeg v) = .inl (zc Z 2, nf t, .inr (.inl (vp_updL (M.2 t i) x.toNatClampNeg v))) := by
    simp only [cellE, hck, sL_at]
  rw [e2] at e
  rw [← e]
  exact hP1
end GM
