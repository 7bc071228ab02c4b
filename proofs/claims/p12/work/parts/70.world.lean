/-! One world for class and reference; memories side by side. -/
def tg (p : Nat) : Nat := if p < 19 then p else if p < 219 then 19 + (p - 19) % 4 else 30 + (p - 219)
def nmb (p : Nat) : Nat := if p < 19 then 0 else if p < 219 then (p - 19) / 4 else 0
def zwL (a : Nat → Nat → Nat) (c : Nat → ClassId) (M : Mm) : va_W := (List.range 244).map (fun p => (a (tg p) (nmb p), cellE a c (tg p) (nmb p) M))
def mg (Mc Mr : Mm) : Mm := (fun t i k => if t < 30 then Mc.1 t i k else Mr.1 t i k, fun t i k => if t < 30 then Mc.2 t i k else Mr.2 t i k)
def Zc (l : Launch) (D : va_G) (a : Nat → Nat → Nat) (c : Nat → ClassId) (Mr : Mm) : ZT := (l, D, fun Mc => zwL a c (mg Mc Mr), a, c)
def Zd (l : Launch) (D : va_G) (a : Nat → Nat → Nat) (c : Nat → ClassId) (Mc : Mm) : ZT := (l, D, fun Mr => zwL a c (mg Mc Mr), a, c)
theorem tg_pos : ∀ t, t < 55 → ∀ i, i < cnt t → tg (pos t i) = t ∧ nmb (pos t i) = i ∧ pos t i < 244 := by decide +kernel
theorem pos_tg : ∀ p, p < 244 → pos (tg p) (nmb p) = p := by decide +kernel
section WL
variable {l : Launch} {D : va_G} {a : Nat → Nat → Nat} {c : Nat → ClassId} {M Mc Mr : Mm} {p t i : Nat}
theorem zwL_at (h : p < 244) : (zwL a c M)[p]? = some (a (tg p) (nmb p), cellE a c (tg p) (nmb p) M) := by
  unfold zwL
  rw [List.getElem?_map, List.getElem?_range h]
  rfl
theorem zwL_len : (zwL a c M).length = 244 := by
  unfold zwL
  rw [List.length_map, List.length_range]
theorem zwL_fst (M M' : Mm) : (zwL a c M).map Prod.fst = (zwL a c M').map Prod.fst := by
  unfold zwL
  rw [List.map_map, List.map_map]
  rfl
theorem mg_c (h : t < 30) : cellE a c t i (mg Mc Mr) = cellE a c t i Mc := cellE_eq (by funext k; exact if_pos h) (by funext k; exact if_pos h)
theorem mg_d (h : ¬ t < 30) : cellE a c t i (mg Mc Mr) = cellE a c t i Mr := cellE_eq (by funext k; exact if_neg h) (by funext k; exact if_neg h)
theorem lay_c : Lay (Zc l D a c Mr) sC := by
  refine ⟨fun M t i hS hi => ?_, fun M M' t i hS hi hoth => ?_, fun M M' => zwL_fst _ _⟩
  · have ht : t < 30 := Nat.le_of_ble_eq_true hS
    obtain ⟨h1, h2, h3⟩ := tg_pos t (by omega) i hi
    show (zwL a c (mg M Mr))[pos t i]? = some (a t i, cellE a c t i M)
    rw [zwL_at h3, h1, h2, mg_c ht]
  · have ht : t < 30 := Nat.le_of_ble_eq_true hS
    obtain ⟨h1, h2, h3⟩ := tg_pos t (by omega) i hi
    show List.set (zwL a c (mg M Mr)) (pos t i) (a t i, cellE a c t i M') = zwL a c (mg M' Mr)
    apply List.ext_getElem?
    intro p
    by_cases hp : p < 244
    · by_cases he : p = pos t i
      · subst he
        rw [List.getElem?_set_self (by rw [zwL_len]; exact h3), zwL_at h3, h1, h2, mg_c ht]
      · rw [List.getElem?_set_ne (fun q => he q.symm), zwL_at hp, zwL_at hp]
        have e : cellE a c (tg p) (nmb p) (mg M Mr) = cellE a c (tg p) (nmb p) (mg M' Mr) := by
          by_cases hq : tg p < 30
          · rw [mg_c hq, mg_c hq]
            exact hoth _ _ (fun q => he (by rw [← pos_tg p hp, q.1, q.2]))
          · rw [mg_d hq, mg_d hq]
        rw [e]
    · rw [List.getElem?_eq_none (by rw [List.length_set, zwL_len]; omega), List.getElem?_eq_none (by rw [zwL_len]; omega)]
theorem lay_d : Lay (Zd l D a c Mc) sD := by
  refine ⟨fun M t i hS hi => ?_, fun M M' t i hS hi hoth => ?_, fun M M' => zwL_fst _ _⟩
  · have hS' := Bool.and_eq_true_iff.mp hS
    have ht : ¬ t < 30 := Nat.not_lt.mpr (Nat.le_of_ble_eq_true hS'.1)
    have ht2 : t < 55 := Nat.le_of_ble_eq_true hS'.2
    obtain ⟨h1, h2, h3⟩ := tg_pos t ht2 i hi
    show (zwL a c (mg Mc M))[pos t i]? = some (a t i, cellE a c t i M)
    rw [zwL_at h3, h1, h2, mg_d ht]
  · have hS' := Bool.and_eq_true_iff.mp hS
    have ht : ¬ t < 30 := Nat.not_lt.mpr (Nat.le_of_ble_eq_true hS'.1)
    have ht2 : t < 55 := Nat.le_of_ble_eq_true hS'.2
    obtain ⟨h1, h2, h3⟩ := tg_pos t ht2 i hi
    show List.set (zwL a c (mg Mc M)) (pos t i) (a t i, cellE a c t i M') = zwL a c (mg Mc M')
    apply List.ext_getElem?
    intro p
    by_cases hp : p < 244
    · by_cases he : p = pos t i
      · subst he
        rw [List.getElem?_set_self (by rw [zwL_len]; exact h3), zwL_at h3, h1, h2, mg_d ht]
      · rw [List.getElem?_set_ne (fun q => he q.symm), zwL_at hp, zwL_at hp]
        have e : cellE a c (tg p) (nmb p) (mg Mc M) = cellE a c (tg p) (nmb p) (mg Mc M') := by
          by_cases hq : tg p < 30
          · rw [mg_c hq, mg_c hq]
          · rw [mg_d hq, mg_d hq]
            exact hoth _ _ (fun q => he (by rw [← pos_tg p hp, q.1, q.2]))
        rw [e]
    · rw [List.getElem?_eq_none (by rw [List.length_set, zwL_len]; omega), List.getElem?_eq_none (by rw [zwL_len]; omega)]
end WL
theorem g_VL {c' : Cond} {own C : String} {idx : Nat} {y : MethodName} (h1 : Cond.methodLink own idx y ∈ AW) (h2 : Cond.instanceMethod y ∈ AW) (h3 : Cond.selects C y y ∈ AW) (h4 : Cond.initialized C ∈ AW) (h : c' ∈ AW) : GoodIn lw_tbl (wsV own idx C y (c' :: AW)) := by
  intro w hw
  rcases List.mem_append.mp hw with q | q
  · simp only [List.mem_cons, List.not_mem_nil, or_false] at q
    rcases q with rfl | rfl | rfl | rfl
    · exact ⟨AW_tbl h1, AW_good h1⟩
    · exact ⟨AW_tbl h2, AW_good h2⟩
    · exact ⟨AW_tbl h3, AW_good h3⟩
    · exact ⟨AW_tbl h4, AW_good h4⟩
  · rcases List.mem_cons.mp q with rfl | q
    · exact ⟨AW_tbl h, AW_good h⟩
    · exact ⟨AW_tbl q, AW_good q⟩
theorem g_CL {c' : Cond} (h : c' ∈ AW) : GoodIn lw_tbl (c' :: AW) := fun w hw => (List.mem_cons.mp hw).elim (fun e => e ▸ ⟨AW_tbl h, AW_good h⟩) (fun q => ⟨AW_tbl q, AW_good q⟩)
/-! The law's script. -/
section GL
variable {Z : ZT} {X : XT} {M : Mm} {pc : Nat} {lv lv' : List (Nat × Value)} {st rest : List Value} {own : String} {cc : ByteArray} {ts : List Cond} {nL : Nat} {rm : Room} {b L : Nat} {sc : Nat → Int32}
theorem g_sld (h : Ok Z X own cc ts nL rm) (hX : va_X b L sc (xs X) (xs X).heap) (hbl : b < (xs X).heap.size) (hbA : ¬ xA X b) {i : Int32} (hin : vp_in i L) (hdg : decode cc pc = .ok (.iaload, 1)) (kk : G Z X M (pc + 1) lv (.int (sc i.toNatClampNeg) :: st)) : G Z X M pc lv (.int i :: .ref b :: st) := fun H locs ls hP hS hl => va_sld h.1 h.2.1 hX hbl hbA hS hin hdg (kk H locs ls hP hS hl)
theorem g_slen (h : Ok Z X own cc ts nL rm) (hX : va_X b L sc (xs X) (xs X).heap) (hbl : b < (xs X).heap.size) (hbA : ¬ xA X b) (hdg : decode cc pc = .ok (.arraylength, 1)) (kk : G Z X M (pc + 1) lv (.int (nI L) :: st)) : G Z X M pc lv (.ref b :: st) := fun H locs ls hP hS hl => va_slen h.1 h.2.1 hX hbl hbA hS hdg (kk H locs ls hP hS hl)
end GL
