/-! Pure rows: the functions' combinators, reads of memories, small numbers. -/
theorem bnd_ok {α : Type} {i : Int32} {n : Nat} {a : Option α} (h : vp_in i n) : bnd i n a = a := if_neg h
theorem bnd_nI {α : Type} {j n : Nat} {a : Option α} (h : j < n) (hn : n < 2 ^ 31) : bnd (nI j) n a = a := bnd_ok (vp_in_nI h hn)
theorem bd_some {α β : Type} {x : α} {y : Mm} {f : α → Mm → Option β} : bd (some (x, y)) f = f x y := rfl
theorem bv_some {β : Type} {y : Mm} {f : Mm → Option β} : bv (some y) f = f y := rfl
theorem bd_ret {α : Type} {o : Option (α × Mm)} : bd o (fun r m => some (r, m)) = o := by
  cases o <;> rfl
theorem bv_ret {o : Option Mm} : bv o (fun m => some m) = o := by
  cases o <;> rfl
theorem lt_v {α β : Type} {a : α} {f : α → β} : lt a f = f a := rfl
theorem bnz_ok {α : Type} {v : Int32} {a : Option α} (h : zo v) : bnz v a = a := if_pos h
theorem sI1 {M : Mm} {t i k a b c : Nat} {v : Int32} : (sI M t i k v).1 a b c = if a = t ∧ b = i ∧ c = k then v else M.1 a b c := rfl
theorem sI2 {M : Mm} {t i k : Nat} {v : Int32} : (sI M t i k v).2 = M.2 := rfl
theorem sL1 {M : Mm} {t i k : Nat} {v : Int64} : (sL M t i k v).1 = M.1 := rfl
theorem sL2 {M : Mm} {t i k a b c : Nat} {v : Int64} : (sL M t i k v).2 a b c = if a = t ∧ b = i ∧ c = k then v else M.2 a b c := rfl
theorem sA1 {M : Mm} {t i a b c : Nat} {f : Nat → Int32} : (sA M t i f).1 a b c = if a = t ∧ b = i then f c else M.1 a b c := rfl
theorem sA2 {M : Mm} {t i : Nat} {f : Nat → Int32} : (sA M t i f).2 = M.2 := rfl
theorem sB1 {M : Mm} {t i : Nat} {f : Nat → Int64} : (sB M t i f).1 = M.1 := rfl
theorem sB2 {M : Mm} {t i a b c : Nat} {f : Nat → Int64} : (sB M t i f).2 a b c = if a = t ∧ b = i then f c else M.2 a b c := rfl
theorem nI_lit0 : (0 : Int32) = nI 0 := rfl
theorem nar0 : vp_nar .boolean 0 = 0 := by decide +kernel
theorem nar1 : vp_nar .boolean 1 = 1 := by decide +kernel
theorem nar_zo {v : Int32} (h : zo v) : vp_nar .boolean v = v := by
  rcases h with rfl | rfl
  · exact nar0
  · exact nar1
theorem fuel_pos {n : Nat} (h : n ≤ 99999) : n < fuel := by
  show n < 100000
  omega
/-- a number of the memory is a small one -/
def sm (v : Int32) (n : Nat) : Prop := ∃ j : Nat, j ≤ n ∧ v = nI j
theorem nI_le0 {j : Nat} (h : j < 2 ^ 31) : nI j ≤ 0 ↔ j = 0 := by
  rw [← nI_0, nI_leI h (by decide)]
  omega
theorem nI_lt0 {j : Nat} (h : j < 2 ^ 31) : nI j < 0 ↔ False := iff_false_intro (nI_pos h)
theorem nI_ge0 {j : Nat} (h : j < 2 ^ 31) : 0 ≤ nI j ↔ True := iff_true_intro (nI_pos' h)
theorem nI_eqz {j : Nat} (h : j < 2 ^ 31) : nI j = 0 ↔ j = 0 := by
  rw [← nI_0, nI_eq h (by decide)]
