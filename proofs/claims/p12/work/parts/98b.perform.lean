/-! What FORM gives of the operands; an INSTRUCTION is done. -/
def FO (P : MT) (o : Nat) (a b : Int32) : Prop := (o = 1 → tok a) ∧ (o = 2 ∨ o = 3 ∨ o = 16 ∨ o = 30 → ∃ j, j < pL P ∧ a = nI j) ∧ (o = 9 ∨ o = 10 ∨ o = 11 ∨ o = 24 ∨ o = 25 → tok a) ∧ (o = 10 ∨ o = 22 ∨ o = 23 ∨ o = 24 → tok b) ∧ (o = 12 ∨ o = 13 ∨ o = 14 ∨ o = 15 ∨ o = 17 → ∃ j, j < pm P ∧ b = nI j) ∧ (o = 17 → ∃ j, j < pm P ∧ a = nI j) ∧ (o = 20 ∨ o = 21 ∨ o = 22 ∨ o = 23 → ∃ j, j < 10 ∧ a = nI j) ∧ (o = 26 → tok (a + 64)) ∧ (o = 27 ∨ o = 28 → tok a ∧ tok (el a))
theorem in_sm {v : Int32} {lo hi : Nat} {M : Mm} (hh : hi < 2 ^ 31) (hl : lo < 2 ^ 31) (h : ¬ P_D_in v (nI lo) (nI hi) M = 0) : ∃ j, lo ≤ j ∧ j ≤ hi ∧ v = nI j := by
  rw [inD] at h
  by_cases c1 : v < nI lo
  · rw [if_pos c1] at h
    exact absurd rfl h
  · rw [if_neg c1] at h
    by_cases c2 : nI hi < v
    · rw [if_pos c2] at h
      exact absurd rfl h
    · have c0 : ¬ v < 0 := fun q => c1 (by
        rw [Int32.lt_iff_toInt_lt] at q ⊢
        rw [nI_toInt hl]
        rw [show (0 : Int32).toInt = 0 by decide] at q
        omega)
      obtain ⟨j, hj, rfl⟩ := nI_of c0
      rw [nI_ltI hj hl] at c1
      rw [nI_ltI hh hj] at c2
      exact ⟨j, by omega, by omega, rfl⟩
theorem if_ne {p : Prop} [Decidable p] {x : Int32} (h : ¬ (if p then (0 : Int32) else x) = 0) : ¬ p ∧ ¬ x = 0 := by
  by_cases c : p
  · rw [if_pos c] at h
    exact absurd rfl h
  · rw [if_neg c] at h
    exact ⟨c, h⟩
theorem gl_ne {m : Nat} {v x : Int32} {M : Mm} (hx : x = nI m) (hm : m ≤ 100) (h : ¬ P_D_in v 0 (x - 1) M = 0) : ∃ j, j < m ∧ v = nI j := by
  rw [e_inN hx hm] at h
  cases q : gl m v
  · rw [q] at h
    exact absurd rfl h
  · obtain ⟨j, j1, j2, j3⟩ := gl_sm q
    exact ⟨j, j1, j3⟩
theorem g_1 {a b : Int32} {M : Mm} : P_D_isFormed (nI 1) a b M = P_D_in a 1 5 M := by
  unfold P_D_isFormed
  simp only [lt_v]
  rw [if_pos (show nI 1 = 1 by decide)]
theorem g_2 {a b : Int32} {M : Mm} : P_D_isFormed (nI 2) a b M = P_D_in a 0 ((M.1 30 0 15) - 1) M := by
  unfold P_D_isFormed
  simp only [lt_v]
  rw [if_neg (show ¬ nI 2 = 1 by decide), if_pos (show nI 2 = 2 by decide)]
theorem g_3 {a b : Int32} {M : Mm} : P_D_isFormed (nI 3) a b M = P_D_in a 0 ((M.1 30 0 15) - 1) M := by
  unfold P_D_isFormed
  simp only [lt_v]
  rw [if_neg (show ¬ nI 3 = 1 by decide), if_neg (show ¬ nI 3 = 2 by decide), if_pos (show nI 3 = 3 by decide)]
theorem g_9 {a b : Int32} {M : Mm} : P_D_isFormed (nI 9) a b M = P_D_in a 1 4 M := by
  unfold P_D_isFormed
  simp only [lt_v]
  rw [if_neg (show ¬ nI 9 = 1 by decide), if_neg (show ¬ nI 9 = 2 by decide), if_neg (show ¬ nI 9 = 3 by decide), if_neg (show ¬ nI 9 = 4 by decide), if_neg (show ¬ nI 9 = 5 by decide), if_neg (show ¬ nI 9 = 6 by decide), if_neg (show ¬ nI 9 = 7 by decide), if_neg (show ¬ nI 9 = 8 by decide), if_pos (show nI 9 = 9 by decide)]
theorem g_10 {a b : Int32} {M : Mm} : P_D_isFormed (nI 10) a b M = (if P_D_in a 1 4 M = 0 then (0 : Int32) else (if P_D_in b 1 4 M = 0 then 0 else 1)) := by
  unfold P_D_isFormed
  simp only [lt_v]
  rw [if_neg (show ¬ nI 10 = 1 by decide), if_neg (show ¬ nI 10 = 2 by decide), if_neg (show ¬ nI 10 = 3 by decide), if_neg (show ¬ nI 10 = 4 by decide), if_neg (show ¬ nI 10 = 5 by decide), if_neg (show ¬ nI 10 = 6 by decide), if_neg (show ¬ nI 10 = 7 by decide), if_neg (show ¬ nI 10 = 8 by decide), if_neg (show ¬ nI 10 = 9 by decide), if_pos (show nI 10 = 10 by decide)]
theorem g_11 {a b : Int32} {M : Mm} : P_D_isFormed (nI 11) a b M = P_D_in a 2 4 M := by
  unfold P_D_isFormed
  simp only [lt_v]
  rw [if_neg (show ¬ nI 11 = 1 by decide), if_neg (show ¬ nI 11 = 2 by decide), if_neg (show ¬ nI 11 = 3 by decide), if_neg (show ¬ nI 11 = 4 by decide), if_neg (show ¬ nI 11 = 5 by decide), if_neg (show ¬ nI 11 = 6 by decide), if_neg (show ¬ nI 11 = 7 by decide), if_neg (show ¬ nI 11 = 8 by decide), if_neg (show ¬ nI 11 = 9 by decide), if_neg (show ¬ nI 11 = 10 by decide), if_pos (show nI 11 = 11 by decide)]
theorem g_12 {a b : Int32} {M : Mm} : P_D_isFormed (nI 12) a b M = P_D_isGoal b M := by
  unfold P_D_isFormed
  simp only [lt_v]
  rw [if_neg (show ¬ nI 12 = 1 by decide), if_neg (show ¬ nI 12 = 2 by decide), if_neg (show ¬ nI 12 = 3 by decide), if_neg (show ¬ nI 12 = 4 by decide), if_neg (show ¬ nI 12 = 5 by decide), if_neg (show ¬ nI 12 = 6 by decide), if_neg (show ¬ nI 12 = 7 by decide), if_neg (show ¬ nI 12 = 8 by decide), if_neg (show ¬ nI 12 = 9 by decide), if_neg (show ¬ nI 12 = 10 by decide), if_neg (show ¬ nI 12 = 11 by decide), if_pos (show nI 12 = 12 by decide)]
theorem g_13 {a b : Int32} {M : Mm} : P_D_isFormed (nI 13) a b M = P_D_isGoal b M := by
  unfold P_D_isFormed
  simp only [lt_v]
  rw [if_neg (show ¬ nI 13 = 1 by decide), if_neg (show ¬ nI 13 = 2 by decide), if_neg (show ¬ nI 13 = 3 by decide), if_neg (show ¬ nI 13 = 4 by decide), if_neg (show ¬ nI 13 = 5 by decide), if_neg (show ¬ nI 13 = 6 by decide), if_neg (show ¬ nI 13 = 7 by decide), if_neg (show ¬ nI 13 = 8 by decide), if_neg (show ¬ nI 13 = 9 by decide), if_neg (show ¬ nI 13 = 10 by decide), if_neg (show ¬ nI 13 = 11 by decide), if_neg (show ¬ nI 13 = 12 by decide), if_pos (show nI 13 = 13 by decide)]
theorem g_14 {a b : Int32} {M : Mm} : P_D_isFormed (nI 14) a b M = P_D_isGoal b M := by
  unfold P_D_isFormed
  simp only [lt_v]
  rw [if_neg (show ¬ nI 14 = 1 by decide), if_neg (show ¬ nI 14 = 2 by decide), if_neg (show ¬ nI 14 = 3 by decide), if_neg (show ¬ nI 14 = 4 by decide), if_neg (show ¬ nI 14 = 5 by decide), if_neg (show ¬ nI 14 = 6 by decide), if_neg (show ¬ nI 14 = 7 by decide), if_neg (show ¬ nI 14 = 8 by decide), if_neg (show ¬ nI 14 = 9 by decide), if_neg (show ¬ nI 14 = 10 by decide), if_neg (show ¬ nI 14 = 11 by decide), if_neg (show ¬ nI 14 = 12 by decide), if_neg (show ¬ nI 14 = 13 by decide), if_pos (show nI 14 = 14 by decide)]
theorem g_15 {a b : Int32} {M : Mm} : P_D_isFormed (nI 15) a b M = P_D_isGoal b M := by
  unfold P_D_isFormed
  simp only [lt_v]
  rw [if_neg (show ¬ nI 15 = 1 by decide), if_neg (show ¬ nI 15 = 2 by decide), if_neg (show ¬ nI 15 = 3 by decide), if_neg (show ¬ nI 15 = 4 by decide), if_neg (show ¬ nI 15 = 5 by decide), if_neg (show ¬ nI 15 = 6 by decide), if_neg (show ¬ nI 15 = 7 by decide), if_neg (show ¬ nI 15 = 8 by decide), if_neg (show ¬ nI 15 = 9 by decide), if_neg (show ¬ nI 15 = 10 by decide), if_neg (show ¬ nI 15 = 11 by decide), if_neg (show ¬ nI 15 = 12 by decide), if_neg (show ¬ nI 15 = 13 by decide), if_neg (show ¬ nI 15 = 14 by decide), if_pos (show nI 15 = 15 by decide)]
theorem g_16 {a b : Int32} {M : Mm} : P_D_isFormed (nI 16) a b M = P_D_in a 0 ((M.1 30 0 15) - 1) M := by
  unfold P_D_isFormed
  simp only [lt_v]
  rw [if_neg (show ¬ nI 16 = 1 by decide), if_neg (show ¬ nI 16 = 2 by decide), if_neg (show ¬ nI 16 = 3 by decide), if_neg (show ¬ nI 16 = 4 by decide), if_neg (show ¬ nI 16 = 5 by decide), if_neg (show ¬ nI 16 = 6 by decide), if_neg (show ¬ nI 16 = 7 by decide), if_neg (show ¬ nI 16 = 8 by decide), if_neg (show ¬ nI 16 = 9 by decide), if_neg (show ¬ nI 16 = 10 by decide), if_neg (show ¬ nI 16 = 11 by decide), if_neg (show ¬ nI 16 = 12 by decide), if_neg (show ¬ nI 16 = 13 by decide), if_neg (show ¬ nI 16 = 14 by decide), if_neg (show ¬ nI 16 = 15 by decide), if_pos (show nI 16 = 16 by decide)]
theorem g_17 {a b : Int32} {M : Mm} : P_D_isFormed (nI 17) a b M = (if P_D_isGoal a M = 0 then (0 : Int32) else (if P_D_isGoal b M = 0 then 0 else 1)) := by
  unfold P_D_isFormed
  simp only [lt_v]
  rw [if_neg (show ¬ nI 17 = 1 by decide), if_neg (show ¬ nI 17 = 2 by decide), if_neg (show ¬ nI 17 = 3 by decide), if_neg (show ¬ nI 17 = 4 by decide), if_neg (show ¬ nI 17 = 5 by decide), if_neg (show ¬ nI 17 = 6 by decide), if_neg (show ¬ nI 17 = 7 by decide), if_neg (show ¬ nI 17 = 8 by decide), if_neg (show ¬ nI 17 = 9 by decide), if_neg (show ¬ nI 17 = 10 by decide), if_neg (show ¬ nI 17 = 11 by decide), if_neg (show ¬ nI 17 = 12 by decide), if_neg (show ¬ nI 17 = 13 by decide), if_neg (show ¬ nI 17 = 14 by decide), if_neg (show ¬ nI 17 = 15 by decide), if_neg (show ¬ nI 17 = 16 by decide), if_pos (show nI 17 = 17 by decide)]
theorem g_20 {a b : Int32} {M : Mm} : P_D_isFormed (nI 20) a b M = P_D_in a 0 ((M.1 30 0 2) - 1) M := by
  unfold P_D_isFormed
  simp only [lt_v]
  rw [if_neg (show ¬ nI 20 = 1 by decide), if_neg (show ¬ nI 20 = 2 by decide), if_neg (show ¬ nI 20 = 3 by decide), if_neg (show ¬ nI 20 = 4 by decide), if_neg (show ¬ nI 20 = 5 by decide), if_neg (show ¬ nI 20 = 6 by decide), if_neg (show ¬ nI 20 = 7 by decide), if_neg (show ¬ nI 20 = 8 by decide), if_neg (show ¬ nI 20 = 9 by decide), if_neg (show ¬ nI 20 = 10 by decide), if_neg (show ¬ nI 20 = 11 by decide), if_neg (show ¬ nI 20 = 12 by decide), if_neg (show ¬ nI 20 = 13 by decide), if_neg (show ¬ nI 20 = 14 by decide), if_neg (show ¬ nI 20 = 15 by decide), if_neg (show ¬ nI 20 = 16 by decide), if_neg (show ¬ nI 20 = 17 by decide), if_neg (show ¬ nI 20 = 18 by decide), if_neg (show ¬ nI 20 = 19 by decide), if_pos (show nI 20 = 20 by decide)]
theorem g_21 {a b : Int32} {M : Mm} : P_D_isFormed (nI 21) a b M = P_D_in a 0 ((M.1 30 0 2) - 1) M := by
  unfold P_D_isFormed
  simp only [lt_v]
  rw [if_neg (show ¬ nI 21 = 1 by decide), if_neg (show ¬ nI 21 = 2 by decide), if_neg (show ¬ nI 21 = 3 by decide), if_neg (show ¬ nI 21 = 4 by decide), if_neg (show ¬ nI 21 = 5 by decide), if_neg (show ¬ nI 21 = 6 by decide), if_neg (show ¬ nI 21 = 7 by decide), if_neg (show ¬ nI 21 = 8 by decide), if_neg (show ¬ nI 21 = 9 by decide), if_neg (show ¬ nI 21 = 10 by decide), if_neg (show ¬ nI 21 = 11 by decide), if_neg (show ¬ nI 21 = 12 by decide), if_neg (show ¬ nI 21 = 13 by decide), if_neg (show ¬ nI 21 = 14 by decide), if_neg (show ¬ nI 21 = 15 by decide), if_neg (show ¬ nI 21 = 16 by decide), if_neg (show ¬ nI 21 = 17 by decide), if_neg (show ¬ nI 21 = 18 by decide), if_neg (show ¬ nI 21 = 19 by decide), if_neg (show ¬ nI 21 = 20 by decide), if_pos (show nI 21 = 21 by decide)]
theorem g_22 {a b : Int32} {M : Mm} : P_D_isFormed (nI 22) a b M = (if P_D_in a 0 ((M.1 30 0 2) - 1) M = 0 then (0 : Int32) else (if P_D_isPlain b M = 0 then 0 else 1)) := by
  unfold P_D_isFormed
  simp only [lt_v]
  rw [if_neg (show ¬ nI 22 = 1 by decide), if_neg (show ¬ nI 22 = 2 by decide), if_neg (show ¬ nI 22 = 3 by decide), if_neg (show ¬ nI 22 = 4 by decide), if_neg (show ¬ nI 22 = 5 by decide), if_neg (show ¬ nI 22 = 6 by decide), if_neg (show ¬ nI 22 = 7 by decide), if_neg (show ¬ nI 22 = 8 by decide), if_neg (show ¬ nI 22 = 9 by decide), if_neg (show ¬ nI 22 = 10 by decide), if_neg (show ¬ nI 22 = 11 by decide), if_neg (show ¬ nI 22 = 12 by decide), if_neg (show ¬ nI 22 = 13 by decide), if_neg (show ¬ nI 22 = 14 by decide), if_neg (show ¬ nI 22 = 15 by decide), if_neg (show ¬ nI 22 = 16 by decide), if_neg (show ¬ nI 22 = 17 by decide), if_neg (show ¬ nI 22 = 18 by decide), if_neg (show ¬ nI 22 = 19 by decide), if_neg (show ¬ nI 22 = 20 by decide), if_neg (show ¬ nI 22 = 21 by decide), if_pos (show nI 22 = 22 by decide)]
theorem g_23 {a b : Int32} {M : Mm} : P_D_isFormed (nI 23) a b M = (if P_D_in a 0 ((M.1 30 0 2) - 1) M = 0 then (0 : Int32) else (if P_D_isPlain b M = 0 then 0 else 1)) := by
  unfold P_D_isFormed
  simp only [lt_v]
  rw [if_neg (show ¬ nI 23 = 1 by decide), if_neg (show ¬ nI 23 = 2 by decide), if_neg (show ¬ nI 23 = 3 by decide), if_neg (show ¬ nI 23 = 4 by decide), if_neg (show ¬ nI 23 = 5 by decide), if_neg (show ¬ nI 23 = 6 by decide), if_neg (show ¬ nI 23 = 7 by decide), if_neg (show ¬ nI 23 = 8 by decide), if_neg (show ¬ nI 23 = 9 by decide), if_neg (show ¬ nI 23 = 10 by decide), if_neg (show ¬ nI 23 = 11 by decide), if_neg (show ¬ nI 23 = 12 by decide), if_neg (show ¬ nI 23 = 13 by decide), if_neg (show ¬ nI 23 = 14 by decide), if_neg (show ¬ nI 23 = 15 by decide), if_neg (show ¬ nI 23 = 16 by decide), if_neg (show ¬ nI 23 = 17 by decide), if_neg (show ¬ nI 23 = 18 by decide), if_neg (show ¬ nI 23 = 19 by decide), if_neg (show ¬ nI 23 = 20 by decide), if_neg (show ¬ nI 23 = 21 by decide), if_neg (show ¬ nI 23 = 22 by decide), if_pos (show nI 23 = 23 by decide)]
theorem g_24 {a b : Int32} {M : Mm} : P_D_isFormed (nI 24) a b M = (if P_D_isPlain a M = 0 then (0 : Int32) else (if P_D_isPlain b M = 0 then 0 else 1)) := by
  unfold P_D_isFormed
  simp only [lt_v]
  rw [if_neg (show ¬ nI 24 = 1 by decide), if_neg (show ¬ nI 24 = 2 by decide), if_neg (show ¬ nI 24 = 3 by decide), if_neg (show ¬ nI 24 = 4 by decide), if_neg (show ¬ nI 24 = 5 by decide), if_neg (show ¬ nI 24 = 6 by decide), if_neg (show ¬ nI 24 = 7 by decide), if_neg (show ¬ nI 24 = 8 by decide), if_neg (show ¬ nI 24 = 9 by decide), if_neg (show ¬ nI 24 = 10 by decide), if_neg (show ¬ nI 24 = 11 by decide), if_neg (show ¬ nI 24 = 12 by decide), if_neg (show ¬ nI 24 = 13 by decide), if_neg (show ¬ nI 24 = 14 by decide), if_neg (show ¬ nI 24 = 15 by decide), if_neg (show ¬ nI 24 = 16 by decide), if_neg (show ¬ nI 24 = 17 by decide), if_neg (show ¬ nI 24 = 18 by decide), if_neg (show ¬ nI 24 = 19 by decide), if_neg (show ¬ nI 24 = 20 by decide), if_neg (show ¬ nI 24 = 21 by decide), if_neg (show ¬ nI 24 = 22 by decide), if_neg (show ¬ nI 24 = 23 by decide), if_pos (show nI 24 = 24 by decide)]
theorem g_25 {a b : Int32} {M : Mm} : P_D_isFormed (nI 25) a b M = P_D_isRef a M := by
  unfold P_D_isFormed
  simp only [lt_v]
  rw [if_neg (show ¬ nI 25 = 1 by decide), if_neg (show ¬ nI 25 = 2 by decide), if_neg (show ¬ nI 25 = 3 by decide), if_neg (show ¬ nI 25 = 4 by decide), if_neg (show ¬ nI 25 = 5 by decide), if_neg (show ¬ nI 25 = 6 by decide), if_neg (show ¬ nI 25 = 7 by decide), if_neg (show ¬ nI 25 = 8 by decide), if_neg (show ¬ nI 25 = 9 by decide), if_neg (show ¬ nI 25 = 10 by decide), if_neg (show ¬ nI 25 = 11 by decide), if_neg (show ¬ nI 25 = 12 by decide), if_neg (show ¬ nI 25 = 13 by decide), if_neg (show ¬ nI 25 = 14 by decide), if_neg (show ¬ nI 25 = 15 by decide), if_neg (show ¬ nI 25 = 16 by decide), if_neg (show ¬ nI 25 = 17 by decide), if_neg (show ¬ nI 25 = 18 by decide), if_neg (show ¬ nI 25 = 19 by decide), if_neg (show ¬ nI 25 = 20 by decide), if_neg (show ¬ nI 25 = 21 by decide), if_neg (show ¬ nI 25 = 22 by decide), if_neg (show ¬ nI 25 = 23 by decide), if_neg (show ¬ nI 25 = 24 by decide), if_pos (show nI 25 = 25 by decide)]
theorem g_26 {a b : Int32} {M : Mm} : P_D_isFormed (nI 26) a b M = (if a = 12 then (1 : Int32) else (if P_D_isRef a M = 0 then 0 else (if 192 ≤ a then 0 else 1))) := by
  unfold P_D_isFormed
  simp only [lt_v]
  rw [if_neg (show ¬ nI 26 = 1 by decide), if_neg (show ¬ nI 26 = 2 by decide), if_neg (show ¬ nI 26 = 3 by decide), if_neg (show ¬ nI 26 = 4 by decide), if_neg (show ¬ nI 26 = 5 by decide), if_neg (show ¬ nI 26 = 6 by decide), if_neg (show ¬ nI 26 = 7 by decide), if_neg (show ¬ nI 26 = 8 by decide), if_neg (show ¬ nI 26 = 9 by decide), if_neg (show ¬ nI 26 = 10 by decide), if_neg (show ¬ nI 26 = 11 by decide), if_neg (show ¬ nI 26 = 12 by decide), if_neg (show ¬ nI 26 = 13 by decide), if_neg (show ¬ nI 26 = 14 by decide), if_neg (show ¬ nI 26 = 15 by decide), if_neg (show ¬ nI 26 = 16 by decide), if_neg (show ¬ nI 26 = 17 by decide), if_neg (show ¬ nI 26 = 18 by decide), if_neg (show ¬ nI 26 = 19 by decide), if_neg (show ¬ nI 26 = 20 by decide), if_neg (show ¬ nI 26 = 21 by decide), if_neg (show ¬ nI 26 = 22 by decide), if_neg (show ¬ nI 26 = 23 by decide), if_neg (show ¬ nI 26 = 24 by decide), if_neg (show ¬ nI 26 = 25 by decide), if_pos (show nI 26 = 26 by decide)]
theorem g_27 {a b : Int32} {M : Mm} : P_D_isFormed (nI 27) a b M = (if P_D_isRef a M = 0 then (0 : Int32) else (if a < 64 then 0 else 1)) := by
  unfold P_D_isFormed
  simp only [lt_v]
  rw [if_neg (show ¬ nI 27 = 1 by decide), if_neg (show ¬ nI 27 = 2 by decide), if_neg (show ¬ nI 27 = 3 by decide), if_neg (show ¬ nI 27 = 4 by decide), if_neg (show ¬ nI 27 = 5 by decide), if_neg (show ¬ nI 27 = 6 by decide), if_neg (show ¬ nI 27 = 7 by decide), if_neg (show ¬ nI 27 = 8 by decide), if_neg (show ¬ nI 27 = 9 by decide), if_neg (show ¬ nI 27 = 10 by decide), if_neg (show ¬ nI 27 = 11 by decide), if_neg (show ¬ nI 27 = 12 by decide), if_neg (show ¬ nI 27 = 13 by decide), if_neg (show ¬ nI 27 = 14 by decide), if_neg (show ¬ nI 27 = 15 by decide), if_neg (show ¬ nI 27 = 16 by decide), if_neg (show ¬ nI 27 = 17 by decide), if_neg (show ¬ nI 27 = 18 by decide), if_neg (show ¬ nI 27 = 19 by decide), if_neg (show ¬ nI 27 = 20 by decide), if_neg (show ¬ nI 27 = 21 by decide), if_neg (show ¬ nI 27 = 22 by decide), if_neg (show ¬ nI 27 = 23 by decide), if_neg (show ¬ nI 27 = 24 by decide), if_neg (show ¬ nI 27 = 25 by decide), if_neg (show ¬ nI 27 = 26 by decide), if_pos (show nI 27 = 27 by decide)]
theorem g_28 {a b : Int32} {M : Mm} : P_D_isFormed (nI 28) a b M = (if P_D_isRef a M = 0 then (0 : Int32) else (if a < 64 then 0 else 1)) := by
  unfold P_D_isFormed
  simp only [lt_v]
  rw [if_neg (show ¬ nI 28 = 1 by decide), if_neg (show ¬ nI 28 = 2 by decide), if_neg (show ¬ nI 28 = 3 by decide), if_neg (show ¬ nI 28 = 4 by decide), if_neg (show ¬ nI 28 = 5 by decide), if_neg (show ¬ nI 28 = 6 by decide), if_neg (show ¬ nI 28 = 7 by decide), if_neg (show ¬ nI 28 = 8 by decide), if_neg (show ¬ nI 28 = 9 by decide), if_neg (show ¬ nI 28 = 10 by decide), if_neg (show ¬ nI 28 = 11 by decide), if_neg (show ¬ nI 28 = 12 by decide), if_neg (show ¬ nI 28 = 13 by decide), if_neg (show ¬ nI 28 = 14 by decide), if_neg (show ¬ nI 28 = 15 by decide), if_neg (show ¬ nI 28 = 16 by decide), if_neg (show ¬ nI 28 = 17 by decide), if_neg (show ¬ nI 28 = 18 by decide), if_neg (show ¬ nI 28 = 19 by decide), if_neg (show ¬ nI 28 = 20 by decide), if_neg (show ¬ nI 28 = 21 by decide), if_neg (show ¬ nI 28 = 22 by decide), if_neg (show ¬ nI 28 = 23 by decide), if_neg (show ¬ nI 28 = 24 by decide), if_neg (show ¬ nI 28 = 25 by decide), if_neg (show ¬ nI 28 = 26 by decide), if_neg (show ¬ nI 28 = 27 by decide), if_pos (show nI 28 = 28 by decide)]
theorem g_30 {a b : Int32} {M : Mm} : P_D_isFormed (nI 30) a b M = P_D_in a 0 ((M.1 30 0 15) - 1) M := by
  unfold P_D_isFormed
  simp only [lt_v]
  rw [if_neg (show ¬ nI 30 = 1 by decide), if_neg (show ¬ nI 30 = 2 by decide), if_neg (show ¬ nI 30 = 3 by decide), if_neg (show ¬ nI 30 = 4 by decide), if_neg (show ¬ nI 30 = 5 by decide), if_neg (show ¬ nI 30 = 6 by decide), if_neg (show ¬ nI 30 = 7 by decide), if_neg (show ¬ nI 30 = 8 by decide), if_neg (show ¬ nI 30 = 9 by decide), if_neg (show ¬ nI 30 = 10 by decide), if_neg (show ¬ nI 30 = 11 by decide), if_neg (show ¬ nI 30 = 12 by decide), if_neg (show ¬ nI 30 = 13 by decide), if_neg (show ¬ nI 30 = 14 by decide), if_neg (show ¬ nI 30 = 15 by decide), if_neg (show ¬ nI 30 = 16 by decide), if_neg (show ¬ nI 30 = 17 by decide), if_neg (show ¬ nI 30 = 18 by decide), if_neg (show ¬ nI 30 = 19 by decide), if_neg (show ¬ nI 30 = 20 by decide), if_neg (show ¬ nI 30 = 21 by decide), if_neg (show ¬ nI 30 = 22 by decide), if_neg (show ¬ nI 30 = 23 by decide), if_neg (show ¬ nI 30 = 24 by decide), if_neg (show ¬ nI 30 = 25 by decide), if_neg (show ¬ nI 30 = 26 by decide), if_neg (show ¬ nI 30 = 27 by decide), if_neg (show ¬ nI 30 = 28 by decide), if_neg (show ¬ nI 30 = 29 by decide), if_pos (show nI 30 = 30 by decide)]
theorem fm_fo {n : Nat} {sup : Nat → Nat} {fc : Nat → Int32} {P : MT} {Mr : Mm} {o : Nat} {a b : Int32} (hT : TOk n sup fc) (hR : TRe n sup fc Mr) (hO : MOk P) (hD : DMe P Mr) (h : ¬ P_D_isFormed (nI o) a b Mr = 0) : FO P o a b := by
  have hm := hO.1
  have hL := hO.2.2.2.1
  have hn := hT.2.1
  have G : ∀ v, ¬ P_D_isGoal v Mr = 0 → ∃ j, j < pm P ∧ v = nI j := fun v q => gl_ne (M := Mr) hD.1 (by omega) q
  have L : ∀ v, ¬ P_D_in v 0 ((Mr.1 30 0 15) - 1) Mr = 0 → ∃ j, j < pL P ∧ v = nI j := fun v q => gl_ne (M := Mr) hD.2.2.2.2.1 (by omega) q
  have C : ∀ v, ¬ P_D_in v 0 ((Mr.1 30 0 2) - 1) Mr = 0 → ∃ j, j < 10 ∧ v = nI j := fun v q => by
    obtain ⟨j, j1, j2⟩ := gl_ne (M := Mr) hR.1 (by omega) q
    exact ⟨j, by omega, j2⟩
  have N : ∀ v, ¬ P_D_in v 1 4 Mr = 0 → tok v := fun v q => by
    obtain ⟨j, j1, j2, j3⟩ := in_sm (lo := 1) (hi := 4) (by decide) (by decide) q
    rw [j3]
    exact tokN (by omega)
  have V : ∀ v, ¬ P_D_isPlain v Mr = 0 → tok v := fun v q => by
    rw [e_isPlainD hT hR] at q
    cases w : vl n v
    · rw [w] at q
      exact absurd rfl q
    · obtain ⟨j, j1, j2, j3⟩ := vl_sm w
      rw [j3]
      exact tokN j2
  have R : ∀ v, ¬ P_D_isRef v Mr = 0 → ∃ i, i < 256 ∧ v = nI i ∧ i / 64 ≤ 3 ∧ ((i % 64 = 12 ∧ 1 ≤ i / 64) ∨ (16 ≤ i % 64 ∧ i % 64 < 16 + n)) := fun v q => by
    rw [e_isRefD hT hR] at q
    cases w : rf n v
    · rw [w] at q
      exact absurd rfl q
    · exact rf_pos w
  have RW : ¬ P_D_isRef a Mr = 0 → ¬ (if a < 64 then (0 : Int32) else 1) = 0 → tok a ∧ tok (el a) := fun q1 q2 => by
    obtain ⟨i, i1, i2, i3, i4⟩ := R a q1
    have c := (if_ne q2).1
    rw [i2, show (64 : Int32) = nI 64 from rfl, nI_ltI (by omega) (by decide)] at c
    refine ⟨by rw [i2]; exact tokN i1, ?_⟩
    unfold el
    split
    · exact tokN (j := 1) (by omega)
    · rw [i2, show (64 : Int32) = nI 64 from rfl, pk_sub (by omega)]
      exact tokN (by omega)
  refine ⟨?_, ?_, ?_, ?_, ?_, ?_, ?_, ?_, ?_⟩
  · rintro rfl
    rw [g_1] at h
    obtain ⟨j, j1, j2, j3⟩ := in_sm (lo := 1) (hi := 5) (by decide) (by decide) h
    rw [j3]
    exact tokN (by omega)
  · rintro (rfl | rfl | rfl | rfl)
    · rw [g_2] at h
      exact L a h
    · rw [g_3] at h
      exact L a h
    · rw [g_16] at h
      exact L a h
    · rw [g_30] at h
      exact L a h
  · rintro (rfl | rfl | rfl | rfl | rfl)
    · rw [g_9] at h
      exact N a h
    · rw [g_10] at h
      exact N a (if_ne h).1
    · rw [g_11] at h
      obtain ⟨j, j1, j2, j3⟩ := in_sm (lo := 2) (hi := 4) (by decide) (by decide) h
      rw [j3]
      exact tokN (by omega)
    · rw [g_24] at h
      exact V a (if_ne h).1
    · rw [g_25] at h
      obtain ⟨i, i1, i2, i3⟩ := R a h
      rw [i2]
      exact tokN i1
  · rintro (rfl | rfl | rfl | rfl)
    · rw [g_10] at h
      exact N b (if_ne (if_ne h).2).1
    · rw [g_22] at h
      exact V b (if_ne (if_ne h).2).1
    · rw [g_23] at h
      exact V b (if_ne (if_ne h).2).1
    · rw [g_24] at h
      exact V b (if_ne (if_ne h).2).1
  · rintro (rfl | rfl | rfl | rfl | rfl)
    · rw [g_12] at h
      exact G b h
    · rw [g_13] at h
      exact G b h
    · rw [g_14] at h
      exact G b h
    · rw [g_15] at h
      exact G b h
    · rw [g_17] at h
      exact G b (if_ne (if_ne h).2).1
  · rintro rfl
    rw [g_17] at h
    exact G a (if_ne h).1
  · rintro (rfl | rfl | rfl | rfl)
    · rw [g_20] at h
      exact C a h
    · rw [g_21] at h
      exact C a h
    · rw [g_22] at h
      exact C a (if_ne h).1
    · rw [g_23] at h
      exact C a (if_ne h).1
  · rintro rfl
    rw [g_26] at h
    by_cases c : a = 12
    · rw [c]
      exact tokN (j := 76) (by omega)
    · rw [if_neg c] at h
      obtain ⟨g1, g2⟩ := if_ne h
      obtain ⟨g3, g4⟩ := if_ne g2
      obtain ⟨i, i1, i2, i3⟩ := R a g1
      rw [i2, show (192 : Int32) = nI 192 from rfl, nI_leI (by decide) (by omega)] at g3
      rw [i2, show (64 : Int32) = nI 64 from rfl, nI_add]
      exact tokN (by omega)
  · rintro (rfl | rfl)
    · rw [g_27] at h
      obtain ⟨g1, g2⟩ := if_ne h
      exact RW g1 g2
    · rw [g_28] at h
      obtain ⟨g1, g2⟩ := if_ne h
      exact RW g1 g2
/-- the reference's doing of an INSTRUCTION other than SUB and RET -/
def rfD (k : Nat) (o : Nat) (a b : Int32) (M : Mm) : Option (Int32 × Mm) := if o < 9 then F_D_moves (nI o) a M else if o < 20 then F_D_flows (nI o) a b M else F_D_objects (nI k) (nI o) a b M
/-- the class's doing, by the INSTRUCTION's number -/
def pfC (k : Nat) (o : Nat) (a b : Int32) (M : Mm) : Option (Int32 × Mm) :=
  if o = 1 ∨ o = 9 ∨ o = 10 ∨ o = 11 then F_W_calculate (nI o) a b M else if o = 2 then F_W_load a M else if o = 3 then F_W_store a M else if o = 4 ∨ o = 5 ∨ o = 6 ∨ o = 7 ∨ o = 8 then F_W_shuffle (nI o) M else if o = 12 ∨ o = 13 ∨ o = 17 ∨ o = 18 ∨ o = 19 then F_W_decide (nI o) M else if o = 15 then F_W_enterSub b M else if o = 16 then F_W_prepareReturn (nI k) a M else if o = 20 then F_W_create (nI k) M else if o = 21 then F_W_build a M else if o = 22 ∨ o = 23 ∨ o = 24 ∨ o = 25 then F_W_useObject (nI o) a b M else if o = 26 ∨ o = 27 ∨ o = 28 ∨ o = 29 then F_W_useRow (nI o) a M else if o = 30 then F_W_increase a M else some (0, M)
theorem cases30 {o : Nat} (h : o ≤ 30) : o = 0 ∨ o = 1 ∨ o = 2 ∨ o = 3 ∨ o = 4 ∨ o = 5 ∨ o = 6 ∨ o = 7 ∨ o = 8 ∨ o = 9 ∨ o = 10 ∨ o = 11 ∨ o = 12 ∨ o = 13 ∨ o = 14 ∨ o = 15 ∨ o = 16 ∨ o = 17 ∨ o = 18 ∨ o = 19 ∨ o = 20 ∨ o = 21 ∨ o = 22 ∨ o = 23 ∨ o = 24 ∨ o = 25 ∨ o = 26 ∨ o = 27 ∨ o = 28 ∨ o = 29 ∨ o = 30 := by omega
theorem q_pf {P : MT} {k o : Nat} {M : Mm} (hk : k < 48) (hP : CMe P M) (ho : o ≤ 30) (eo : P.2 0 k = nI o) : F_W_perform (nI k) M = pfC k o (P.2 1 k) (P.2 2 k) M := by
  obtain ⟨p1, p2, p3⟩ := hP.2.2.2.2.2.2.1 k hk
  unfold F_W_perform
  rw [bnd_nI hk (by decide), lt_v, bnd_nI hk (by decide), lt_v, bnd_nI hk (by decide), lt_v, nI_clamp (by omega), p1, p2, p3, eo]
  simp only [bd_ret]
  unfold pfC
  rcases cases30 ho with rfl | rfl | rfl | rfl | rfl | rfl | rfl | rfl | rfl | rfl | rfl | rfl | rfl | rfl | rfl | rfl | rfl | rfl | rfl | rfl | rfl | rfl | rfl | rfl | rfl | rfl | rfl | rfl | rfl | rfl | rfl <;> rfl
theorem pf_all {n : Nat} {sup : Nat → Nat} {fc : Nat → Int32} {P : MT} {f : Fr} {Mc Mr : Mm} {k o : Nat} {a b : Int32} (h : Cx n sup fc P f Mc Mr) (hk : k < 48) (ho : o ≤ 30) (fo : FO P o a b) (h15 : ¬ o = 15) (h16 : ¬ o = 16) : Ou P Mc Mr (pfC k o a b Mc) (rfD k o a b Mr) := by
  have hr : ¬ pr P = -1 := h.2.2.2.1.2.2.2.2.2.2.2
  obtain ⟨f1, f2, f3, f4, f5, f6, f7, f8, f9⟩ := fo
  have t16 : ∀ j, j < 10 → tok ((16 : Int32) + nI j) := fun j hj => by
    rw [show (16 : Int32) = nI 16 from rfl, nI_add]
    exact tokN (by omega)
  unfold pfC rfD
  rcases cases30 ho with rfl | rfl | rfl | rfl | rfl | rfl | rfl | rfl | rfl | rfl | rfl | rfl | rfl | rfl | rfl | rfl | rfl | rfl | rfl | rfl | rfl | rfl | rfl | rfl | rfl | rfl | rfl | rfl | rfl | rfl | rfl
  · exact ou_id h
  · exact op_push (b := b) h (f1 rfl)
  · obtain ⟨j, j1, j2⟩ := f2 (by omega)
    subst j2
    exact op_load h j1
  · obtain ⟨j, j1, j2⟩ := f2 (by omega)
    subst j2
    exact op_store h j1
  · exact op_shuffle (a := a) (o := 4) h (by omega)
  · exact op_shuffle (a := a) (o := 5) h (by omega)
  · exact op_shuffle (a := a) (o := 6) h (by omega)
  · exact op_shuffle (a := a) (o := 7) h (by omega)
  · exact op_shuffle (a := a) (o := 8) h (by omega)
  · exact op_math (o := 9) h (f3 (by omega)) (by omega)
  · exact op_change h (f3 (by omega)) (f4 (by omega))
  · exact op_math (o := 11) h (f3 (by omega)) (by omega)
  · exact op_decide (a := a) (b := b) (o := 12) h hr (by omega)
  · exact op_decide (a := a) (b := b) (o := 13) h hr (by omega)
  · exact ou_id h
  · exact absurd rfl h15
  · exact absurd rfl h16
  · exact op_decide (a := a) (b := b) (o := 17) h hr (by omega)
  · exact op_decide (a := a) (b := b) (o := 18) h hr (by omega)
  · exact op_decide (a := a) (b := b) (o := 19) h hr (by omega)
  · exact op_new h hk
  · obtain ⟨j, j1, j2⟩ := f7 (by omega)
    subst j2
    exact op_build h j1
  · obtain ⟨j, j1, j2⟩ := f7 (by omega)
    subst j2
    exact op_get h (t16 j j1) (f4 (by omega))
  · obtain ⟨j, j1, j2⟩ := f7 (by omega)
    subst j2
    exact op_set h (t16 j j1) (f4 (by omega))
  · exact op_call h (f3 (by omega)) (f4 (by omega))
  · exact op_cast h (f3 (by omega))
  · exact op_row h (f8 rfl)
  · exact op_at h (f9 (by omega)).1 (f9 (by omega)).2
  · exact op_putrow h (f9 (by omega)).1 (f9 (by omega)).2
  · exact op_size h
  · obtain ⟨j, j1, j2⟩ := f2 (by omega)
    subst j2
    exact op_add h j1
