def F_D_in (v0 : Int32) (v1 : Int32) (v2 : Int32) (M : Mm) : Option (Int32 × Mm) := (if v0 < v1 then some (0, M) else (if v2 < v0 then some (0, M) else some (1, M)))
def P_D_in (v0 : Int32) (v1 : Int32) (v2 : Int32) (M : Mm) : Int32 := (if v0 < v1 then 0 else (if v2 < v0 then 0 else 1))
theorem p_D_in (v0 : Int32) (v1 : Int32) (v2 : Int32) (M : Mm) : F_D_in v0 v1 v2 M = some (P_D_in v0 v1 v2 M, M) := by
  unfold F_D_in P_D_in
  refine q_i ?_ ?_
  · rfl
  · refine q_i ?_ ?_
    · rfl
    · rfl
theorem z_D_in (v0 : Int32) (v1 : Int32) (v2 : Int32) (M : Mm) : zo (P_D_in v0 v1 v2 M) := by
  rw [P_D_in]
  refine zo_i ?_ ?_
  · exact zo_0
  · refine zo_i ?_ ?_
    · exact zo_0
    · exact zo_1
def F_D_isClass (v1 : Int32) (M : Mm) : Option (Int32 × Mm) := lt (P_D_in v1 16 ((16 : Int32) + (M.1 30 0 2) - 1) M) fun r2 => bnz r2 (some (r2, M))
def P_D_isClass (v1 : Int32) (M : Mm) : Int32 := lt (P_D_in v1 16 ((16 : Int32) + (M.1 30 0 2) - 1) M) fun r2 => r2
theorem p_D_isClass (v1 : Int32) (M : Mm) : F_D_isClass v1 M = some (P_D_isClass v1 M, M) := by
  unfold F_D_isClass P_D_isClass
  refine q_l ?_
  exact q_b (z_D_in _ _ _ _)
theorem z_D_isClass (v1 : Int32) (M : Mm) : zo (P_D_isClass v1 M) := by
  rw [P_D_isClass]
  refine zo_l ?_
  exact z_D_in _ _ _ _
def F_D_isRef (v1 : Int32) (M : Mm) : Option (Int32 × Mm) := lt (P_D_isClass v1 M) fun r2 => (if r2 = 0 then lt (P_D_in v1 64 255 M) fun r5 => (if r5 = 0 then some (0, M) else (if (v1 - v1 / 64 * 64) = 12 then some (1, M) else lt (P_D_isClass (v1 - v1 / 64 * 64) M) fun r9 => (if r9 = 0 then some (0, M) else some (1, M)))) else some (1, M))
def P_D_isRef (v1 : Int32) (M : Mm) : Int32 := lt (P_D_isClass v1 M) fun r2 => (if r2 = 0 then lt (P_D_in v1 64 255 M) fun r5 => (if r5 = 0 then 0 else (if (v1 - v1 / 64 * 64) = 12 then 1 else lt (P_D_isClass (v1 - v1 / 64 * 64) M) fun r9 => (if r9 = 0 then 0 else 1))) else 1)
theorem p_D_isRef (v1 : Int32) (M : Mm) : F_D_isRef v1 M = some (P_D_isRef v1 M, M) := by
  unfold F_D_isRef P_D_isRef
  refine q_l ?_
  refine q_i ?_ ?_
  · refine q_l ?_
    refine q_i ?_ ?_
    · rfl
    · refine q_i ?_ ?_
      · rfl
      · refine q_l ?_
        refine q_i ?_ ?_
        · rfl
        · rfl
  · rfl
theorem z_D_isRef (v1 : Int32) (M : Mm) : zo (P_D_isRef v1 M) := by
  rw [P_D_isRef]
  refine zo_l ?_
  refine zo_i ?_ ?_
  · refine zo_l ?_
    refine zo_i ?_ ?_
    · exact zo_0
    · refine zo_i ?_ ?_
      · exact zo_1
      · refine zo_l ?_
        refine zo_i ?_ ?_
        · exact zo_0
        · exact zo_1
  · exact zo_1
def F_D_isWide (v0 : Int32) (M : Mm) : Option (Int32 × Mm) := (if v0 = 3 then some (1, M) else (if v0 = 4 then some (1, M) else some (0, M)))
def P_D_isWide (v0 : Int32) (M : Mm) : Int32 := (if v0 = 3 then 1 else (if v0 = 4 then 1 else 0))
theorem p_D_isWide (v0 : Int32) (M : Mm) : F_D_isWide v0 M = some (P_D_isWide v0 M, M) := by
  unfold F_D_isWide P_D_isWide
  refine q_i ?_ ?_
  · rfl
  · refine q_i ?_ ?_
    · rfl
    · rfl
theorem z_D_isWide (v0 : Int32) (M : Mm) : zo (P_D_isWide v0 M) := by
  rw [P_D_isWide]
  refine zo_i ?_ ?_
  · exact zo_1
  · refine zo_i ?_ ?_
    · exact zo_1
    · exact zo_0
def F_D_isBelow_b21  (v2 : Int32) (v3 : Int32) (M : Mm) : Option (Int32 × Mm) := (if v3 = v2 then some (1, M) else some (0, M))
def P_D_isBelow_b21 (v2 : Int32) (v3 : Int32) (M : Mm) : Int32 := (if v3 = v2 then 1 else 0)
theorem p_D_isBelow_b21 (v2 : Int32) (v3 : Int32) (M : Mm) : F_D_isBelow_b21 v2 v3 M = some (P_D_isBelow_b21 v2 v3 M, M) := by
  unfold F_D_isBelow_b21 P_D_isBelow_b21
  refine q_i ?_ ?_
  · rfl
  · rfl
theorem z_D_isBelow_b21 (v2 : Int32) (v3 : Int32) (M : Mm) : zo (P_D_isBelow_b21 v2 v3 M) := by
  rw [P_D_isBelow_b21]
  refine zo_i ?_ ?_
  · exact zo_1
  · exact zo_0
def F_D_isBelow_b2  : Nat → Int32 → Int32 → Mm → Option (Int32 × Mm)
  | 0, _, _, _ => none
  | n + 1, v2, v3, M => (if v3 < 0 then F_D_isBelow_b21 v2 v3 M else (if v3 = v2 then F_D_isBelow_b21 v2 v3 M else bnd v3 10 (lt (M.1 31 0 (v3 : Int32).toNatClampNeg : Int32) fun n5 => (F_D_isBelow_b2 n) v2 n5 M)))
def F_D_isBelow (v1 : Int32) (v2 : Int32) (M : Mm) : Option (Int32 × Mm) := F_D_isBelow_b2 fuel v2 v1 M
def F_D_goesFor_b70  (v3 : Int32) (v4 : Int32) (M : Mm) : Option (Int32 × Mm) := lt (P_D_isRef v3 M) fun r2 => (if r2 = 0 then some (0, M) else lt (P_D_isRef v4 M) fun r5 => (if r5 = 0 then some (0, M) else (if v3 = v4 then some (1, M) else (if v4 = 16 then some (1, M) else lt (P_D_isClass v3 M) fun r10 => (if r10 = 0 then some (0, M) else lt (P_D_isClass v4 M) fun r13 => (if r13 = 0 then some (0, M) else bnd (v4 - 16) 10 ((if (M.1 32 0 (v4 - 16 : Int32).toNatClampNeg) = 0 then bd (F_D_isBelow (v3 - 16) (v4 - 16) M) (fun r19 M18 => (if r19 = 0 then some (0, M18) else some (1, M18))) else some (1, M)))))))))
def F_D_goesFor_b23  : Nat → Int32 → Int32 → Mm → Option (Int32 × Mm)
  | 0, _, _, _ => none
  | n + 1, v3, v4, M => (if v3 = v4 then F_D_goesFor_b70 v3 v4 M else (if v4 = 16 then F_D_goesFor_b70 v3 v4 M else lt (P_D_in v3 64 255 M) fun r24 => (if r24 = 0 then F_D_goesFor_b70 v3 v4 M else lt (P_D_in v4 64 255 M) fun r27 => (if r27 = 0 then F_D_goesFor_b70 v3 v4 M else lt (v3 + (-64)) fun n29 => lt (v4 + (-64)) fun n30 => (F_D_goesFor_b23 n) n29 n30 M))))
def F_D_goesFor (v1 : Int32) (v2 : Int32) (M : Mm) : Option (Int32 × Mm) := (if v1 = v2 then some (1, M) else (if v1 = 5 then lt (P_D_isRef v2 M) fun r34 => bnz r34 (some (r34, M)) else F_D_goesFor_b23 fuel v1 v2 M))
def F_D_joined_b138  (v3 : Int32) (M : Mm) : Option (Int32 × Mm) := some ((64 : Int32) * v3 + 16, M)
def P_D_joined_b138 (v3 : Int32) (M : Mm) : Int32 := (64 : Int32) * v3 + 16
theorem p_D_joined_b138 (v3 : Int32) (M : Mm) : F_D_joined_b138 v3 M = some (P_D_joined_b138 v3 M, M) := by
  unfold F_D_joined_b138 P_D_joined_b138
  rfl
def F_D_joined_b153  : Nat → Int32 → Int32 → Int32 → Mm → Option (Int32 × Mm)
  | 0, _, _, _, _ => none
  | n + 1, v3, v6, v8, M => bd (F_D_isBelow (v6 - 16) v8 M) (fun r3 M2 => (if r3 = 0 then bnd v8 10 (lt (M2.1 31 0 (v8 : Int32).toNatClampNeg : Int32) fun n6 => (F_D_joined_b153 n) v3 v6 n6 M2) else some ((64 : Int32) * v3 + 16 + v8, M2)))
def F_D_joined_b220  (v7 : Int32) (M : Mm) : Option (Int32 × Mm) := some ((64 : Int32) * v7 + 16, M)
def P_D_joined_b220 (v7 : Int32) (M : Mm) : Int32 := (64 : Int32) * v7 + 16
theorem p_D_joined_b220 (v7 : Int32) (M : Mm) : F_D_joined_b220 v7 M = some (P_D_joined_b220 v7 M, M) := by
  unfold F_D_joined_b220 P_D_joined_b220
  rfl
def F_D_joined_b217  (v7 : Int32) (M : Mm) : Option (Int32 × Mm) := lt (v7 + (-1)) fun n7 => F_D_joined_b220 n7 M
def P_D_joined_b217 (v7 : Int32) (M : Mm) : Int32 := lt (v7 + (-1)) fun n7 => P_D_joined_b220 n7 M
theorem p_D_joined_b217 (v7 : Int32) (M : Mm) : F_D_joined_b217 v7 M = some (P_D_joined_b217 v7 M, M) := by
  unfold F_D_joined_b217 P_D_joined_b217
  refine q_l ?_
  exact p_D_joined_b220 _ _
def F_D_joined_b203  (v4 : Int32) (v6 : Int32) (v7 : Int32) (M : Mm) : Option (Int32 × Mm) := (if v6 = 12 then (if v4 = v7 then F_D_joined_b217 v7 M else F_D_joined_b220 v7 M) else F_D_joined_b220 v7 M)
def P_D_joined_b203 (v4 : Int32) (v6 : Int32) (v7 : Int32) (M : Mm) : Int32 := (if v6 = 12 then (if v4 = v7 then P_D_joined_b217 v7 M else P_D_joined_b220 v7 M) else P_D_joined_b220 v7 M)
theorem p_D_joined_b203 (v4 : Int32) (v6 : Int32) (v7 : Int32) (M : Mm) : F_D_joined_b203 v4 v6 v7 M = some (P_D_joined_b203 v4 v6 v7 M, M) := by
  unfold F_D_joined_b203 P_D_joined_b203
  refine q_i ?_ ?_
  · refine q_i ?_ ?_
    · exact p_D_joined_b217 _ _
    · exact p_D_joined_b220 _ _
  · exact p_D_joined_b220 _ _
def F_D_joined_b190  (v3 : Int32) (v4 : Int32) (v5 : Int32) (v6 : Int32) (v7 : Int32) (M : Mm) : Option (Int32 × Mm) := (if v5 = 12 then (if v3 = v7 then F_D_joined_b217 v7 M else F_D_joined_b203 v4 v6 v7 M) else F_D_joined_b203 v4 v6 v7 M)
def P_D_joined_b190 (v3 : Int32) (v4 : Int32) (v5 : Int32) (v6 : Int32) (v7 : Int32) (M : Mm) : Int32 := (if v5 = 12 then (if v3 = v7 then P_D_joined_b217 v7 M else P_D_joined_b203 v4 v6 v7 M) else P_D_joined_b203 v4 v6 v7 M)
theorem p_D_joined_b190 (v3 : Int32) (v4 : Int32) (v5 : Int32) (v6 : Int32) (v7 : Int32) (M : Mm) : F_D_joined_b190 v3 v4 v5 v6 v7 M = some (P_D_joined_b190 v3 v4 v5 v6 v7 M, M) := by
  unfold F_D_joined_b190 P_D_joined_b190
  refine q_i ?_ ?_
  · refine q_i ?_ ?_
    · exact p_D_joined_b217 _ _
    · exact p_D_joined_b203 _ _ _ _
  · exact p_D_joined_b203 _ _ _ _
def F_D_joined_b90  (v3 : Int32) (v4 : Int32) (v5 : Int32) (v6 : Int32) (s0 : Int32) (M : Mm) : Option (Int32 × Mm) := (if v3 = v4 then (if v5 = 12 then F_D_joined_b190 v3 v4 v5 v6 s0 M else (if v6 = 12 then F_D_joined_b190 v3 v4 v5 v6 s0 M else bnd (v5 - 16) 10 ((if (M.1 32 0 (v5 - 16 : Int32).toNatClampNeg) = 0 then bnd (v6 - 16) 10 ((if (M.1 32 0 (v6 - 16 : Int32).toNatClampNeg) = 0 then lt (v5 - 16 : Int32) fun n19 => F_D_joined_b153 fuel v3 v6 n19 M else F_D_joined_b138 v3 M)) else F_D_joined_b138 v3 M)))) else F_D_joined_b190 v3 v4 v5 v6 s0 M)
def F_D_joined_b37  (v1 : Int32) (v2 : Int32) (M : Mm) : Option (Int32 × Mm) := lt (P_D_isRef v1 M) fun r21 => (if r21 = 0 then some (0, M) else lt (P_D_isRef v2 M) fun r24 => (if r24 = 0 then some (0, M) else lt (v1 / 64 : Int32) fun n26 => lt (v2 / 64 : Int32) fun n27 => lt (v1 - v1 / 64 * 64 : Int32) fun n28 => lt (v2 - v2 / 64 * 64 : Int32) fun n29 => (if n27 ≤ n26 then F_D_joined_b90 n26 n27 n28 n29 n27 M else F_D_joined_b90 n26 n27 n28 n29 n26 M)))
def F_D_joined_b22  (v1 : Int32) (v2 : Int32) (M : Mm) : Option (Int32 × Mm) := (if v2 = 5 then lt (P_D_isRef v1 M) fun r33 => (if r33 = 0 then F_D_joined_b37 v1 v2 M else some (v1, M)) else F_D_joined_b37 v1 v2 M)
def F_D_joined (v1 : Int32) (v2 : Int32) (M : Mm) : Option (Int32 × Mm) := (if v1 = v2 then some (v1, M) else (if v1 = 5 then lt (P_D_isRef v2 M) fun r38 => (if r38 = 0 then F_D_joined_b22 v1 v2 M else some (v2, M)) else F_D_joined_b22 v1 v2 M))
def F_D_cls (v1 : Int32) (v2 : Int32) (M : Mm) : Option (Int32 × Mm) := lt (P_D_in v1 0 ((M.1 30 0 2) - 1) M) fun r2 => (if r2 = 0 then some ((-1), M) else (if (M.1 30 0 2) = 10 then some ((-2), M) else bnd (M.1 30 0 2) 10 (lt (sI M 31 0 (M.1 30 0 2 : Int32).toNatClampNeg v1) fun M6 => bnd (M6.1 30 0 2) 10 (lt (sI M6 32 0 (M6.1 30 0 2 : Int32).toNatClampNeg (vp_nar .boolean v2)) fun M8 => lt (sI M8 30 0 2 ((M8.1 30 0 2) + 1)) fun M9 => some ((M9.1 30 0 2) - 1, M9)))))
def F_D_isPlain (v1 : Int32) (M : Mm) : Option (Int32 × Mm) := lt (P_D_in v1 1 4 M) fun r2 => (if r2 = 0 then lt (P_D_isRef v1 M) fun r5 => (if r5 = 0 then some (0, M) else some (1, M)) else some (1, M))
def P_D_isPlain (v1 : Int32) (M : Mm) : Int32 := lt (P_D_in v1 1 4 M) fun r2 => (if r2 = 0 then lt (P_D_isRef v1 M) fun r5 => (if r5 = 0 then 0 else 1) else 1)
theorem p_D_isPlain (v1 : Int32) (M : Mm) : F_D_isPlain v1 M = some (P_D_isPlain v1 M, M) := by
  unfold F_D_isPlain P_D_isPlain
  refine q_l ?_
  refine q_i ?_ ?_
  · refine q_l ?_
    refine q_i ?_ ?_
    · rfl
    · rfl
  · rfl
theorem z_D_isPlain (v1 : Int32) (M : Mm) : zo (P_D_isPlain v1 M) := by
  rw [P_D_isPlain]
  refine zo_l ?_
  refine zo_i ?_ ?_
  · refine zo_l ?_
    refine zo_i ?_ ?_
    · exact zo_0
    · exact zo_1
  · exact zo_1
def F_D_begin_b12  (v1 : Int32) (v2 : Int32) (v3 : Int32) (M : Mm) : Option (Int32 × Mm) := lt (P_D_in v2 0 12 M) fun r2 => (if r2 = 0 then some ((-1), M) else lt (P_D_in v3 0 12 M) fun r5 => (if r5 = 0 then some ((-1), M) else lt (sI M 30 0 14 v1) fun M7 => lt (sI M7 30 0 15 v2) fun M8 => lt (sI M8 30 0 16 v3) fun M9 => lt (sI M9 30 0 11 0) fun M10 => lt (sI M10 30 0 12 0) fun M11 => lt (sI M11 30 0 13 0) fun M12 => some (1, M12)))
def F_D_begin (v1 : Int32) (v2 : Int32) (v3 : Int32) (M : Mm) : Option (Int32 × Mm) := (if v1 = 0 then F_D_begin_b12 v1 v2 v3 M else lt (P_D_isPlain v1 M) fun r15 => (if r15 = 0 then some ((-1), M) else F_D_begin_b12 v1 v2 v3 M))
def F_D_argument (v1 : Int32) (M : Mm) : Option (Int32 × Mm) := lt (P_D_isPlain v1 M) fun r2 => (if r2 = 0 then some ((-1), M) else (if (M.1 30 0 13) = 6 then some ((-2), M) else bnd (M.1 30 0 13) 6 (lt (sI M 40 0 (M.1 30 0 13 : Int32).toNatClampNeg v1) fun M6 => lt (sI M6 30 0 13 ((M6.1 30 0 13) + 1)) fun M7 => some (M7.1 30 0 13, M7))))
def F_D_add (v1 : Int32) (v2 : Int32) (v3 : Int32) (M : Mm) : Option (Int32 × Mm) := lt (P_D_in v1 0 30 M) fun r2 => (if r2 = 0 then some ((-1), M) else (if (M.1 30 0 11) = 48 then some ((-2), M) else bnd (M.1 30 0 11) 48 (lt (sI M 33 0 (M.1 30 0 11 : Int32).toNatClampNeg v1) fun M6 => bnd (M6.1 30 0 11) 48 (lt (sI M6 34 0 (M6.1 30 0 11 : Int32).toNatClampNeg v2) fun M8 => bnd (M8.1 30 0 11) 48 (lt (sI M8 35 0 (M8.1 30 0 11 : Int32).toNatClampNeg v3) fun M10 => lt (sI M10 30 0 11 ((M10.1 30 0 11) + 1)) fun M11 => some ((M11.1 30 0 11) - 1, M11))))))
def F_D_change (v1 : Int32) (v2 : Int32) (v3 : Int32) (v4 : Int32) (M : Mm) : Option (Int32 × Mm) := lt (P_D_in v1 0 ((M.1 30 0 11) - 1) M) fun r2 => (if r2 = 0 then some ((-1), M) else lt (P_D_in v2 0 30 M) fun r5 => (if r5 = 0 then some ((-1), M) else bnd v1 48 (lt (M.1 33 0 (v1 : Int32).toNatClampNeg : Int32) fun n8 => bnd v1 48 (lt (sI M 33 0 (v1 : Int32).toNatClampNeg v2) fun M10 => bnd v1 48 (lt (sI M10 34 0 (v1 : Int32).toNatClampNeg v3) fun M12 => bnd v1 48 (lt (sI M12 35 0 (v1 : Int32).toNatClampNeg v4) fun M14 => some (n8, M14)))))))
def F_D_handler (v1 : Int32) (v2 : Int32) (v3 : Int32) (v4 : Int32) (M : Mm) : Option (Int32 × Mm) := (if (M.1 30 0 12) = 3 then some ((-2), M) else bnd (M.1 30 0 12) 3 (lt (sI M 36 0 (M.1 30 0 12 : Int32).toNatClampNeg v1) fun M3 => bnd (M3.1 30 0 12) 3 (lt (sI M3 37 0 (M3.1 30 0 12 : Int32).toNatClampNeg v2) fun M5 => bnd (M5.1 30 0 12) 3 (lt (sI M5 38 0 (M5.1 30 0 12 : Int32).toNatClampNeg v3) fun M7 => bnd (M7.1 30 0 12) 3 (lt (sI M7 39 0 (M7.1 30 0 12 : Int32).toNatClampNeg v4) fun M9 => lt (sI M9 30 0 12 ((M9.1 30 0 12) + 1)) fun M10 => some (M10.1 30 0 12, M10))))))
def F_D_isGoal (v1 : Int32) (M : Mm) : Option (Int32 × Mm) := lt (P_D_in v1 0 ((M.1 30 0 11) - 1) M) fun r2 => bnz r2 (some (r2, M))
def P_D_isGoal (v1 : Int32) (M : Mm) : Int32 := lt (P_D_in v1 0 ((M.1 30 0 11) - 1) M) fun r2 => r2
theorem p_D_isGoal (v1 : Int32) (M : Mm) : F_D_isGoal v1 M = some (P_D_isGoal v1 M, M) := by
  unfold F_D_isGoal P_D_isGoal
  refine q_l ?_
  exact q_b (z_D_in _ _ _ _)
theorem z_D_isGoal (v1 : Int32) (M : Mm) : zo (P_D_isGoal v1 M) := by
  rw [P_D_isGoal]
  refine zo_l ?_
  exact z_D_in _ _ _ _
def F_D_isFormed (v1 : Int32) (v2 : Int32) (v3 : Int32) (M : Mm) : Option (Int32 × Mm) := (if v1 = 1 then lt (P_D_in v2 1 5 M) fun r2 => bnz r2 (some (r2, M)) else (if v1 = 2 then lt (P_D_in v2 0 ((M.1 30 0 15) - 1) M) fun r5 => bnz r5 (some (r5, M)) else (if v1 = 3 then lt (P_D_in v2 0 ((M.1 30 0 15) - 1) M) fun r8 => bnz r8 (some (r8, M)) else (if v1 = 4 then some (1, M) else (if v1 = 5 then some (1, M) else (if v1 = 6 then some (1, M) else (if v1 = 7 then some (1, M) else (if v1 = 8 then some (1, M) else (if v1 = 9 then lt (P_D_in v2 1 4 M) fun r11 => bnz r11 (some (r11, M)) else (if v1 = 10 then lt (P_D_in v2 1 4 M) fun r14 => (if r14 = 0 then some (0, M) else lt (P_D_in v3 1 4 M) fun r17 => (if r17 = 0 then some (0, M) else some (1, M))) else (if v1 = 11 then lt (P_D_in v2 2 4 M) fun r20 => bnz r20 (some (r20, M)) else (if v1 = 12 then lt (P_D_isGoal v3 M) fun r23 => bnz r23 (some (r23, M)) else (if v1 = 13 then lt (P_D_isGoal v3 M) fun r26 => bnz r26 (some (r26, M)) else (if v1 = 14 then lt (P_D_isGoal v3 M) fun r29 => bnz r29 (some (r29, M)) else (if v1 = 15 then lt (P_D_isGoal v3 M) fun r32 => bnz r32 (some (r32, M)) else (if v1 = 16 then lt (P_D_in v2 0 ((M.1 30 0 15) - 1) M) fun r35 => bnz r35 (some (r35, M)) else (if v1 = 17 then lt (P_D_isGoal v2 M) fun r38 => (if r38 = 0 then some (0, M) else lt (P_D_isGoal v3 M) fun r41 => (if r41 = 0 then some (0, M) else some (1, M))) else (if v1 = 18 then some (1, M) else (if v1 = 19 then some (1, M) else (if v1 = 20 then lt (P_D_in v2 0 ((M.1 30 0 2) - 1) M) fun r44 => bnz r44 (some (r44, M)) else (if v1 = 21 then lt (P_D_in v2 0 ((M.1 30 0 2) - 1) M) fun r47 => bnz r47 (some (r47, M)) else (if v1 = 22 then lt (P_D_in v2 0 ((M.1 30 0 2) - 1) M) fun r50 => (if r50 = 0 then some (0, M) else lt (P_D_isPlain v3 M) fun r53 => (if r53 = 0 then some (0, M) else some (1, M))) else (if v1 = 23 then lt (P_D_in v2 0 ((M.1 30 0 2) - 1) M) fun r56 => (if r56 = 0 then some (0, M) else lt (P_D_isPlain v3 M) fun r59 => (if r59 = 0 then some (0, M) else some (1, M))) else (if v1 = 24 then lt (P_D_isPlain v2 M) fun r62 => (if r62 = 0 then some (0, M) else lt (P_D_isPlain v3 M) fun r65 => (if r65 = 0 then some (0, M) else some (1, M))) else (if v1 = 25 then lt (P_D_isRef v2 M) fun r68 => bnz r68 (some (r68, M)) else (if v1 = 26 then (if v2 = 12 then some (1, M) else lt (P_D_isRef v2 M) fun r72 => (if r72 = 0 then some (0, M) else (if 192 ≤ v2 then some (0, M) else some (1, M)))) else (if v1 = 27 then lt (P_D_isRef v2 M) fun r76 => (if r76 = 0 then some (0, M) else (if v2 < 64 then some (0, M) else some (1, M))) else (if v1 = 28 then lt (P_D_isRef v2 M) fun r80 => (if r80 = 0 then some (0, M) else (if v2 < 64 then some (0, M) else some (1, M))) else (if v1 = 29 then some (1, M) else (if v1 = 30 then lt (P_D_in v2 0 ((M.1 30 0 15) - 1) M) fun r84 => bnz r84 (some (r84, M)) else some (1, M)))))))))))))))))))))))))))))))
def P_D_isFormed (v1 : Int32) (v2 : Int32) (v3 : Int32) (M : Mm) : Int32 := (if v1 = 1 then lt (P_D_in v2 1 5 M) fun r2 => r2 else (if v1 = 2 then lt (P_D_in v2 0 ((M.1 30 0 15) - 1) M) fun r5 => r5 else (if v1 = 3 then lt (P_D_in v2 0 ((M.1 30 0 15) - 1) M) fun r8 => r8 else (if v1 = 4 then 1 else (if v1 = 5 then 1 else (if v1 = 6 then 1 else (if v1 = 7 then 1 else (if v1 = 8 then 1 else (if v1 = 9 then lt (P_D_in v2 1 4 M) fun r11 => r11 else (if v1 = 10 then lt (P_D_in v2 1 4 M) fun r14 => (if r14 = 0 then 0 else lt (P_D_in v3 1 4 M) fun r17 => (if r17 = 0 then 0 else 1)) else (if v1 = 11 then lt (P_D_in v2 2 4 M) fun r20 => r20 else (if v1 = 12 then lt (P_D_isGoal v3 M) fun r23 => r23 else (if v1 = 13 then lt (P_D_isGoal v3 M) fun r26 => r26 else (if v1 = 14 then lt (P_D_isGoal v3 M) fun r29 => r29 else (if v1 = 15 then lt (P_D_isGoal v3 M) fun r32 => r32 else (if v1 = 16 then lt (P_D_in v2 0 ((M.1 30 0 15) - 1) M) fun r35 => r35 else (if v1 = 17 then lt (P_D_isGoal v2 M) fun r38 => (if r38 = 0 then 0 else lt (P_D_isGoal v3 M) fun r41 => (if r41 = 0 then 0 else 1)) else (if v1 = 18 then 1 else (if v1 = 19 then 1 else (if v1 = 20 then lt (P_D_in v2 0 ((M.1 30 0 2) - 1) M) fun r44 => r44 else (if v1 = 21 then lt (P_D_in v2 0 ((M.1 30 0 2) - 1) M) fun r47 => r47 else (if v1 = 22 then lt (P_D_in v2 0 ((M.1 30 0 2) - 1) M) fun r50 => (if r50 = 0 then 0 else lt (P_D_isPlain v3 M) fun r53 => (if r53 = 0 then 0 else 1)) else (if v1 = 23 then lt (P_D_in v2 0 ((M.1 30 0 2) - 1) M) fun r56 => (if r56 = 0 then 0 else lt (P_D_isPlain v3 M) fun r59 => (if r59 = 0 then 0 else 1)) else (if v1 = 24 then lt (P_D_isPlain v2 M) fun r62 => (if r62 = 0 then 0 else lt (P_D_isPlain v3 M) fun r65 => (if r65 = 0 then 0 else 1)) else (if v1 = 25 then lt (P_D_isRef v2 M) fun r68 => r68 else (if v1 = 26 then (if v2 = 12 then 1 else lt (P_D_isRef v2 M) fun r72 => (if r72 = 0 then 0 else (if 192 ≤ v2 then 0 else 1))) else (if v1 = 27 then lt (P_D_isRef v2 M) fun r76 => (if r76 = 0 then 0 else (if v2 < 64 then 0 else 1)) else (if v1 = 28 then lt (P_D_isRef v2 M) fun r80 => (if r80 = 0 then 0 else (if v2 < 64 then 0 else 1)) else (if v1 = 29 then 1 else (if v1 = 30 then lt (P_D_in v2 0 ((M.1 30 0 15) - 1) M) fun r84 => r84 else 1))))))))))))))))))))))))))))))
theorem p_D_isFormed (v1 : Int32) (v2 : Int32) (v3 : Int32) (M : Mm) : F_D_isFormed v1 v2 v3 M = some (P_D_isFormed v1 v2 v3 M, M) := by
  unfold F_D_isFormed P_D_isFormed
  refine q_i ?_ ?_
  · refine q_l ?_
    exact q_b (z_D_in _ _ _ _)
  · refine q_i ?_ ?_
    · refine q_l ?_
      exact q_b (z_D_in _ _ _ _)
    · refine q_i ?_ ?_
      · refine q_l ?_
        exact q_b (z_D_in _ _ _ _)
      · refine q_i ?_ ?_
        · rfl
        · refine q_i ?_ ?_
          · rfl
          · refine q_i ?_ ?_
            · rfl
            · refine q_i ?_ ?_
              · rfl
              · refine q_i ?_ ?_
                · rfl
                · refine q_i ?_ ?_
                  · refine q_l ?_
                    exact q_b (z_D_in _ _ _ _)
                  · refine q_i ?_ ?_
                    · refine q_l ?_
                      refine q_i ?_ ?_
                      · rfl
                      · refine q_l ?_
                        refine q_i ?_ ?_
                        · rfl
                        · rfl
                    · refine q_i ?_ ?_
                      · refine q_l ?_
                        exact q_b (z_D_in _ _ _ _)
                      · refine q_i ?_ ?_
                        · refine q_l ?_
                          exact q_b (z_D_isGoal _ _)
                        · refine q_i ?_ ?_
                          · refine q_l ?_
                            exact q_b (z_D_isGoal _ _)
                          · refine q_i ?_ ?_
                            · refine q_l ?_
                              exact q_b (z_D_isGoal _ _)
                            · refine q_i ?_ ?_
                              · refine q_l ?_
                                exact q_b (z_D_isGoal _ _)
                              · refine q_i ?_ ?_
                                · refine q_l ?_
                                  exact q_b (z_D_in _ _ _ _)
                                · refine q_i ?_ ?_
                                  · refine q_l ?_
                                    refine q_i ?_ ?_
                                    · rfl
                                    · refine q_l ?_
                                      refine q_i ?_ ?_
                                      · rfl
                                      · rfl
                                  · refine q_i ?_ ?_
                                    · rfl
                                    · refine q_i ?_ ?_
                                      · rfl
                                      · refine q_i ?_ ?_
                                        · refine q_l ?_
                                          exact q_b (z_D_in _ _ _ _)
                                        · refine q_i ?_ ?_
                                          · refine q_l ?_
                                            exact q_b (z_D_in _ _ _ _)
                                          · refine q_i ?_ ?_
                                            · refine q_l ?_
                                              refine q_i ?_ ?_
                                              · rfl
                                              · refine q_l ?_
                                                refine q_i ?_ ?_
                                                · rfl
                                                · rfl
                                            · refine q_i ?_ ?_
                                              · refine q_l ?_
                                                refine q_i ?_ ?_
                                                · rfl
                                                · refine q_l ?_
                                                  refine q_i ?_ ?_
                                                  · rfl
                                                  · rfl
                                              · refine q_i ?_ ?_
                                                · refine q_l ?_
                                                  refine q_i ?_ ?_
                                                  · rfl
                                                  · refine q_l ?_
                                                    refine q_i ?_ ?_
                                                    · rfl
                                                    · rfl
                                                · refine q_i ?_ ?_
                                                  · refine q_l ?_
                                                    exact q_b (z_D_isRef _ _)
                                                  · refine q_i ?_ ?_
                                                    · refine q_i ?_ ?_
                                                      · rfl
                                                      · refine q_l ?_
                                                        refine q_i ?_ ?_
                                                        · rfl
                                                        · refine q_i ?_ ?_
                                                          · rfl
                                                          · rfl
                                                    · refine q_i ?_ ?_
                                                      · refine q_l ?_
                                                        refine q_i ?_ ?_
                                                        · rfl
                                                        · refine q_i ?_ ?_
                                                          · rfl
                                                          · rfl
                                                      · refine q_i ?_ ?_
                                                        · refine q_l ?_
                                                          refine q_i ?_ ?_
                                                          · rfl
                                                          · refine q_i ?_ ?_
                                                            · rfl
                                                            · rfl
                                                        · refine q_i ?_ ?_
                                                          · rfl
                                                          · refine q_i ?_ ?_
                                                            · refine q_l ?_
                                                              exact q_b (z_D_in _ _ _ _)
                                                            · rfl
theorem z_D_isFormed (v1 : Int32) (v2 : Int32) (v3 : Int32) (M : Mm) : zo (P_D_isFormed v1 v2 v3 M) := by
  rw [P_D_isFormed]
  refine zo_i ?_ ?_
  · refine zo_l ?_
    exact z_D_in _ _ _ _
  · refine zo_i ?_ ?_
    · refine zo_l ?_
      exact z_D_in _ _ _ _
    · refine zo_i ?_ ?_
      · refine zo_l ?_
        exact z_D_in _ _ _ _
      · refine zo_i ?_ ?_
        · exact zo_1
        · refine zo_i ?_ ?_
          · exact zo_1
          · refine zo_i ?_ ?_
            · exact zo_1
            · refine zo_i ?_ ?_
              · exact zo_1
              · refine zo_i ?_ ?_
                · exact zo_1
                · refine zo_i ?_ ?_
                  · refine zo_l ?_
                    exact z_D_in _ _ _ _
                  · refine zo_i ?_ ?_
                    · refine zo_l ?_
                      refine zo_i ?_ ?_
                      · exact zo_0
                      · refine zo_l ?_
                        refine zo_i ?_ ?_
                        · exact zo_0
                        · exact zo_1
                    · refine zo_i ?_ ?_
                      · refine zo_l ?_
                        exact z_D_in _ _ _ _
                      · refine zo_i ?_ ?_
                        · refine zo_l ?_
                          exact z_D_isGoal _ _
                        · refine zo_i ?_ ?_
                          · refine zo_l ?_
                            exact z_D_isGoal _ _
                          · refine zo_i ?_ ?_
                            · refine zo_l ?_
                              exact z_D_isGoal _ _
                            · refine zo_i ?_ ?_
                              · refine zo_l ?_
                                exact z_D_isGoal _ _
                              · refine zo_i ?_ ?_
                                · refine zo_l ?_
                                  exact z_D_in _ _ _ _
                                · refine zo_i ?_ ?_
                                  · refine zo_l ?_
                                    refine zo_i ?_ ?_
                                    · exact zo_0
                                    · refine zo_l ?_
                                      refine zo_i ?_ ?_
                                      · exact zo_0
                                      · exact zo_1
                                  · refine zo_i ?_ ?_
                                    · exact zo_1
                                    · refine zo_i ?_ ?_
                                      · exact zo_1
                                      · refine zo_i ?_ ?_
                                        · refine zo_l ?_
                                          exact z_D_in _ _ _ _
                                        · refine zo_i ?_ ?_
                                          · refine zo_l ?_
                                            exact z_D_in _ _ _ _
                                          · refine zo_i ?_ ?_
                                            · refine zo_l ?_
                                              refine zo_i ?_ ?_
                                              · exact zo_0
                                              · refine zo_l ?_
                                                refine zo_i ?_ ?_
                                                · exact zo_0
                                                · exact zo_1
                                            · refine zo_i ?_ ?_
                                              · refine zo_l ?_
                                                refine zo_i ?_ ?_
                                                · exact zo_0
                                                · refine zo_l ?_
                                                  refine zo_i ?_ ?_
                                                  · exact zo_0
                                                  · exact zo_1
                                              · refine zo_i ?_ ?_
                                                · refine zo_l ?_
                                                  refine zo_i ?_ ?_
                                                  · exact zo_0
                                                  · refine zo_l ?_
                                                    refine zo_i ?_ ?_
                                                    · exact zo_0
                                                    · exact zo_1
                                                · refine zo_i ?_ ?_
                                                  · refine zo_l ?_
                                                    exact z_D_isRef _ _
                                                  · refine zo_i ?_ ?_
                                                    · refine zo_i ?_ ?_
                                                      · exact zo_1
                                                      · refine zo_l ?_
                                                        refine zo_i ?_ ?_
                                                        · exact zo_0
                                                        · refine zo_i ?_ ?_
                                                          · exact zo_0
                                                          · exact zo_1
                                                    · refine zo_i ?_ ?_
                                                      · refine zo_l ?_
                                                        refine zo_i ?_ ?_
                                                        · exact zo_0
                                                        · refine zo_i ?_ ?_
                                                          · exact zo_0
                                                          · exact zo_1
                                                      · refine zo_i ?_ ?_
                                                        · refine zo_l ?_
                                                          refine zo_i ?_ ?_
                                                          · exact zo_0
                                                          · refine zo_i ?_ ?_
                                                            · exact zo_0
                                                            · exact zo_1
                                                        · refine zo_i ?_ ?_
                                                          · exact zo_1
                                                          · refine zo_i ?_ ?_
                                                            · refine zo_l ?_
                                                              exact z_D_in _ _ _ _
                                                            · exact zo_1
def F_D_fail (v1 : Int32) (v2 : Int32) (M : Mm) : Option (Mm) := (if (M.1 30 0 34) ≤ 0 then lt (sI M 30 0 34 v1) fun M2 => lt (sI M2 30 0 35 v2) fun M3 => some M3 else some M)
def F_D_form_b56 (K15 : Int32 → Mm → Option (Mm)) (v1 : Int32) (M : Mm) : Option (Mm) := lt (v1 + 1) fun n1 => K15 n1 M
def F_D_form_b164 (K64 : Int32 → Mm → Option (Mm)) (v1 : Int32) (M : Mm) : Option (Mm) := lt (v1 + 1) fun n2 => K64 n2 M
def F_D_form_b155 (K64 : Int32 → Mm → Option (Mm)) (v1 : Int32) (M : Mm) : Option (Mm) := bv (F_D_fail 1 ((100 : Int32) + v1) M) (fun M4 => F_D_form_b164 K64 v1 M4)
def F_D_form_b200 (K174 : Int32 → Int32 → Mm → Option (Mm)) (v2 : Int32) (s0 : Int32) (s1 : Int32) (M : Mm) : Option (Mm) := lt (s0 + s1 : Int32) fun n5 => lt (v2 + 1) fun n6 => K174 n5 n6 M
def F_D_form_b174  : Nat → Int32 → Int32 → Mm → Option (Mm)
  | 0, _, _, _ => none
  | n + 1, v1, v2, M => (if (M.1 30 0 13) ≤ v2 then (if v1 ≤ (M.1 30 0 15) then some M else bv (F_D_fail 1 200 M) (fun M10 => some M10)) else bnd v2 6 (lt (P_D_isWide (M.1 40 0 (v2 : Int32).toNatClampNeg) M) fun r13 => (if r13 = 0 then F_D_form_b200 (F_D_form_b174 n) v2 v1 1 M else F_D_form_b200 (F_D_form_b174 n) v2 v1 2 M)))
def F_D_form_b64  : Nat → Int32 → Mm → Option (Mm)
  | 0, _, _ => none
  | n + 1, v1, M => (if (M.1 30 0 12) ≤ v1 then F_D_form_b174 fuel 0 0 M else bnd v1 3 ((if (M.1 36 0 (v1 : Int32).toNatClampNeg) < 0 then F_D_form_b155 (F_D_form_b64 n) v1 M else bnd v1 3 (bnd v1 3 ((if (M.1 37 0 (v1 : Int32).toNatClampNeg) ≤ (M.1 36 0 (v1 : Int32).toNatClampNeg) then F_D_form_b155 (F_D_form_b64 n) v1 M else bnd v1 3 ((if (M.1 30 0 11) < (M.1 37 0 (v1 : Int32).toNatClampNeg) then F_D_form_b155 (F_D_form_b64 n) v1 M else bnd v1 3 (lt (P_D_isGoal (M.1 38 0 (v1 : Int32).toNatClampNeg) M) fun r25 => (if r25 = 0 then F_D_form_b155 (F_D_form_b64 n) v1 M else bnd v1 3 (lt (P_D_in (M.1 39 0 (v1 : Int32).toNatClampNeg) 0 ((M.1 30 0 2) - 1) M) fun r29 => (if r29 = 0 then F_D_form_b155 (F_D_form_b64 n) v1 M else bnd v1 3 (bd (F_D_isBelow (M.1 39 0 (v1 : Int32).toNatClampNeg) 1 M) (fun r34 M33 => (if r34 = 0 then F_D_form_b155 (F_D_form_b64 n) v1 M33 else F_D_form_b164 (F_D_form_b64 n) v1 M33)))))))))))))))
def F_D_form_b15  : Nat → Int32 → Mm → Option (Mm)
  | 0, _, _ => none
  | n + 1, v1, M => (if (M.1 30 0 11) ≤ v1 then F_D_form_b64 fuel 0 M else bnd v1 48 (bnd v1 48 (bnd v1 48 (lt (P_D_isFormed (M.1 33 0 (v1 : Int32).toNatClampNeg) (M.1 34 0 (v1 : Int32).toNatClampNeg) (M.1 35 0 (v1 : Int32).toNatClampNeg) M) fun r41 => (if r41 = 0 then bv (F_D_fail 1 v1 M) (fun M44 => F_D_form_b56 (F_D_form_b15 n) v1 M44) else F_D_form_b56 (F_D_form_b15 n) v1 M)))))
def F_D_form_b13   (M : Mm) : Option (Mm) := F_D_form_b15 fuel 0 M
def F_D_form  (M : Mm) : Option (Mm) := (if (M.1 30 0 11) = 0 then bv (F_D_fail 1 0 M) (fun M47 => F_D_form_b13 M47) else F_D_form_b13 M)
def F_D_meet_b109  : Nat → Int32 → Int32 → Mm → Option (Mm)
  | 0, _, _, _ => none
  | n + 1, v1, v2, M => (if 48 ≤ v2 then some M else bnd v2 48 (bnd ((48 : Int32) * v1 + v2) 2304 (lt (sI M 46 0 ((48 : Int32) * v1 + v2 : Int32).toNatClampNeg (M.1 54 0 (v2 : Int32).toNatClampNeg)) fun M4 => lt (v2 + 1) fun n5 => (F_D_meet_b109 n) v1 n5 M4)))
def F_D_meet_b76  : Nat → Int32 → Int32 → Mm → Option (Mm)
  | 0, _, _, _ => none
  | n + 1, v1, v2, M => (if (M.1 30 0 33) ≤ v2 then F_D_meet_b109 fuel v1 0 M else bnd v2 20 (bnd ((12 : Int32) * v1 + v2) 576 (lt (sI M 44 0 ((12 : Int32) * v1 + v2 : Int32).toNatClampNeg (M.1 53 0 (v2 : Int32).toNatClampNeg)) fun M9 => lt (v2 + 1) fun n10 => (F_D_meet_b76 n) v1 n10 M9)))
def F_D_meet_b45  : Nat → Int32 → Int32 → Mm → Option (Mm)
  | 0, _, _, _ => none
  | n + 1, v1, v2, M => (if 12 ≤ v2 then F_D_meet_b76 fuel v1 0 M else bnd v2 12 (bnd ((12 : Int32) * v1 + v2) 576 (lt (sI M 43 0 ((12 : Int32) * v1 + v2 : Int32).toNatClampNeg (M.1 52 0 (v2 : Int32).toNatClampNeg)) fun M14 => lt (v2 + 1) fun n15 => (F_D_meet_b45 n) v1 n15 M14)))
def F_D_meet_b252 (K201 : Int32 → Int32 → Int32 → Mm → Option (Mm)) (v1 : Int32) (v3 : Int32) (v4 : Int32) (s0 : Int32) (s1 : Int32) (M : Mm) : Option (Mm) := lt (s0 ||| s1 : Int32) fun n16 => bnd ((12 : Int32) * v1 + v3) 576 (lt (sI M 43 0 ((12 : Int32) * v1 + v3 : Int32).toNatClampNeg v4) fun M18 => lt (v3 + 1) fun n19 => K201 v1 n16 n19 M18)
def F_D_meet_b328 (K275 : Int32 → Int32 → Int32 → Mm → Option (Mm)) (v1 : Int32) (v3 : Int32) (v4 : Int32) (s0 : Int32) (s1 : Int32) (M : Mm) : Option (Mm) := lt (s0 ||| s1 : Int32) fun n20 => bnd ((12 : Int32) * v1 + v3) 576 (lt (sI M 44 0 ((12 : Int32) * v1 + v3 : Int32).toNatClampNeg v4) fun M22 => lt (v3 + 1) fun n23 => K275 v1 n20 n23 M22)
def F_D_meet_b432 (K351 : Int32 → Int32 → Int32 → Mm → Option (Mm)) (v1 : Int32) (v2 : Int32) (v3 : Int32) (M : Mm) : Option (Mm) := lt (v3 + 1) fun n24 => K351 v1 v2 n24 M
def F_D_meet_b417 (K351 : Int32 → Int32 → Int32 → Mm → Option (Mm)) (v1 : Int32) (v3 : Int32) (v4 : Int32) (s0 : Int32) (s1 : Int32) (M : Mm) : Option (Mm) := lt (s0 ||| s1 : Int32) fun n25 => bnd ((48 : Int32) * v1 + v3) 2304 (lt (sI M 46 0 ((48 : Int32) * v1 + v3 : Int32).toNatClampNeg v4) fun M27 => F_D_meet_b432 K351 v1 n25 v3 M27)
def F_D_meet_b351  : Nat → Int32 → Int32 → Int32 → Mm → Option (Mm)
  | 0, _, _, _, _ => none
  | n + 1, v1, v2, v3, M => (if 48 ≤ v3 then (if v2 = 0 then some M else bnd v1 48 (lt (sI M 42 0 (v1 : Int32).toNatClampNeg (vp_nar .boolean 1)) fun M31 => some M31)) else bnd v1 48 ((if (lg_cmp ((M.2 47 0 (v1 : Int32).toNatClampNeg : Int64) >>> ((v3 : Int32).toInt64 &&& 63) &&& 1) 0) = 0 then F_D_meet_b432 (F_D_meet_b351 n) v1 v2 v3 M else bnd ((48 : Int32) * v1 + v3) 2304 (bnd v3 48 (lt ((M.1 46 0 ((48 : Int32) * v1 + v3 : Int32).toNatClampNeg) ||| (M.1 54 0 (v3 : Int32).toNatClampNeg) : Int32) fun n36 => bnd ((48 : Int32) * v1 + v3) 2304 ((if n36 = (M.1 46 0 ((48 : Int32) * v1 + v3 : Int32).toNatClampNeg) then F_D_meet_b417 (F_D_meet_b351 n) v1 v3 n36 v2 0 M else F_D_meet_b417 (F_D_meet_b351 n) v1 v3 n36 v2 1 M)))))))
def F_D_meet_b275  : Nat → Int32 → Int32 → Int32 → Mm → Option (Mm)
  | 0, _, _, _, _ => none
  | n + 1, v1, v2, v3, M => (if (M.1 30 0 33) ≤ v3 then F_D_meet_b351 fuel v1 v2 0 M else bnd ((12 : Int32) * v1 + v3) 576 (bnd v3 20 (bd (F_D_joined (M.1 44 0 ((12 : Int32) * v1 + v3 : Int32).toNatClampNeg) (M.1 53 0 (v3 : Int32).toNatClampNeg) M) (fun r44 M43 => bnd ((12 : Int32) * v1 + v3) 576 ((if r44 = (M43.1 44 0 ((12 : Int32) * v1 + v3 : Int32).toNatClampNeg) then F_D_meet_b328 (F_D_meet_b275 n) v1 v3 r44 v2 0 M43 else F_D_meet_b328 (F_D_meet_b275 n) v1 v3 r44 v2 1 M43))))))
def F_D_meet_b201  : Nat → Int32 → Int32 → Int32 → Mm → Option (Mm)
  | 0, _, _, _, _ => none
  | n + 1, v1, v2, v3, M => (if 12 ≤ v3 then F_D_meet_b275 fuel v1 v2 0 M else bnd ((12 : Int32) * v1 + v3) 576 (bnd v3 12 (bd (F_D_joined (M.1 43 0 ((12 : Int32) * v1 + v3 : Int32).toNatClampNeg) (M.1 52 0 (v3 : Int32).toNatClampNeg) M) (fun r52 M51 => bnd ((12 : Int32) * v1 + v3) 576 ((if r52 = (M51.1 43 0 ((12 : Int32) * v1 + v3 : Int32).toNatClampNeg) then F_D_meet_b252 (F_D_meet_b201 n) v1 v3 r52 v2 0 M51 else F_D_meet_b252 (F_D_meet_b201 n) v1 v3 r52 v2 1 M51))))))
def F_D_meet_b185  (v1 : Int32) (s0 : Int32) (M : Mm) : Option (Mm) := bnd v1 48 (bnd v1 48 (lt (sL M 47 0 (v1 : Int32).toNatClampNeg ((M.2 47 0 (v1 : Int32).toNatClampNeg) &&& (M.2 30 0 40))) fun M57 => F_D_meet_b201 fuel v1 s0 0 M57))
def F_D_meet (v1 : Int32) (M : Mm) : Option (Mm) := bnd v1 48 ((if (M.1 41 0 (v1 : Int32).toNatClampNeg) = 0 then bnd v1 48 (lt (sI M 41 0 (v1 : Int32).toNatClampNeg (vp_nar .boolean 1)) fun M68 => bnd v1 48 (lt (sI M68 42 0 (v1 : Int32).toNatClampNeg (vp_nar .boolean 1)) fun M70 => bnd v1 48 (lt (sI M70 45 0 (v1 : Int32).toNatClampNeg (M70.1 30 0 33)) fun M72 => bnd v1 48 (lt (sL M72 47 0 (v1 : Int32).toNatClampNeg (M72.2 30 0 40)) fun M74 => F_D_meet_b45 fuel v1 0 M74)))) else bnd v1 48 ((if (M.1 45 0 (v1 : Int32).toNatClampNeg) = (M.1 30 0 33) then bnd v1 48 (bnd v1 48 ((if (lg_cmp ((M.2 47 0 (v1 : Int32).toNatClampNeg) &&& (M.2 30 0 40)) (M.2 47 0 (v1 : Int32).toNatClampNeg)) = 0 then F_D_meet_b185 v1 0 M else F_D_meet_b185 v1 1 M))) else bv (F_D_fail 4 v1 M) (fun M66 => some M66)))))
def F_D_begins_b63 (K25 : Int32 → Int32 → Mm → Option (Mm)) (v2 : Int32) (s0 : Int32) (s1 : Int32) (M : Mm) : Option (Mm) := lt (s0 + s1 : Int32) fun n1 => lt (v2 + 1) fun n2 => K25 n1 n2 M
def F_D_begins_b25  : Nat → Int32 → Int32 → Mm → Option (Mm)
  | 0, _, _, _ => none
  | n + 1, v1, v2, M => (if (M.1 30 0 13) ≤ v2 then lt (sI M 30 0 33 0) fun M4 => lt (sL M4 30 0 40 0) fun M5 => bv (F_D_meet 0 M5) (fun M7 => some M7) else bnd v2 6 (bnd v1 12 (lt (sI M 52 0 (v1 : Int32).toNatClampNeg (M.1 40 0 (v2 : Int32).toNatClampNeg)) fun M10 => bnd v2 6 (lt (P_D_isWide (M10.1 40 0 (v2 : Int32).toNatClampNeg) M10) fun r13 => (if r13 = 0 then F_D_begins_b63 (F_D_begins_b25 n) v2 v1 1 M10 else F_D_begins_b63 (F_D_begins_b25 n) v2 v1 2 M10)))))
def F_D_begins_b4  : Nat → Int32 → Int32 → Mm → Option (Mm)
  | 0, _, _, _ => none
  | n + 1, v1, v2, M => (if 12 ≤ v2 then F_D_begins_b25 fuel v1 0 M else bnd v2 12 (lt (sI M 52 0 (v2 : Int32).toNatClampNeg 0) fun M17 => lt (v2 + 1) fun n18 => (F_D_begins_b4 n) v1 n18 M17))
def F_D_begins  (M : Mm) : Option (Mm) := F_D_begins_b4 fuel 0 0 M
def F_D_copyOut_b56  : Nat → Int32 → Mm → Option (Mm)
  | 0, _, _ => none
  | n + 1, v1, M => (if 48 ≤ v1 then lt (sI M 30 0 33 (M.1 30 0 31)) fun M2 => lt (sL M2 30 0 40 (M2.2 30 0 39)) fun M3 => some M3 else bnd v1 48 (bnd v1 48 (lt (sI M 54 0 (v1 : Int32).toNatClampNeg (M.1 51 0 (v1 : Int32).toNatClampNeg)) fun M6 => lt (v1 + 1) fun n7 => (F_D_copyOut_b56 n) n7 M6)))
def F_D_copyOut_b28  : Nat → Int32 → Mm → Option (Mm)
  | 0, _, _ => none
  | n + 1, v1, M => (if (M.1 30 0 31) ≤ v1 then F_D_copyOut_b56 fuel 0 M else bnd v1 20 (bnd v1 20 (lt (sI M 53 0 (v1 : Int32).toNatClampNeg (M.1 50 0 (v1 : Int32).toNatClampNeg)) fun M11 => lt (v1 + 1) fun n12 => (F_D_copyOut_b28 n) n12 M11)))
def F_D_copyOut_b2  : Nat → Int32 → Mm → Option (Mm)
  | 0, _, _ => none
  | n + 1, v1, M => (if 12 ≤ v1 then F_D_copyOut_b28 fuel 0 M else bnd v1 14 (bnd v1 12 (lt (sI M 52 0 (v1 : Int32).toNatClampNeg (M.1 49 0 (v1 : Int32).toNatClampNeg)) fun M16 => lt (v1 + 1) fun n17 => (F_D_copyOut_b2 n) n17 M16)))
def F_D_copyOut  (M : Mm) : Option (Mm) := F_D_copyOut_b2 fuel 0 M
def F_D_hasRaw_b36  : Nat → Int32 → Int32 → Mm → Option (Int32 × Mm)
  | 0, _, _, _ => none
  | n + 1, v1, v2, M => (if (M.1 30 0 33) ≤ v2 then some (0, M) else (if v1 = 0 then some (0, M) else bnd v2 20 (lt (P_D_in (M.1 53 0 (v2 : Int32).toNatClampNeg) 1000 1099 M) fun r5 => (if r5 = 0 then lt (v2 + 1) fun n7 => (F_D_hasRaw_b36 n) v1 n7 M else some (1, M)))))
def F_D_hasRaw_b2  : Nat → Int32 → Int32 → Mm → Option (Int32 × Mm)
  | 0, _, _, _ => none
  | n + 1, v1, v2, M => (if 12 ≤ v2 then F_D_hasRaw_b36 fuel v1 0 M else bnd v2 12 (lt (P_D_in (M.1 52 0 (v2 : Int32).toNatClampNeg) 1000 1099 M) fun r11 => (if r11 = 0 then lt (v2 + 1) fun n13 => (F_D_hasRaw_b2 n) v1 n13 M else some (1, M))))
def F_D_hasRaw (v1 : Int32) (M : Mm) : Option (Int32 × Mm) := F_D_hasRaw_b2 fuel v1 0 M
def F_D_touches_b48 (K2 : Int32 → Int32 → Int32 → Mm → Option (Mm)) (v1 : Int32) (v2 : Int32) (v3 : Int32) (M : Mm) : Option (Mm) := lt (v3 + 1) fun n1 => K2 v1 v2 n1 M
def F_D_touches_b45 (K2 : Int32 → Int32 → Int32 → Mm → Option (Mm)) (v1 : Int32) (v2 : Int32) (v3 : Int32) (s1 : Int32) (s2 : Int32) (s3 : Int32) (s4 : Int32) (M : Mm) : Option (Mm) := bnd s1 48 (lt (sI M 51 0 (s1 : Int32).toNatClampNeg (s2 ||| (s3 ||| s4))) fun M3 => F_D_touches_b48 K2 v1 v2 v3 M3)
def F_D_touches_b2  : Nat → Int32 → Int32 → Int32 → Mm → Option (Mm)
  | 0, _, _, _, _ => none
  | n + 1, v1, v2, v3, M => (if 48 ≤ v3 then some M else (if (lg_cmp ((M.2 30 0 39 : Int64) >>> ((v3 : Int32).toInt64 &&& 63) &&& 1) 1) = 0 then bnd v3 48 (lt (P_D_isWide v2 M) fun r8 => (if r8 = 0 then F_D_touches_b45 (F_D_touches_b2 n) v1 v2 v3 v3 (M.1 51 0 (v3 : Int32).toNatClampNeg) ((1 : Int32) <<< (v1 &&& 31)) 0 M else F_D_touches_b45 (F_D_touches_b2 n) v1 v2 v3 v3 (M.1 51 0 (v3 : Int32).toNatClampNeg) ((1 : Int32) <<< (v1 &&& 31)) ((2 : Int32) <<< (v1 &&& 31)) M)) else F_D_touches_b48 (F_D_touches_b2 n) v1 v2 v3 M))
def F_D_touches (v1 : Int32) (v2 : Int32) (M : Mm) : Option (Mm) := F_D_touches_b2 fuel v1 v2 0 M
def F_D_go_b44  (v2 : Int32) (M : Mm) : Option (Mm) := bv (F_D_meet v2 M) (fun M2 => some M2)
def F_D_go (v1 : Int32) (v2 : Int32) (M : Mm) : Option (Mm) := (if (M.1 30 0 34) ≤ 0 then (if v2 < (M.1 30 0 11) then (if v1 < v2 then F_D_go_b44 v2 M else bd (F_D_hasRaw 1 M) (fun r8 M7 => (if r8 = 0 then F_D_go_b44 v2 M7 else bv (F_D_fail 8 v1 M7) (fun M11 => some M11)))) else bv (F_D_fail 5 v1 M) (fun M13 => some M13)) else some M)
def F_D_back_b340 (K64 : Int32 → Int32 → Int32 → Mm → Option (Mm)) (v1 : Int32) (v3 : Int32) (v4 : Int32) (M : Mm) : Option (Mm) := lt (v4 + 1) fun n1 => K64 v1 v3 n1 M
def F_D_back_b194 (K64 : Int32 → Int32 → Int32 → Mm → Option (Mm)) (K119 : Int32 → Int32 → Int32 → Int32 → Mm → Option (Mm)) (v1 : Int32) (v3 : Int32) (v4 : Int32) (v5 : Int32) (M : Mm) : Option (Mm) := lt (v5 + 1) fun n2 => K119 v1 v3 v4 n2 M
def F_D_back_b170 (K64 : Int32 → Int32 → Int32 → Mm → Option (Mm)) (K119 : Int32 → Int32 → Int32 → Int32 → Mm → Option (Mm)) (v1 : Int32) (v3 : Int32) (v4 : Int32) (v5 : Int32) (s1 : Int32) (s2 : Int32) (M : Mm) : Option (Mm) := bnd s1 12 (lt (sI M 52 0 (s1 : Int32).toNatClampNeg s2) fun M4 => bnd v5 12 ((if (M4.1 52 0 (v5 : Int32).toNatClampNeg) = ((2000 : Int32) + v3) then bnd v5 12 (lt (sI M4 52 0 (v5 : Int32).toNatClampNeg 0) fun M8 => F_D_back_b194 K64 K119 v1 v3 v4 v5 M8) else F_D_back_b194 K64 K119 v1 v3 v4 v5 M4)))
def F_D_back_b244 (K64 : Int32 → Int32 → Int32 → Mm → Option (Mm)) (K203 : Int32 → Int32 → Int32 → Int32 → Mm → Option (Mm)) (v1 : Int32) (v3 : Int32) (v4 : Int32) (v5 : Int32) (s1 : Int32) (s2 : Int32) (M : Mm) : Option (Mm) := bnd s1 20 (lt (sI M 53 0 (s1 : Int32).toNatClampNeg s2) fun M10 => lt (v5 + 1) fun n11 => K203 v1 v3 v4 n11 M10)
def F_D_back_b324 (K64 : Int32 → Int32 → Int32 → Mm → Option (Mm)) (K273 : Int32 → Int32 → Int32 → Int32 → Mm → Option (Mm)) (v1 : Int32) (v3 : Int32) (v4 : Int32) (v5 : Int32) (s1 : Int32) (s2 : Int32) (M : Mm) : Option (Mm) := bnd s1 48 (lt (sI M 54 0 (s1 : Int32).toNatClampNeg s2) fun M13 => lt (v5 + 1) fun n14 => K273 v1 v3 v4 n14 M13)
def F_D_back_b273 (K64 : Int32 → Int32 → Int32 → Mm → Option (Mm)) : Nat → Int32 → Int32 → Int32 → Int32 → Mm → Option (Mm)
  | 0, _, _, _, _, _ => none
  | n + 1, v1, v3, v4, v5, M => (if 48 ≤ v5 then bv (F_D_go v1 (v4 + 1) M) (fun M17 => F_D_back_b340 K64 v1 v3 v4 M17) else (if (lg_cmp ((M.2 30 0 40 : Int64) >>> ((v5 : Int32).toInt64 &&& 63) &&& 1) 1) = 0 then bnd ((48 : Int32) * v4 + v5) 2304 (bnd v3 48 (F_D_back_b324 K64 (F_D_back_b273 K64 n) v1 v3 v4 v5 v5 ((M.1 46 0 ((48 : Int32) * v4 + v5 : Int32).toNatClampNeg) ||| (M.1 51 0 (v3 : Int32).toNatClampNeg)) M)) else F_D_back_b324 K64 (F_D_back_b273 K64 n) v1 v3 v4 v5 v5 0 M))
def F_D_back_b203 (K64 : Int32 → Int32 → Int32 → Mm → Option (Mm)) : Nat → Int32 → Int32 → Int32 → Int32 → Mm → Option (Mm)
  | 0, _, _, _, _, _ => none
  | n + 1, v1, v3, v4, v5, M => (if (M.1 30 0 31) ≤ v5 then lt (sI M 30 0 33 (M.1 30 0 31)) fun M22 => bnd v4 48 (lt (sL M22 30 0 40 (M22.2 47 0 (v4 : Int32).toNatClampNeg)) fun M24 => F_D_back_b273 K64 fuel v1 v3 v4 0 M24) else bnd v5 20 ((if (M.1 50 0 (v5 : Int32).toNatClampNeg) = ((2000 : Int32) + v3) then F_D_back_b244 K64 (F_D_back_b203 K64 n) v1 v3 v4 v5 v5 0 M else bnd v5 20 (F_D_back_b244 K64 (F_D_back_b203 K64 n) v1 v3 v4 v5 v5 (M.1 50 0 (v5 : Int32).toNatClampNeg) M))))
def F_D_back_b119 (K64 : Int32 → Int32 → Int32 → Mm → Option (Mm)) : Nat → Int32 → Int32 → Int32 → Int32 → Mm → Option (Mm)
  | 0, _, _, _, _, _ => none
  | n + 1, v1, v3, v4, v5, M => (if 12 ≤ v5 then F_D_back_b203 K64 fuel v1 v3 v4 0 M else bnd v3 48 ((if ((M.1 51 0 (v3 : Int32).toNatClampNeg) >>> (v5 &&& 31) &&& 1) = 1 then bnd v5 14 (F_D_back_b170 K64 (F_D_back_b119 K64 n) v1 v3 v4 v5 v5 (M.1 49 0 (v5 : Int32).toNatClampNeg) M) else bnd ((12 : Int32) * v4 + v5) 576 (F_D_back_b170 K64 (F_D_back_b119 K64 n) v1 v3 v4 v5 v5 (M.1 43 0 ((12 : Int32) * v4 + v5 : Int32).toNatClampNeg) M))))
def F_D_back_b64  : Nat → Int32 → Int32 → Int32 → Mm → Option (Mm)
  | 0, _, _, _, _ => none
  | n + 1, v1, v3, v4, M => (if (M.1 30 0 11) ≤ v4 then some M else (if (M.1 30 0 34) = 0 then bnd v4 48 ((if (M.1 33 0 (v4 : Int32).toNatClampNeg) = 15 then bnd v4 48 ((if (M.1 35 0 (v4 : Int32).toNatClampNeg) = v3 then bnd v4 48 ((if (M.1 41 0 (v4 : Int32).toNatClampNeg) = 0 then F_D_back_b340 (F_D_back_b64 n) v1 v3 v4 M else F_D_back_b119 (F_D_back_b64 n) fuel v1 v3 v4 0 M)) else F_D_back_b340 (F_D_back_b64 n) v1 v3 v4 M)) else F_D_back_b340 (F_D_back_b64 n) v1 v3 v4 M)) else some M))
def F_D_back (v1 : Int32) (v2 : Int32) (M : Mm) : Option (Mm) := bnd v2 14 (lt ((M.1 49 0 (v2 : Int32).toNatClampNeg) - 2000 : Int32) fun n42 => (if 0 ≤ n42 then (if (lg_cmp ((M.2 30 0 39 : Int64) >>> ((n42 : Int32).toInt64 &&& 63) &&& 1) 0) = 0 then bv (F_D_fail 7 v1 M) (fun M51 => some M51) else bv (F_D_touches v2 0 M) (fun M46 => bnd v1 48 (bnd v1 48 (lt (sL M46 48 0 (v1 : Int32).toNatClampNeg ((M46.2 48 0 (v1 : Int32).toNatClampNeg) ||| ((1 : Int64) <<< ((n42 : Int32).toInt64 &&& 63)))) fun M49 => F_D_back_b64 fuel v1 n42 0 M49)))) else bv (F_D_fail 2 v1 M) (fun M53 => some M53)))
def F_D_put (v1 : Int32) (M : Mm) : Option (Int32 × Mm) := bnd (M.1 30 0 31) 20 (lt (sI M 50 0 (M.1 30 0 31 : Int32).toNatClampNeg v1) fun M2 => lt (sI M2 30 0 31 ((M2.1 30 0 31) + 1)) fun M3 => lt (P_D_isWide v1 M3) fun r5 => (if r5 = 0 then lt (sI M3 30 0 32 ((M3.1 30 0 32) + 1)) fun M7 => some (1, M7) else lt (sI M3 30 0 32 ((M3.1 30 0 32) + 2)) fun M8 => some (1, M8)))
def F_D_top (v1 : Int32) (M : Mm) : Option (Int32 × Mm) := (if (M.1 30 0 31) ≤ v1 then some ((-1), M) else bnd ((M.1 30 0 31) - 1 - v1) 20 (some (M.1 50 0 ((M.1 30 0 31) - 1 - v1 : Int32).toNatClampNeg, M)))
def F_D_drop  (M : Mm) : Option (Mm) := lt (sI M 30 0 31 ((M.1 30 0 31) - 1)) fun M1 => bnd (M1.1 30 0 31) 20 (lt (P_D_isWide (M1.1 50 0 (M1.1 30 0 31 : Int32).toNatClampNeg) M1) fun r4 => (if r4 = 0 then lt (sI M1 30 0 32 ((M1.1 30 0 32) - 1)) fun M6 => some M6 else lt (sI M1 30 0 32 ((M1.1 30 0 32) - 2)) fun M7 => some M7))
def F_D_single (v1 : Int32) (M : Mm) : Option (Int32 × Mm) := (if (M.1 30 0 31) ≤ v1 then some (0, M) else bnd ((M.1 30 0 31) - 1 - v1) 20 (lt (P_D_isWide (M.1 50 0 ((M.1 30 0 31) - 1 - v1 : Int32).toNatClampNeg) M) fun r4 => (if r4 = 0 then some (1, M) else some (0, M))))
def F_D_moves_b93  (v2 : Int32) (v3 : Int32) (M : Mm) : Option (Int32 × Mm) := bv (F_D_touches v2 v3 M) (fun M2 => bd (F_D_put v3 M2) (fun r5 M4 => bnz r5 (some (r5, M4))))
def F_D_moves_b172  (v2 : Int32) (v3 : Int32) (M : Mm) : Option (Int32 × Mm) := bnd v2 14 (lt (sI M 49 0 (v2 : Int32).toNatClampNeg v3) fun M8 => lt (P_D_isWide v3 M8) fun r10 => (if r10 = 0 then some (1, M8) else bnd (v2 + 1) 14 (lt (sI M8 49 0 (v2 + 1 : Int32).toNatClampNeg 0) fun M13 => some (1, M13))))
def F_D_moves_b135  (v2 : Int32) (v3 : Int32) (M : Mm) : Option (Int32 × Mm) := bv (F_D_drop M) (fun M15 => bv (F_D_touches v2 v3 M15) (fun M17 => (if v2 ≤ 0 then F_D_moves_b172 v2 v3 M17 else bnd (v2 - 1) 14 (lt (P_D_isWide (M17.1 49 0 (v2 - 1 : Int32).toNatClampNeg) M17) fun r21 => (if r21 = 0 then F_D_moves_b172 v2 v3 M17 else bnd (v2 - 1) 14 (lt (sI M17 49 0 (v2 - 1 : Int32).toNatClampNeg 0) fun M24 => F_D_moves_b172 v2 v3 M24))))))
def F_D_moves_b336   (M : Mm) : Option (Int32 × Mm) := bd (F_D_single 0 M) (fun r27 M26 => (if r27 = 0 then some (0, M26) else bd (F_D_single 1 M26) (fun r31 M30 => (if r31 = 0 then some (0, M30) else bd (F_D_top 1 M30) (fun r35 M34 => bd (F_D_top 0 M34) (fun r38 M37 => bd (F_D_put r35 M37) (fun r41 M40 => bd (F_D_put r38 M40) (fun r44 M43 => bnz r44 (some (r44, M43))))))))))
def F_D_moves (v1 : Int32) (v2 : Int32) (M : Mm) : Option (Int32 × Mm) := (if v1 = 0 then some (1, M) else (if v1 = 1 then bd (F_D_put v2 M) (fun r60 M59 => bnz r60 (some (r60, M59))) else (if v1 = 2 then bnd v2 14 (lt (M.1 49 0 (v2 : Int32).toNatClampNeg : Int32) fun n63 => (if n63 = 0 then some (0, M) else (if 2000 ≤ n63 then some (0, M) else lt (P_D_isWide n63 M) fun r67 => (if r67 = 0 then F_D_moves_b93 v2 n63 M else (if (v2 + 1) < (M.1 30 0 15) then F_D_moves_b93 v2 n63 M else some (0, M)))))) else (if v1 = 3 then bd (F_D_top 0 M) (fun r72 M71 => (if r72 < 1 then some (0, M71) else lt (P_D_isWide r72 M71) fun r75 => (if r75 = 0 then F_D_moves_b135 v2 r72 M71 else (if (v2 + 1) < (M71.1 30 0 15) then F_D_moves_b135 v2 r72 M71 else some (0, M71))))) else (if v1 = 4 then bd (F_D_single 0 M) (fun r80 M79 => (if r80 = 0 then some (0, M79) else bv (F_D_drop M79) (fun M83 => some (1, M83)))) else (if v1 = 5 then bd (F_D_single 0 M) (fun r86 M85 => (if r86 = 0 then some (0, M85) else bd (F_D_top 0 M85) (fun r90 M89 => bd (F_D_put r90 M89) (fun r93 M92 => (if r93 = 0 then some (0, M92) else some (1, M92)))))) else (if v1 = 6 then bd (F_D_single 0 M) (fun r97 M96 => (if r97 = 0 then some (0, M96) else bd (F_D_single 1 M96) (fun r101 M100 => (if r101 = 0 then some (0, M100) else bd (F_D_top 0 M100) (fun r105 M104 => bd (F_D_top 1 M104) (fun r108 M107 => bv (F_D_drop M107) (fun M110 => bv (F_D_drop M110) (fun M112 => bd (F_D_put r105 M112) (fun r115 M114 => bd (F_D_put r108 M114) (fun r118 M117 => (if v1 = 7 then some (1, M117) else bd (F_D_put r105 M117) (fun r122 M121 => (if r122 = 0 then some (0, M121) else some (1, M121)))))))))))))) else (if v1 = 7 then bd (F_D_single 0 M) (fun r126 M125 => (if r126 = 0 then some (0, M125) else bd (F_D_single 1 M125) (fun r130 M129 => (if r130 = 0 then some (0, M129) else bd (F_D_top 0 M129) (fun r134 M133 => bd (F_D_top 1 M133) (fun r137 M136 => bv (F_D_drop M136) (fun M139 => bv (F_D_drop M139) (fun M141 => bd (F_D_put r134 M141) (fun r144 M143 => bd (F_D_put r137 M143) (fun r147 M146 => (if v1 = 7 then some (1, M146) else bd (F_D_put r134 M146) (fun r151 M150 => (if r151 = 0 then some (0, M150) else some (1, M150)))))))))))))) else (if (M.1 30 0 31) ≤ 0 then F_D_moves_b336 M else bd (F_D_single 0 M) (fun r49 M48 => (if r49 = 0 then bd (F_D_top 0 M48) (fun r53 M52 => bd (F_D_put r53 M52) (fun r56 M55 => bnz r56 (some (r56, M55)))) else F_D_moves_b336 M48)))))))))))
def F_D_takes (v1 : Int32) (M : Mm) : Option (Int32 × Mm) := (if (M.1 30 0 31) = 0 then some (0, M) else bd (F_D_top 0 M) (fun r4 M3 => (if r4 = v1 then bv (F_D_drop M3) (fun M7 => some (1, M7)) else some (0, M3))))
def F_D_takesRef_b30   (M : Mm) : Option (Int32 × Mm) := bv (F_D_drop M) (fun M2 => some (1, M2))
def F_D_takesRef  (M : Mm) : Option (Int32 × Mm) := (if (M.1 30 0 31) = 0 then some (0, M) else bd (F_D_top 0 M) (fun r6 M5 => (if r6 = 5 then F_D_takesRef_b30 M5 else bd (F_D_top 0 M5) (fun r10 M9 => lt (P_D_isRef r10 M9) fun r12 => (if r12 = 0 then some (0, M9) else F_D_takesRef_b30 M9)))))
def F_D_takesFor (v1 : Int32) (M : Mm) : Option (Int32 × Mm) := (if (M.1 30 0 31) = 0 then some (0, M) else bd (F_D_top 0 M) (fun r4 M3 => bd (F_D_goesFor r4 v1 M3) (fun r7 M6 => (if r7 = 0 then some (0, M6) else bv (F_D_drop M6) (fun M10 => some (1, M10))))))
def F_D_flows (v1 : Int32) (v2 : Int32) (v3 : Int32) (M : Mm) : Option (Int32 × Mm) := (if v1 = 9 then bd (F_D_takes v2 M) (fun r3 M2 => (if r3 = 0 then some (0, M2) else bd (F_D_takes v2 M2) (fun r7 M6 => (if r7 = 0 then some (0, M6) else bd (F_D_put v2 M6) (fun r11 M10 => (if r11 = 0 then some (0, M10) else some (1, M10))))))) else (if v1 = 10 then bd (F_D_takes v2 M) (fun r15 M14 => (if r15 = 0 then some (0, M14) else bd (F_D_put v3 M14) (fun r19 M18 => (if r19 = 0 then some (0, M18) else some (1, M18))))) else (if v1 = 11 then bd (F_D_takes v2 M) (fun r23 M22 => (if r23 = 0 then some (0, M22) else bd (F_D_takes v2 M22) (fun r27 M26 => (if r27 = 0 then some (0, M26) else bd (F_D_put 1 M26) (fun r31 M30 => (if r31 = 0 then some (0, M30) else some (1, M30))))))) else (if v1 = 12 then bd (F_D_takes 1 M) (fun r35 M34 => bnz r35 (some (r35, M34))) else (if v1 = 13 then bd (F_D_takesRef M) (fun r39 M38 => bnz r39 (some (r39, M38))) else (if v1 = 14 then some (1, M) else (if v1 = 15 then some (1, M) else (if v1 = 16 then some (1, M) else (if v1 = 17 then bd (F_D_takes 1 M) (fun r43 M42 => bnz r43 (some (r43, M42))) else (if v1 = 18 then (if (M.1 30 0 14) = 0 then some (1, M) else bd (F_D_takesFor (M.1 30 0 14) M) (fun r48 M47 => (if r48 = 0 then some (0, M47) else some (1, M47)))) else (if v1 = 19 then bd (F_D_takesFor 17 M) (fun r52 M51 => bnz r52 (some (r52, M51))) else some (1, M))))))))))))
def F_D_takesRow (v1 : Int32) (M : Mm) : Option (Int32 × Mm) := bd (F_D_takes v1 M) (fun r3 M2 => (if r3 = 0 then bd (F_D_takes 5 M2) (fun r7 M6 => (if r7 = 0 then some (0, M6) else some (1, M6))) else some (1, M2)))
def F_D_objects_b132 (K102 : Int32 → Int32 → Mm → Option (Int32 × Mm)) (v1 : Int32) (v6 : Int32) (M : Mm) : Option (Int32 × Mm) := lt (v6 + 1) fun n1 => K102 v1 n1 M
def F_D_objects_b102  : Nat → Int32 → Int32 → Mm → Option (Int32 × Mm)
  | 0, _, _, _ => none
  | n + 1, v1, v6, M => (if 12 ≤ v6 then bd (F_D_put ((1000 : Int32) + v1) M) (fun r5 M4 => bnz r5 (some (r5, M4))) else bnd v6 14 ((if (M.1 49 0 (v6 : Int32).toNatClampNeg) = ((1000 : Int32) + v1) then bnd v6 14 (lt (sI M 49 0 (v6 : Int32).toNatClampNeg 0) fun M10 => F_D_objects_b132 (F_D_objects_b102 n) v1 v6 M10) else F_D_objects_b132 (F_D_objects_b102 n) v1 v6 M)))
def F_D_objects_b67  : Nat → Int32 → Int32 → Mm → Option (Int32 × Mm)
  | 0, _, _, _ => none
  | n + 1, v1, v6, M => (if (M.1 30 0 31) ≤ v6 then F_D_objects_b102 fuel v1 0 M else bnd v6 20 ((if (M.1 50 0 (v6 : Int32).toNatClampNeg) = ((1000 : Int32) + v1) then some (0, M) else lt (v6 + 1) fun n14 => (F_D_objects_b67 n) v1 n14 M)))
def F_D_objects_b218 (K186 : Int32 → Int32 → Int32 → Mm → Option (Int32 × Mm)) (v3 : Int32) (v5 : Int32) (v6 : Int32) (M : Mm) : Option (Int32 × Mm) := lt (v6 + 1) fun n15 => K186 v3 v5 n15 M
def F_D_objects_b257 (K227 : Int32 → Int32 → Int32 → Mm → Option (Int32 × Mm)) (v3 : Int32) (v5 : Int32) (v6 : Int32) (M : Mm) : Option (Int32 × Mm) := lt (v6 + 1) fun n16 => K227 v3 v5 n16 M
def F_D_objects_b227  : Nat → Int32 → Int32 → Int32 → Mm → Option (Int32 × Mm)
  | 0, _, _, _, _ => none
  | n + 1, v3, v5, v6, M => (if 12 ≤ v6 then some (1, M) else bnd v6 14 ((if (M.1 49 0 (v6 : Int32).toNatClampNeg) = v5 then bnd v6 14 (lt (sI M 49 0 (v6 : Int32).toNatClampNeg ((16 : Int32) + v3)) fun M21 => F_D_objects_b257 (F_D_objects_b227 n) v3 v5 v6 M21) else F_D_objects_b257 (F_D_objects_b227 n) v3 v5 v6 M)))
def F_D_objects_b186  : Nat → Int32 → Int32 → Int32 → Mm → Option (Int32 × Mm)
  | 0, _, _, _, _ => none
  | n + 1, v3, v5, v6, M => (if (M.1 30 0 31) ≤ v6 then F_D_objects_b227 fuel v3 v5 0 M else bnd v6 20 ((if (M.1 50 0 (v6 : Int32).toNatClampNeg) = v5 then bnd v6 20 (lt (sI M 50 0 (v6 : Int32).toNatClampNeg ((16 : Int32) + v3)) fun M26 => F_D_objects_b218 (F_D_objects_b186 n) v3 v5 v6 M26) else F_D_objects_b218 (F_D_objects_b186 n) v3 v5 v6 M)))
def F_D_objects_b417  (s1 : Int32) (M : Mm) : Option (Int32 × Mm) := bd (F_D_put s1 M) (fun r29 M28 => (if r29 = 0 then some (0, M28) else some (1, M28)))
def F_D_objects_b444  (v3 : Int32) (s1 : Int32) (M : Mm) : Option (Int32 × Mm) := bd (F_D_takesFor s1 M) (fun r33 M32 => (if r33 = 0 then some (0, M32) else bd (F_D_takes 1 M32) (fun r37 M36 => (if r37 = 0 then some (0, M36) else bd (F_D_takesRow v3 M36) (fun r41 M40 => (if r41 = 0 then some (0, M40) else some (1, M40)))))))
def F_D_objects_b496   (M : Mm) : Option (Int32 × Mm) := bv (F_D_drop M) (fun M44 => bd (F_D_put 1 M44) (fun r47 M46 => bnz r47 (some (r47, M46))))
def F_D_objects (v1 : Int32) (v2 : Int32) (v3 : Int32) (v4 : Int32) (M : Mm) : Option (Int32 × Mm) := bd (F_D_top 0 M) (fun r51 M50 => (if v2 = 20 then F_D_objects_b67 fuel v1 0 M50 else (if v2 = 21 then lt (P_D_in r51 1000 1047 M50) fun r57 => (if r57 = 0 then some (0, M50) else bnd (r51 - 1000) 48 ((if (M50.1 34 0 (r51 - 1000 : Int32).toNatClampNeg) = v3 then bv (F_D_drop M50) (fun M62 => F_D_objects_b186 fuel v3 r51 0 M62) else some (0, M50)))) else (if v2 = 22 then bd (F_D_takesFor ((16 : Int32) + v3) M50) (fun r65 M64 => (if r65 = 0 then some (0, M64) else bd (F_D_put v4 M64) (fun r69 M68 => (if r69 = 0 then some (0, M68) else some (1, M68))))) else (if v2 = 23 then bd (F_D_takesFor v4 M50) (fun r73 M72 => (if r73 = 0 then some (0, M72) else bd (F_D_takesFor ((16 : Int32) + v3) M72) (fun r77 M76 => (if r77 = 0 then some (0, M76) else some (1, M76))))) else (if v2 = 24 then bd (F_D_takesFor v3 M50) (fun r81 M80 => (if r81 = 0 then some (0, M80) else bd (F_D_put v4 M80) (fun r85 M84 => (if r85 = 0 then some (0, M84) else some (1, M84))))) else (if v2 = 25 then bd (F_D_takesRef M50) (fun r89 M88 => (if r89 = 0 then some (0, M88) else bd (F_D_put v3 M88) (fun r93 M92 => (if r93 = 0 then some (0, M92) else some (1, M92))))) else (if v2 = 26 then bd (F_D_takes 1 M50) (fun r97 M96 => (if r97 = 0 then some (0, M96) else bd (F_D_put ((64 : Int32) + v3) M96) (fun r101 M100 => (if r101 = 0 then some (0, M100) else some (1, M100))))) else (if v2 = 27 then bd (F_D_takes 1 M50) (fun r105 M104 => (if r105 = 0 then some (0, M104) else bd (F_D_takesRow v3 M104) (fun r109 M108 => (if r109 = 0 then some (0, M108) else (if v3 = 76 then F_D_objects_b417 1 M108 else F_D_objects_b417 (v3 - 64) M108))))) else (if v2 = 28 then (if v3 = 76 then F_D_objects_b444 v3 1 M50 else F_D_objects_b444 v3 (v3 - 64) M50) else (if v2 = 29 then (if r51 = 5 then F_D_objects_b496 M50 else (if r51 < 64 then some (0, M50) else lt (P_D_isRef r51 M50) fun r116 => (if r116 = 0 then some (0, M50) else F_D_objects_b496 M50))) else bv (F_D_touches v3 1 M50) (fun M53 => bnd v3 14 ((if (M53.1 49 0 (v3 : Int32).toNatClampNeg) = 1 then some (1, M53) else some (0, M53)))))))))))))))
def F_D_enters_b137 (K80 : Int32 → Int32 → Mm → Option (Mm)) (v2 : Int32) (v3 : Int32) (M : Mm) : Option (Mm) := lt (v3 + 1) fun n1 => K80 v2 n1 M
def F_D_enters_b80  : Nat → Int32 → Int32 → Mm → Option (Mm)
  | 0, _, _, _ => none
  | n + 1, v2, v3, M => (if (M.1 30 0 11) ≤ v3 then some M else (if (M.1 30 0 34) = 0 then bnd v3 48 ((if (M.1 33 0 (v3 : Int32).toNatClampNeg) = 16 then bnd v3 48 ((if (M.1 41 0 (v3 : Int32).toNatClampNeg) = 0 then F_D_enters_b137 (F_D_enters_b80 n) v2 v3 M else bnd v3 48 ((if (lg_cmp ((M.2 48 0 (v3 : Int32).toNatClampNeg : Int64) >>> ((v2 : Int32).toInt64 &&& 63) &&& 1) 1) = 0 then bnd v3 48 (lt (sI M 42 0 (v3 : Int32).toNatClampNeg (vp_nar .boolean 1)) fun M11 => F_D_enters_b137 (F_D_enters_b80 n) v2 v3 M11) else F_D_enters_b137 (F_D_enters_b80 n) v2 v3 M)))) else F_D_enters_b137 (F_D_enters_b80 n) v2 v3 M)) else some M))
def F_D_enters (v1 : Int32) (v2 : Int32) (M : Mm) : Option (Mm) := (if (lg_cmp ((M.2 30 0 39 : Int64) >>> ((v2 : Int32).toInt64 &&& 63) &&& 1) 1) = 0 then bv (F_D_fail 6 v1 M) (fun M27 => some M27) else bd (F_D_put ((2000 : Int32) + v2) M) (fun r15 M14 => (if (M14.1 30 0 32) ≤ (M14.1 30 0 16) then bv (F_D_copyOut M14) (fun M18 => lt (sL M18 30 0 40 ((M18.2 30 0 40) ||| ((1 : Int64) <<< ((v2 : Int32).toInt64 &&& 63)))) fun M19 => bnd v2 48 (lt (sI M19 54 0 (v2 : Int32).toNatClampNeg 0) fun M21 => bv (F_D_go v1 v2 M21) (fun M23 => F_D_enters_b80 fuel v2 0 M23))) else bv (F_D_fail 3 v1 M14) (fun M25 => some M25))))
def F_D_lookAt_b122 (K75 : Int32 → Int32 → Mm → Option (Mm)) (v1 : Int32) (v2 : Int32) (s1 : Int32) (s2 : Int32) (M : Mm) : Option (Mm) := lt (sI M 30 0 32 (s1 + s2)) fun M1 => lt (v2 + 1) fun n2 => K75 v1 n2 M1
def F_D_lookAt_b269 (K165 : Int32 → Int32 → Mm → Option (Mm)) (v1 : Int32) (v2 : Int32) (M : Mm) : Option (Mm) := lt (v2 + 1) fun n3 => K165 v1 n3 M
def F_D_lookAt_b252 (K165 : Int32 → Int32 → Mm → Option (Mm)) (v1 : Int32) (v2 : Int32) (M : Mm) : Option (Mm) := (if (M.1 30 0 34) = 0 then bnd v2 3 (bv (F_D_meet (M.1 38 0 (v2 : Int32).toNatClampNeg) M) (fun M7 => F_D_lookAt_b269 K165 v1 v2 M7)) else F_D_lookAt_b269 K165 v1 v2 M)
def F_D_lookAt_b239 (K165 : Int32 → Int32 → Mm → Option (Mm)) (v1 : Int32) (v2 : Int32) (M : Mm) : Option (Mm) := (if (M.1 30 0 16) = 0 then bv (F_D_fail 3 v1 M) (fun M10 => F_D_lookAt_b252 K165 v1 v2 M10) else F_D_lookAt_b252 K165 v1 v2 M)
def F_D_lookAt_b463  (v1 : Int32) (v4 : Int32) (M : Mm) : Option (Mm) := bv (F_D_go v1 v4 M) (fun M12 => some M12)
def F_D_lookAt_b446  (v1 : Int32) (v2 : Int32) (v4 : Int32) (M : Mm) : Option (Mm) := lt (P_D_in v2 12 14 M) fun r14 => (if r14 = 0 then (if v2 = 17 then F_D_lookAt_b463 v1 v4 M else some M) else F_D_lookAt_b463 v1 v4 M)
def F_D_lookAt_b434  (v1 : Int32) (v2 : Int32) (v3 : Int32) (v4 : Int32) (M : Mm) : Option (Mm) := (if v2 = 17 then bv (F_D_go v1 v3 M) (fun M19 => F_D_lookAt_b446 v1 v2 v4 M19) else F_D_lookAt_b446 v1 v2 v4 M)
def F_D_lookAt_b359  (v1 : Int32) (v2 : Int32) (v3 : Int32) (v4 : Int32) (s0 : Int32) (M : Mm) : Option (Mm) := (if s0 = 0 then bv (F_D_fail 2 v1 M) (fun M36 => some M36) else (if v2 = 15 then bv (F_D_enters v1 v4 M) (fun M34 => some M34) else (if (M.1 30 0 32) ≤ (M.1 30 0 16) then bv (F_D_copyOut M) (fun M24 => (if v2 = 14 then F_D_lookAt_b434 v1 v2 v3 v4 M24 else lt (P_D_in v2 17 19 M24) fun r27 => (if r27 = 0 then bv (F_D_go v1 (v1 + 1) M24) (fun M30 => F_D_lookAt_b434 v1 v2 v3 v4 M30) else F_D_lookAt_b434 v1 v2 v3 v4 M24))) else bv (F_D_fail 3 v1 M) (fun M32 => some M32))))
def F_D_lookAt_b275  (v1 : Int32) (M : Mm) : Option (Mm) := (if (M.1 30 0 34) ≤ 0 then bnd v1 48 (lt (M.1 33 0 (v1 : Int32).toNatClampNeg : Int32) fun n39 => bnd v1 48 (lt (M.1 34 0 (v1 : Int32).toNatClampNeg : Int32) fun n41 => bnd v1 48 (lt (M.1 35 0 (v1 : Int32).toNatClampNeg : Int32) fun n43 => (if n39 = 16 then bv (F_D_back v1 n41 M) (fun M57 => some M57) else (if 9 ≤ n39 then (if 20 ≤ n39 then bd (F_D_objects v1 n39 n41 n43 M) (fun r49 M48 => F_D_lookAt_b359 v1 n39 n41 n43 r49 M48) else bd (F_D_flows n39 n41 n43 M) (fun r52 M51 => F_D_lookAt_b359 v1 n39 n41 n43 r52 M51)) else bd (F_D_moves n39 n41 M) (fun r55 M54 => F_D_lookAt_b359 v1 n39 n41 n43 r55 M54)))))) else some M)
def F_D_lookAt_b165  : Nat → Int32 → Int32 → Mm → Option (Mm)
  | 0, _, _, _ => none
  | n + 1, v1, v2, M => (if (M.1 30 0 12) ≤ v2 then F_D_lookAt_b275 v1 M else (if (M.1 30 0 34) = 0 then bnd v2 3 ((if v1 < (M.1 36 0 (v2 : Int32).toNatClampNeg) then F_D_lookAt_b269 (F_D_lookAt_b165 n) v1 v2 M else bnd v2 3 ((if (M.1 37 0 (v2 : Int32).toNatClampNeg) ≤ v1 then F_D_lookAt_b269 (F_D_lookAt_b165 n) v1 v2 M else bv (F_D_copyOut M) (fun M65 => lt (sI M65 30 0 33 1) fun M66 => bnd v2 3 (bnd 0 20 (lt (sI M66 53 0 (0 : Int32).toNatClampNeg ((16 : Int32) + (M66.1 39 0 (v2 : Int32).toNatClampNeg))) fun M69 => bd (F_D_hasRaw 0 M69) (fun r72 M71 => (if r72 = 0 then F_D_lookAt_b239 (F_D_lookAt_b165 n) v1 v2 M71 else bv (F_D_fail 8 v1 M71) (fun M75 => F_D_lookAt_b239 (F_D_lookAt_b165 n) v1 v2 M75)))))))))) else F_D_lookAt_b275 v1 M))
def F_D_lookAt_b134  : Nat → Int32 → Int32 → Mm → Option (Mm)
  | 0, _, _, _ => none
  | n + 1, v1, v2, M => (if 48 ≤ v2 then F_D_lookAt_b165 fuel v1 0 M else bnd ((48 : Int32) * v1 + v2) 2304 (bnd v2 48 (lt (sI M 51 0 (v2 : Int32).toNatClampNeg (M.1 46 0 ((48 : Int32) * v1 + v2 : Int32).toNatClampNeg)) fun M79 => lt (v2 + 1) fun n80 => (F_D_lookAt_b134 n) v1 n80 M79)))
def F_D_lookAt_b75  : Nat → Int32 → Int32 → Mm → Option (Mm)
  | 0, _, _, _ => none
  | n + 1, v1, v2, M => (if (M.1 30 0 31) ≤ v2 then F_D_lookAt_b134 fuel v1 0 M else bnd ((12 : Int32) * v1 + v2) 576 (bnd v2 20 (lt (sI M 50 0 (v2 : Int32).toNatClampNeg (M.1 44 0 ((12 : Int32) * v1 + v2 : Int32).toNatClampNeg)) fun M84 => bnd v2 20 (lt (P_D_isWide (M84.1 50 0 (v2 : Int32).toNatClampNeg) M84) fun r87 => (if r87 = 0 then F_D_lookAt_b122 (F_D_lookAt_b75 n) v1 v2 (M84.1 30 0 32) 1 M84 else F_D_lookAt_b122 (F_D_lookAt_b75 n) v1 v2 (M84.1 30 0 32) 2 M84)))))
def F_D_lookAt_b44  : Nat → Int32 → Int32 → Mm → Option (Mm)
  | 0, _, _, _ => none
  | n + 1, v1, v2, M => (if 12 ≤ v2 then F_D_lookAt_b75 fuel v1 0 M else bnd ((12 : Int32) * v1 + v2) 576 (bnd v2 14 (lt (sI M 49 0 (v2 : Int32).toNatClampNeg (M.1 43 0 ((12 : Int32) * v1 + v2 : Int32).toNatClampNeg)) fun M92 => lt (v2 + 1) fun n93 => (F_D_lookAt_b44 n) v1 n93 M92)))
def F_D_lookAt (v1 : Int32) (M : Mm) : Option (Mm) := lt (sI M 30 0 36 ((M.1 30 0 36) + 1)) fun M94 => bnd v1 48 (lt (sI M94 42 0 (v1 : Int32).toNatClampNeg (vp_nar .boolean 0)) fun M96 => lt (sI M96 30 0 32 0) fun M97 => bnd v1 48 (lt (sI M97 30 0 31 (M97.1 45 0 (v1 : Int32).toNatClampNeg)) fun M99 => bnd v1 48 (lt (sL M99 30 0 39 (M99.2 47 0 (v1 : Int32).toNatClampNeg)) fun M101 => F_D_lookAt_b44 fuel v1 0 M101)))
def F_D_verify_b220 (K165 : Int32 → Mm → Option (Int32 × Mm)) (v1 : Int32) (M : Mm) : Option (Int32 × Mm) := lt (v1 + 1) fun n1 => K165 n1 M
def F_D_verify_b165  : Nat → Int32 → Mm → Option (Int32 × Mm)
  | 0, _, _ => none
  | n + 1, v1, M => (if (M.1 30 0 11) ≤ v1 then some (M.1 30 0 34, M) else bnd v1 48 ((if (M.1 41 0 (v1 : Int32).toNatClampNeg) = 0 then F_D_verify_b220 (F_D_verify_b165 n) v1 M else lt (sI M 30 0 38 ((M.1 30 0 38) + 1)) fun M5 => bnd v1 48 ((if (M5.1 33 0 (v1 : Int32).toNatClampNeg) = 15 then bnd v1 48 (lt (sL M5 30 0 41 ((M5.2 30 0 41) ||| ((1 : Int64) <<< ((M5.1 35 0 (v1 : Int32).toNatClampNeg : Int32).toInt64 &&& 63)))) fun M9 => F_D_verify_b220 (F_D_verify_b165 n) v1 M9) else F_D_verify_b220 (F_D_verify_b165 n) v1 M5)))))
def F_D_verify_b153   (M : Mm) : Option (Int32 × Mm) := lt (sI M 30 0 38 0) fun M10 => lt (sL M10 30 0 41 0) fun M11 => F_D_verify_b165 fuel 0 M11
def F_D_verify_b136   (M : Mm) : Option (Int32 × Mm) := (if (M.1 30 0 34) = 0 then lt (sI M 30 0 37 ((M.1 30 0 37) + 1)) fun M13 => F_D_verify_b153 M13 else F_D_verify_b153 M)
def F_D_verify_b133 (K65 : Mm → Option (Int32 × Mm))  (M : Mm) : Option (Int32 × Mm) := K65 M
def F_D_verify_b97 (K65 : Mm → Option (Int32 × Mm)) (v1 : Int32) (M : Mm) : Option (Int32 × Mm) := (if v1 = (M.1 30 0 11) then F_D_verify_b136 M else (if (M.1 30 0 36) = 2999 then bv (F_D_fail 9 v1 M) (fun M19 => F_D_verify_b133 K65 M19) else bv (F_D_lookAt v1 M) (fun M17 => F_D_verify_b133 K65 M17)))
def F_D_verify_b74 (K65 : Mm → Option (Int32 × Mm)) : Nat → Int32 → Mm → Option (Int32 × Mm)
  | 0, _, _ => none
  | n + 1, v1, M => (if (M.1 30 0 11) ≤ v1 then F_D_verify_b97 K65 v1 M else bnd v1 48 ((if (M.1 42 0 (v1 : Int32).toNatClampNeg) = 0 then lt (v1 + 1) fun n23 => (F_D_verify_b74 K65 n) n23 M else F_D_verify_b97 K65 v1 M)))
def F_D_verify_b65  : Nat → Mm → Option (Int32 × Mm)
  | 0, _ => none
  | n + 1, M => (if (M.1 30 0 34) = 0 then F_D_verify_b74 (F_D_verify_b65 n) fuel 0 M else F_D_verify_b136 M)
def F_D_verify_b17  : Nat → Int32 → Mm → Option (Int32 × Mm)
  | 0, _, _ => none
  | n + 1, v1, M => (if 48 ≤ v1 then bv (F_D_form M) (fun M27 => (if (M27.1 30 0 34) = 0 then bv (F_D_begins M27) (fun M30 => F_D_verify_b65 fuel M30) else F_D_verify_b65 fuel M27)) else bnd v1 48 (lt (sI M 41 0 (v1 : Int32).toNatClampNeg (vp_nar .boolean 0)) fun M32 => bnd v1 48 (lt (sI M32 42 0 (v1 : Int32).toNatClampNeg (vp_nar .boolean 0)) fun M34 => bnd v1 48 (lt (sL M34 48 0 (v1 : Int32).toNatClampNeg 0) fun M36 => lt (v1 + 1) fun n37 => (F_D_verify_b17 n) n37 M36))))
def F_D_verify  (M : Mm) : Option (Int32 × Mm) := lt (sI M 30 0 34 0) fun M38 => lt (sI M38 30 0 35 ((-1))) fun M39 => lt (sI M39 30 0 36 0) fun M40 => F_D_verify_b17 fuel 0 M40
def F_D_place  (M : Mm) : Option (Int32 × Mm) := (if (M.1 30 0 34) = 0 then some ((-1), M) else some (M.1 30 0 35, M))
def P_D_place  (M : Mm) : Int32 := (if (M.1 30 0 34) = 0 then (-1) else M.1 30 0 35)
theorem p_D_place  (M : Mm) : F_D_place M = some (P_D_place M, M) := by
  unfold F_D_place P_D_place
  refine q_i ?_ ?_
  · rfl
  · rfl
def F_D_state_b164 (K91 : Int32 → Int32 → Int32 → Int32 → Mm → Option (Int32 × Mm)) (v1 : Int32) (v2 : Int32) (v3 : Int32) (v4 : Int32) (M : Mm) : Option (Int32 × Mm) := lt (v4 + 1) fun n1 => K91 v1 v2 v3 n1 M
def F_D_state_b161 (K91 : Int32 → Int32 → Int32 → Int32 → Mm → Option (Int32 × Mm)) (v1 : Int32) (v2 : Int32) (v3 : Int32) (v4 : Int32) (M : Mm) : Option (Int32 × Mm) := lt (v3 + 1) fun n2 => F_D_state_b164 K91 v1 v2 n2 v4 M
def F_D_state_b134 (K91 : Int32 → Int32 → Int32 → Int32 → Mm → Option (Int32 × Mm)) (v1 : Int32) (v2 : Int32) (v3 : Int32) (v4 : Int32) (M : Mm) : Option (Int32 × Mm) := (if v2 = ((40 : Int32) + v3) then (if 6 ≤ v3 then F_D_state_b161 K91 v1 v2 v3 v4 M else bnd ((48 : Int32) * v1 + v4) 2304 (some (M.1 46 0 ((48 : Int32) * v1 + v4 : Int32).toNatClampNeg, M))) else F_D_state_b161 K91 v1 v2 v3 v4 M)
def F_D_state_b91  : Nat → Int32 → Int32 → Int32 → Int32 → Mm → Option (Int32 × Mm)
  | 0, _, _, _, _, _ => none
  | n + 1, v1, v2, v3, v4, M => (if 48 ≤ v4 then (if v2 = 32 then bnd v1 48 (some (M.1 45 0 (v1 : Int32).toNatClampNeg, M)) else (if v2 = 33 then some (v3, M) else some ((-1), M))) else bnd v1 48 ((if (lg_cmp ((M.2 47 0 (v1 : Int32).toNatClampNeg : Int64) >>> ((v4 : Int32).toInt64 &&& 63) &&& 1) 0) = 0 then F_D_state_b164 (F_D_state_b91 n) v1 v2 v3 v4 M else (if v2 = ((34 : Int32) + v3) then (if 6 ≤ v3 then F_D_state_b134 (F_D_state_b91 n) v1 v2 v3 v4 M else some (v4, M)) else F_D_state_b134 (F_D_state_b91 n) v1 v2 v3 v4 M))))
def F_D_state (v1 : Int32) (v2 : Int32) (M : Mm) : Option (Int32 × Mm) := lt (P_D_in v1 0 47 M) fun r15 => (if r15 = 0 then some ((-1), M) else bnd v1 48 ((if (M.1 41 0 (v1 : Int32).toNatClampNeg) = 0 then some ((-1), M) else lt (P_D_in v2 0 11 M) fun r20 => (if r20 = 0 then lt (P_D_in v2 16 27 M) fun r23 => (if r23 = 0 then F_D_state_b91 fuel v1 v2 0 0 M else bnd v1 48 ((if (M.1 45 0 (v1 : Int32).toNatClampNeg) ≤ (v2 - 16) then some ((-1), M) else bnd ((12 : Int32) * v1 + v2 - 16) 576 (some (M.1 44 0 ((12 : Int32) * v1 + v2 - 16 : Int32).toNatClampNeg, M))))) else bnd ((12 : Int32) * v1 + v2) 576 (some (M.1 43 0 ((12 : Int32) * v1 + v2 : Int32).toNatClampNeg, M))))))
def F_D_join_b38  (v1 : Int32) (v2 : Int32) (M : Mm) : Option (Int32 × Mm) := bd (F_D_joined v1 v2 M) (fun r3 M2 => some (r3, M2))
def F_D_join_b17  (v1 : Int32) (v2 : Int32) (M : Mm) : Option (Int32 × Mm) := lt (P_D_in v2 0 5 M) fun r5 => (if r5 = 0 then lt (P_D_isRef v2 M) fun r8 => (if r8 = 0 then some ((-1), M) else F_D_join_b38 v1 v2 M) else F_D_join_b38 v1 v2 M)
def F_D_join (v1 : Int32) (v2 : Int32) (M : Mm) : Option (Int32 × Mm) := lt (P_D_in v1 0 5 M) fun r11 => (if r11 = 0 then lt (P_D_isRef v1 M) fun r14 => (if r14 = 0 then some ((-1), M) else F_D_join_b17 v1 v2 M) else F_D_join_b17 v1 v2 M)
def F_D_goes_b38  (v1 : Int32) (v2 : Int32) (M : Mm) : Option (Int32 × Mm) := bd (F_D_goesFor v1 v2 M) (fun r3 M2 => (if r3 = 0 then some (0, M2) else some (1, M2)))
def F_D_goes_b17  (v1 : Int32) (v2 : Int32) (M : Mm) : Option (Int32 × Mm) := lt (P_D_in v2 0 5 M) fun r6 => (if r6 = 0 then lt (P_D_isRef v2 M) fun r9 => (if r9 = 0 then some ((-1), M) else F_D_goes_b38 v1 v2 M) else F_D_goes_b38 v1 v2 M)
def F_D_goes (v1 : Int32) (v2 : Int32) (M : Mm) : Option (Int32 × Mm) := lt (P_D_in v1 0 5 M) fun r12 => (if r12 = 0 then lt (P_D_isRef v1 M) fun r15 => (if r15 = 0 then some ((-1), M) else F_D_goes_b17 v1 v2 M) else F_D_goes_b17 v1 v2 M)
def F_D_count_b4  : Nat → Int32 → Int32 → Int32 → Mm → Option (Int32 × Mm)
  | 0, _, _, _, _ => none
  | n + 1, v1, v2, v3, M => (if 48 ≤ v3 then (if v1 = 0 then some (M.1 30 0 2, M) else (if v1 = 1 then some (M.1 30 0 11, M) else (if v1 = 2 then some (M.1 30 0 12, M) else (if v1 = 3 then some (M.1 30 0 13, M) else (if v1 = 4 then some (M.1 30 0 36, M) else (if v1 = 5 then some (M.1 30 0 38, M) else (if v1 = 6 then some (M.1 30 0 37, M) else (if v1 = 7 then some (v2, M) else some ((-1), M))))))))) else lt (v2 + (((M.2 30 0 41 : Int64) >>> ((v3 : Int32).toInt64 &&& 63) &&& 1 : Int64).toInt32) : Int32) fun n3 => lt (v3 + 1) fun n4 => (F_D_count_b4 n) v1 n3 n4 M)
def F_D_count (v1 : Int32) (M : Mm) : Option (Int32 × Mm) := F_D_count_b4 fuel v1 0 0 M
