def F_T_hasClass (v1 : Int32) (M : Mm) : Option (Int32 × Mm) := (if v1 < 0 then some (0, M) else (if (M.1 1 0 2) ≤ v1 then some (0, M) else some (1, M)))
def P_T_hasClass (v1 : Int32) (M : Mm) : Int32 := (if v1 < 0 then 0 else (if (M.1 1 0 2) ≤ v1 then 0 else 1))
theorem p_T_hasClass (v1 : Int32) (M : Mm) : F_T_hasClass v1 M = some (P_T_hasClass v1 M, M) := by
  unfold F_T_hasClass P_T_hasClass
  refine q_i ?_ ?_
  · rfl
  · refine q_i ?_ ?_
    · rfl
    · rfl
theorem z_T_hasClass (v1 : Int32) (M : Mm) : zo (P_T_hasClass v1 M) := by
  rw [P_T_hasClass]
  refine zo_i ?_ ?_
  · exact zo_0
  · refine zo_i ?_ ?_
    · exact zo_0
    · exact zo_1
def F_T_append (v1 : Int32) (v2 : Int32) (M : Mm) : Option (Int32 × Mm) := bnd v1 10 (bnd (M.1 1 0 2) 10 (lt (sI M 2 0 (M.1 1 0 2 : Int32).toNatClampNeg ((M.1 2 0 (v1 : Int32).toNatClampNeg) ||| ((1 : Int32) <<< ((M.1 1 0 2) &&& 31)))) fun M3 => bnd (M3.1 1 0 2) 10 (lt (sI M3 3 0 (M3.1 1 0 2 : Int32).toNatClampNeg (vp_nar .boolean v2)) fun M5 => lt (sI M5 1 0 2 ((M5.1 1 0 2) + 1)) fun M6 => some ((M6.1 1 0 2) - 1, M6))))
def F_G_cls (v1 : Int32) (v2 : Int32) (M : Mm) : Option (Int32 × Mm) := lt (P_T_hasClass v1 M) fun r2 => (if r2 = 0 then some ((-1), M) else (if (M.1 1 0 2) = 10 then some ((-2), M) else bd (F_T_append v1 v2 M) (fun r7 M6 => some (r7, M6))))
def F_T_isRef (v1 : Int32) (M : Mm) : Option (Int32 × Mm) := lt (v1 >>> ((6 : Int32) &&& 31) : Int32) fun n1 => (if n1 < 0 then some (0, M) else (if n1 ≤ 3 then lt (v1 &&& 63 : Int32) fun n4 => (if n4 = 12 then (if n1 ≤ 0 then some (0, M) else some (1, M)) else (if n4 < 16 then some (0, M) else (if ((16 : Int32) + (M.1 1 0 2)) ≤ n4 then some (0, M) else some (1, M)))) else some (0, M)))
def P_T_isRef (v1 : Int32) (M : Mm) : Int32 := lt (v1 >>> ((6 : Int32) &&& 31) : Int32) fun n1 => (if n1 < 0 then 0 else (if n1 ≤ 3 then lt (v1 &&& 63 : Int32) fun n4 => (if n4 = 12 then (if n1 ≤ 0 then 0 else 1) else (if n4 < 16 then 0 else (if ((16 : Int32) + (M.1 1 0 2)) ≤ n4 then 0 else 1))) else 0))
theorem p_T_isRef (v1 : Int32) (M : Mm) : F_T_isRef v1 M = some (P_T_isRef v1 M, M) := by
  unfold F_T_isRef P_T_isRef
  refine q_l ?_
  refine q_i ?_ ?_
  · rfl
  · refine q_i ?_ ?_
    · refine q_l ?_
      refine q_i ?_ ?_
      · refine q_i ?_ ?_
        · rfl
        · rfl
      · refine q_i ?_ ?_
        · rfl
        · refine q_i ?_ ?_
          · rfl
          · rfl
    · rfl
theorem z_T_isRef (v1 : Int32) (M : Mm) : zo (P_T_isRef v1 M) := by
  rw [P_T_isRef]
  refine zo_l ?_
  refine zo_i ?_ ?_
  · exact zo_0
  · refine zo_i ?_ ?_
    · refine zo_l ?_
      refine zo_i ?_ ?_
      · refine zo_i ?_ ?_
        · exact zo_0
        · exact zo_1
      · refine zo_i ?_ ?_
        · exact zo_0
        · refine zo_i ?_ ?_
          · exact zo_0
          · exact zo_1
    · exact zo_0
def F_T_isValue_b10  (v1 : Int32) (M : Mm) : Option (Int32 × Mm) := lt (P_T_isRef v1 M) fun r2 => (if r2 = 0 then some (0, M) else some (1, M))
def P_T_isValue_b10 (v1 : Int32) (M : Mm) : Int32 := lt (P_T_isRef v1 M) fun r2 => (if r2 = 0 then 0 else 1)
theorem p_T_isValue_b10 (v1 : Int32) (M : Mm) : F_T_isValue_b10 v1 M = some (P_T_isValue_b10 v1 M, M) := by
  unfold F_T_isValue_b10 P_T_isValue_b10
  refine q_l ?_
  refine q_i ?_ ?_
  · rfl
  · rfl
theorem z_T_isValue_b10 (v1 : Int32) (M : Mm) : zo (P_T_isValue_b10 v1 M) := by
  rw [P_T_isValue_b10]
  refine zo_l ?_
  refine zo_i ?_ ?_
  · exact zo_0
  · exact zo_1
def F_T_isValue (v1 : Int32) (M : Mm) : Option (Int32 × Mm) := (if v1 < 1 then F_T_isValue_b10 v1 M else (if v1 ≤ 4 then some (1, M) else F_T_isValue_b10 v1 M))
def P_T_isValue (v1 : Int32) (M : Mm) : Int32 := (if v1 < 1 then P_T_isValue_b10 v1 M else (if v1 ≤ 4 then 1 else P_T_isValue_b10 v1 M))
theorem p_T_isValue (v1 : Int32) (M : Mm) : F_T_isValue v1 M = some (P_T_isValue v1 M, M) := by
  unfold F_T_isValue P_T_isValue
  refine q_i ?_ ?_
  · exact p_T_isValue_b10 _ _
  · refine q_i ?_ ?_
    · rfl
    · exact p_T_isValue_b10 _ _
theorem z_T_isValue (v1 : Int32) (M : Mm) : zo (P_T_isValue v1 M) := by
  rw [P_T_isValue]
  refine zo_i ?_ ?_
  · exact z_T_isValue_b10 _ _
  · refine zo_i ?_ ?_
    · exact zo_1
    · exact z_T_isValue_b10 _ _
def F_M_restart (v1 : Int32) (v2 : Int32) (v3 : Int32) (M : Mm) : Option (Mm) := lt (sI M 4 0 11 v1) fun M1 => lt (sI M1 4 0 12 v2) fun M2 => lt (sI M2 4 0 13 v3) fun M3 => lt (sI M3 4 0 3 0) fun M4 => lt (sI M4 4 0 8 0) fun M5 => lt (sI M5 4 0 10 0) fun M6 => some M6
def F_G_begin_b17  (v1 : Int32) (v2 : Int32) (v3 : Int32) (M : Mm) : Option (Int32 × Mm) := (if v2 < 0 then some ((-1), M) else (if 12 < v2 then some ((-1), M) else (if v3 < 0 then some ((-1), M) else (if v3 ≤ 12 then bv (F_M_restart v1 v2 v3 M) (fun M6 => some (1, M6)) else some ((-1), M)))))
def F_G_begin (v1 : Int32) (v2 : Int32) (v3 : Int32) (M : Mm) : Option (Int32 × Mm) := (if v1 = 0 then F_G_begin_b17 v1 v2 v3 M else lt (P_T_isValue v1 M) fun r9 => (if r9 = 0 then some ((-1), M) else F_G_begin_b17 v1 v2 v3 M))
def F_M_appendArgument (v1 : Int32) (M : Mm) : Option (Int32 × Mm) := bnd (M.1 4 0 10) 6 (lt (sI M 12 0 (M.1 4 0 10 : Int32).toNatClampNeg v1) fun M2 => lt (sI M2 4 0 10 ((M2.1 4 0 10) + 1)) fun M3 => some (M3.1 4 0 10, M3))
def F_G_argument (v1 : Int32) (M : Mm) : Option (Int32 × Mm) := lt (P_T_isValue v1 M) fun r2 => (if r2 = 0 then some ((-1), M) else (if (M.1 4 0 10) = 6 then some ((-2), M) else bd (F_M_appendArgument v1 M) (fun r7 M6 => some (r7, M6))))
def F_G_isOp (v0 : Int32) (M : Mm) : Option (Int32 × Mm) := (if v0 < 0 then some (0, M) else (if 30 < v0 then some (0, M) else some (1, M)))
def P_G_isOp (v0 : Int32) (M : Mm) : Int32 := (if v0 < 0 then 0 else (if 30 < v0 then 0 else 1))
theorem p_G_isOp (v0 : Int32) (M : Mm) : F_G_isOp v0 M = some (P_G_isOp v0 M, M) := by
  unfold F_G_isOp P_G_isOp
  refine q_i ?_ ?_
  · rfl
  · refine q_i ?_ ?_
    · rfl
    · rfl
theorem z_G_isOp (v0 : Int32) (M : Mm) : zo (P_G_isOp v0 M) := by
  rw [P_G_isOp]
  refine zo_i ?_ ?_
  · exact zo_0
  · refine zo_i ?_ ?_
    · exact zo_0
    · exact zo_1
def F_M_write (v1 : Int32) (v2 : Int32) (v3 : Int32) (v4 : Int32) (M : Mm) : Option (Mm) := bnd v1 48 (lt (sI M 5 0 (v1 : Int32).toNatClampNeg v2) fun M2 => bnd v1 48 (lt (sI M2 6 0 (v1 : Int32).toNatClampNeg v3) fun M4 => bnd v1 48 (lt (sI M4 7 0 (v1 : Int32).toNatClampNeg v4) fun M6 => some M6)))
def F_M_append (v1 : Int32) (v2 : Int32) (v3 : Int32) (M : Mm) : Option (Int32 × Mm) := bv (F_M_write (M.1 4 0 3) v1 v2 v3 M) (fun M2 => lt (sI M2 4 0 3 ((M2.1 4 0 3) + 1)) fun M3 => some ((M3.1 4 0 3) - 1, M3))
def F_G_add (v1 : Int32) (v2 : Int32) (v3 : Int32) (M : Mm) : Option (Int32 × Mm) := lt (P_G_isOp v1 M) fun r2 => (if r2 = 0 then some ((-1), M) else (if (M.1 4 0 3) = 48 then some ((-2), M) else bd (F_M_append v1 v2 v3 M) (fun r7 M6 => some (r7, M6))))
def F_M_hasInstruction (v1 : Int32) (M : Mm) : Option (Int32 × Mm) := (if v1 < 0 then some (0, M) else (if (M.1 4 0 3) ≤ v1 then some (0, M) else some (1, M)))
def P_M_hasInstruction (v1 : Int32) (M : Mm) : Int32 := (if v1 < 0 then 0 else (if (M.1 4 0 3) ≤ v1 then 0 else 1))
theorem p_M_hasInstruction (v1 : Int32) (M : Mm) : F_M_hasInstruction v1 M = some (P_M_hasInstruction v1 M, M) := by
  unfold F_M_hasInstruction P_M_hasInstruction
  refine q_i ?_ ?_
  · rfl
  · refine q_i ?_ ?_
    · rfl
    · rfl
theorem z_M_hasInstruction (v1 : Int32) (M : Mm) : zo (P_M_hasInstruction v1 M) := by
  rw [P_M_hasInstruction]
  refine zo_i ?_ ?_
  · exact zo_0
  · refine zo_i ?_ ?_
    · exact zo_0
    · exact zo_1
def F_G_change (v1 : Int32) (v2 : Int32) (v3 : Int32) (v4 : Int32) (M : Mm) : Option (Int32 × Mm) := lt (P_M_hasInstruction v1 M) fun r2 => (if r2 = 0 then some ((-1), M) else lt (P_G_isOp v2 M) fun r5 => (if r5 = 0 then some ((-1), M) else bnd v1 48 (lt (M.1 5 0 (v1 : Int32).toNatClampNeg : Int32) fun n8 => bv (F_M_write v1 v2 v3 v4 M) (fun M10 => some (n8, M10)))))
def F_M_appendHandler (v1 : Int32) (v2 : Int32) (v3 : Int32) (v4 : Int32) (M : Mm) : Option (Int32 × Mm) := bnd (M.1 4 0 8) 3 (lt (sI M 8 0 (M.1 4 0 8 : Int32).toNatClampNeg v1) fun M2 => bnd (M2.1 4 0 8) 3 (lt (sI M2 9 0 (M2.1 4 0 8 : Int32).toNatClampNeg v2) fun M4 => bnd (M4.1 4 0 8) 3 (lt (sI M4 10 0 (M4.1 4 0 8 : Int32).toNatClampNeg v3) fun M6 => bnd (M6.1 4 0 8) 3 (lt (sI M6 11 0 (M6.1 4 0 8 : Int32).toNatClampNeg v4) fun M8 => lt (sI M8 4 0 8 ((M8.1 4 0 8) + 1)) fun M9 => some (M9.1 4 0 8, M9)))))
def F_G_handler (v1 : Int32) (v2 : Int32) (v3 : Int32) (v4 : Int32) (M : Mm) : Option (Int32 × Mm) := (if (M.1 4 0 8) = 3 then some ((-2), M) else bd (F_M_appendHandler v1 v2 v3 v4 M) (fun r4 M3 => some (r4, M3)))
def F_W_forget_b10  : Nat → Int32 → Mm → Option (Mm)
  | 0, _, _ => none
  | n + 1, v1, M => (if 48 ≤ v1 then lt (sI M 14 0 8 0) fun M2 => lt (sI M2 14 0 10 0) fun M3 => lt (sL M3 14 0 11 0) fun M4 => some M4 else bnd v1 48 (lt (sI M 16 0 (v1 : Int32).toNatClampNeg (vp_nar .boolean 0)) fun M6 => bnd v1 48 (lt (sI M6 17 0 (v1 : Int32).toNatClampNeg (vp_nar .boolean 0)) fun M8 => lt (v1 + 1) fun n9 => (F_W_forget_b10 n) n9 M8)))
def F_W_forget  (M : Mm) : Option (Mm) := lt (F_fillJ 18 0 0 M) fun M10 => F_W_forget_b10 fuel 0 M10
def F_M_hasLocal (v1 : Int32) (M : Mm) : Option (Int32 × Mm) := (if v1 < 0 then some (0, M) else (if (M.1 4 0 12) ≤ v1 then some (0, M) else some (1, M)))
def P_M_hasLocal (v1 : Int32) (M : Mm) : Int32 := (if v1 < 0 then 0 else (if (M.1 4 0 12) ≤ v1 then 0 else 1))
theorem p_M_hasLocal (v1 : Int32) (M : Mm) : F_M_hasLocal v1 M = some (P_M_hasLocal v1 M, M) := by
  unfold F_M_hasLocal P_M_hasLocal
  refine q_i ?_ ?_
  · rfl
  · refine q_i ?_ ?_
    · rfl
    · rfl
theorem z_M_hasLocal (v1 : Int32) (M : Mm) : zo (P_M_hasLocal v1 M) := by
  rw [P_M_hasLocal]
  refine zo_i ?_ ?_
  · exact zo_0
  · refine zo_i ?_ ?_
    · exact zo_0
    · exact zo_1
def F_O_isNumber (v0 : Int32) (M : Mm) : Option (Int32 × Mm) := (if v0 < 1 then some (0, M) else (if 4 < v0 then some (0, M) else some (1, M)))
def P_O_isNumber (v0 : Int32) (M : Mm) : Int32 := (if v0 < 1 then 0 else (if 4 < v0 then 0 else 1))
theorem p_O_isNumber (v0 : Int32) (M : Mm) : F_O_isNumber v0 M = some (P_O_isNumber v0 M, M) := by
  unfold F_O_isNumber P_O_isNumber
  refine q_i ?_ ?_
  · rfl
  · refine q_i ?_ ?_
    · rfl
    · rfl
theorem z_O_isNumber (v0 : Int32) (M : Mm) : zo (P_O_isNumber v0 M) := by
  rw [P_O_isNumber]
  refine zo_i ?_ ?_
  · exact zo_0
  · refine zo_i ?_ ?_
    · exact zo_0
    · exact zo_1
def F_T_isRow (v1 : Int32) (M : Mm) : Option (Int32 × Mm) := (if v1 < 64 then some (0, M) else lt (P_T_isRef v1 M) fun r3 => (if r3 = 0 then some (0, M) else some (1, M)))
def P_T_isRow (v1 : Int32) (M : Mm) : Int32 := (if v1 < 64 then 0 else lt (P_T_isRef v1 M) fun r3 => (if r3 = 0 then 0 else 1))
theorem p_T_isRow (v1 : Int32) (M : Mm) : F_T_isRow v1 M = some (P_T_isRow v1 M, M) := by
  unfold F_T_isRow P_T_isRow
  refine q_i ?_ ?_
  · rfl
  · refine q_l ?_
    refine q_i ?_ ?_
    · rfl
    · rfl
theorem z_T_isRow (v1 : Int32) (M : Mm) : zo (P_T_isRow v1 M) := by
  rw [P_T_isRow]
  refine zo_i ?_ ?_
  · exact zo_0
  · refine zo_l ?_
    refine zo_i ?_ ?_
    · exact zo_0
    · exact zo_1
def F_O_isWellFormed (v1 : Int32) (v2 : Int32) (v3 : Int32) (M : Mm) : Option (Int32 × Mm) := (if v1 = 1 then (if v2 < 1 then some (0, M) else (if 5 < v2 then some (0, M) else some (1, M))) else (if v1 = 2 then lt (P_M_hasLocal v2 M) fun r4 => bnz r4 (some (r4, M)) else (if v1 = 3 then lt (P_M_hasLocal v2 M) fun r7 => bnz r7 (some (r7, M)) else (if v1 = 4 then some (1, M) else (if v1 = 5 then some (1, M) else (if v1 = 6 then some (1, M) else (if v1 = 7 then some (1, M) else (if v1 = 8 then some (1, M) else (if v1 = 9 then lt (P_O_isNumber v2 M) fun r10 => bnz r10 (some (r10, M)) else (if v1 = 10 then lt (P_O_isNumber v2 M) fun r13 => (if r13 = 0 then some (0, M) else lt (P_O_isNumber v3 M) fun r16 => (if r16 = 0 then some (0, M) else some (1, M))) else (if v1 = 11 then (if v2 < 2 then some (0, M) else (if 4 < v2 then some (0, M) else some (1, M))) else (if v1 = 12 then lt (P_M_hasInstruction v3 M) fun r21 => bnz r21 (some (r21, M)) else (if v1 = 13 then lt (P_M_hasInstruction v3 M) fun r24 => bnz r24 (some (r24, M)) else (if v1 = 14 then lt (P_M_hasInstruction v3 M) fun r27 => bnz r27 (some (r27, M)) else (if v1 = 15 then lt (P_M_hasInstruction v3 M) fun r30 => bnz r30 (some (r30, M)) else (if v1 = 16 then lt (P_M_hasLocal v2 M) fun r33 => bnz r33 (some (r33, M)) else (if v1 = 17 then lt (P_M_hasInstruction v2 M) fun r36 => (if r36 = 0 then some (0, M) else lt (P_M_hasInstruction v3 M) fun r39 => (if r39 = 0 then some (0, M) else some (1, M))) else (if v1 = 18 then some (1, M) else (if v1 = 19 then some (1, M) else (if v1 = 20 then lt (P_T_hasClass v2 M) fun r42 => bnz r42 (some (r42, M)) else (if v1 = 21 then lt (P_T_hasClass v2 M) fun r45 => bnz r45 (some (r45, M)) else (if v1 = 22 then lt (P_T_hasClass v2 M) fun r48 => (if r48 = 0 then some (0, M) else lt (P_T_isValue v3 M) fun r51 => (if r51 = 0 then some (0, M) else some (1, M))) else (if v1 = 23 then lt (P_T_hasClass v2 M) fun r54 => (if r54 = 0 then some (0, M) else lt (P_T_isValue v3 M) fun r57 => (if r57 = 0 then some (0, M) else some (1, M))) else (if v1 = 24 then lt (P_T_isValue v2 M) fun r60 => (if r60 = 0 then some (0, M) else lt (P_T_isValue v3 M) fun r63 => (if r63 = 0 then some (0, M) else some (1, M))) else (if v1 = 25 then lt (P_T_isRef v2 M) fun r66 => bnz r66 (some (r66, M)) else (if v1 = 26 then (if v2 = 12 then some (1, M) else (if 192 ≤ v2 then some (0, M) else lt (P_T_isRef v2 M) fun r71 => (if r71 = 0 then some (0, M) else some (1, M)))) else (if v1 = 27 then lt (P_T_isRow v2 M) fun r74 => bnz r74 (some (r74, M)) else (if v1 = 28 then lt (P_T_isRow v2 M) fun r77 => bnz r77 (some (r77, M)) else (if v1 = 29 then some (1, M) else (if v1 = 30 then lt (P_M_hasLocal v2 M) fun r80 => bnz r80 (some (r80, M)) else some (1, M)))))))))))))))))))))))))))))))
def P_O_isWellFormed (v1 : Int32) (v2 : Int32) (v3 : Int32) (M : Mm) : Int32 := (if v1 = 1 then (if v2 < 1 then 0 else (if 5 < v2 then 0 else 1)) else (if v1 = 2 then lt (P_M_hasLocal v2 M) fun r4 => r4 else (if v1 = 3 then lt (P_M_hasLocal v2 M) fun r7 => r7 else (if v1 = 4 then 1 else (if v1 = 5 then 1 else (if v1 = 6 then 1 else (if v1 = 7 then 1 else (if v1 = 8 then 1 else (if v1 = 9 then lt (P_O_isNumber v2 M) fun r10 => r10 else (if v1 = 10 then lt (P_O_isNumber v2 M) fun r13 => (if r13 = 0 then 0 else lt (P_O_isNumber v3 M) fun r16 => (if r16 = 0 then 0 else 1)) else (if v1 = 11 then (if v2 < 2 then 0 else (if 4 < v2 then 0 else 1)) else (if v1 = 12 then lt (P_M_hasInstruction v3 M) fun r21 => r21 else (if v1 = 13 then lt (P_M_hasInstruction v3 M) fun r24 => r24 else (if v1 = 14 then lt (P_M_hasInstruction v3 M) fun r27 => r27 else (if v1 = 15 then lt (P_M_hasInstruction v3 M) fun r30 => r30 else (if v1 = 16 then lt (P_M_hasLocal v2 M) fun r33 => r33 else (if v1 = 17 then lt (P_M_hasInstruction v2 M) fun r36 => (if r36 = 0 then 0 else lt (P_M_hasInstruction v3 M) fun r39 => (if r39 = 0 then 0 else 1)) else (if v1 = 18 then 1 else (if v1 = 19 then 1 else (if v1 = 20 then lt (P_T_hasClass v2 M) fun r42 => r42 else (if v1 = 21 then lt (P_T_hasClass v2 M) fun r45 => r45 else (if v1 = 22 then lt (P_T_hasClass v2 M) fun r48 => (if r48 = 0 then 0 else lt (P_T_isValue v3 M) fun r51 => (if r51 = 0 then 0 else 1)) else (if v1 = 23 then lt (P_T_hasClass v2 M) fun r54 => (if r54 = 0 then 0 else lt (P_T_isValue v3 M) fun r57 => (if r57 = 0 then 0 else 1)) else (if v1 = 24 then lt (P_T_isValue v2 M) fun r60 => (if r60 = 0 then 0 else lt (P_T_isValue v3 M) fun r63 => (if r63 = 0 then 0 else 1)) else (if v1 = 25 then lt (P_T_isRef v2 M) fun r66 => r66 else (if v1 = 26 then (if v2 = 12 then 1 else (if 192 ≤ v2 then 0 else lt (P_T_isRef v2 M) fun r71 => (if r71 = 0 then 0 else 1))) else (if v1 = 27 then lt (P_T_isRow v2 M) fun r74 => r74 else (if v1 = 28 then lt (P_T_isRow v2 M) fun r77 => r77 else (if v1 = 29 then 1 else (if v1 = 30 then lt (P_M_hasLocal v2 M) fun r80 => r80 else 1))))))))))))))))))))))))))))))
theorem p_O_isWellFormed (v1 : Int32) (v2 : Int32) (v3 : Int32) (M : Mm) : F_O_isWellFormed v1 v2 v3 M = some (P_O_isWellFormed v1 v2 v3 M, M) := by
  unfold F_O_isWellFormed P_O_isWellFormed
  refine q_i ?_ ?_
  · refine q_i ?_ ?_
    · rfl
    · refine q_i ?_ ?_
      · rfl
      · rfl
  · refine q_i ?_ ?_
    · refine q_l ?_
      exact q_b (z_M_hasLocal _ _)
    · refine q_i ?_ ?_
      · refine q_l ?_
        exact q_b (z_M_hasLocal _ _)
      · refine q_i ?_ ?_
        · rfl
        · refine q_i ?_ ?_
          · rfl
          · refine q_i ?_ ?_
            · rfl
            · refine q_i ?_ ?_
              · rfl
              · refine q_i ?_ ?_
                · rfl
                · refine q_i ?_ ?_
                  · refine q_l ?_
                    exact q_b (z_O_isNumber _ _)
                  · refine q_i ?_ ?_
                    · refine q_l ?_
                      refine q_i ?_ ?_
                      · rfl
                      · refine q_l ?_
                        refine q_i ?_ ?_
                        · rfl
                        · rfl
                    · refine q_i ?_ ?_
                      · refine q_i ?_ ?_
                        · rfl
                        · refine q_i ?_ ?_
                          · rfl
                          · rfl
                      · refine q_i ?_ ?_
                        · refine q_l ?_
                          exact q_b (z_M_hasInstruction _ _)
                        · refine q_i ?_ ?_
                          · refine q_l ?_
                            exact q_b (z_M_hasInstruction _ _)
                          · refine q_i ?_ ?_
                            · refine q_l ?_
                              exact q_b (z_M_hasInstruction _ _)
                            · refine q_i ?_ ?_
                              · refine q_l ?_
                                exact q_b (z_M_hasInstruction _ _)
                              · refine q_i ?_ ?_
                                · refine q_l ?_
                                  exact q_b (z_M_hasLocal _ _)
                                · refine q_i ?_ ?_
                                  · refine q_l ?_
                                    refine q_i ?_ ?_
                                    · rfl
                                    · refine q_l ?_
                                      refine q_i ?_ ?_
                                      · rfl
                                      · rfl
                                  · refine q_i ?_ ?_
                                    · rfl
                                    · refine q_i ?_ ?_
                                      · rfl
                                      · refine q_i ?_ ?_
                                        · refine q_l ?_
                                          exact q_b (z_T_hasClass _ _)
                                        · refine q_i ?_ ?_
                                          · refine q_l ?_
                                            exact q_b (z_T_hasClass _ _)
                                          · refine q_i ?_ ?_
                                            · refine q_l ?_
                                              refine q_i ?_ ?_
                                              · rfl
                                              · refine q_l ?_
                                                refine q_i ?_ ?_
                                                · rfl
                                                · rfl
                                            · refine q_i ?_ ?_
                                              · refine q_l ?_
                                                refine q_i ?_ ?_
                                                · rfl
                                                · refine q_l ?_
                                                  refine q_i ?_ ?_
                                                  · rfl
                                                  · rfl
                                              · refine q_i ?_ ?_
                                                · refine q_l ?_
                                                  refine q_i ?_ ?_
                                                  · rfl
                                                  · refine q_l ?_
                                                    refine q_i ?_ ?_
                                                    · rfl
                                                    · rfl
                                                · refine q_i ?_ ?_
                                                  · refine q_l ?_
                                                    exact q_b (z_T_isRef _ _)
                                                  · refine q_i ?_ ?_
                                                    · refine q_i ?_ ?_
                                                      · rfl
                                                      · refine q_i ?_ ?_
                                                        · rfl
                                                        · refine q_l ?_
                                                          refine q_i ?_ ?_
                                                          · rfl
                                                          · rfl
                                                    · refine q_i ?_ ?_
                                                      · refine q_l ?_
                                                        exact q_b (z_T_isRow _ _)
                                                      · refine q_i ?_ ?_
                                                        · refine q_l ?_
                                                          exact q_b (z_T_isRow _ _)
                                                        · refine q_i ?_ ?_
                                                          · rfl
                                                          · refine q_i ?_ ?_
                                                            · refine q_l ?_
                                                              exact q_b (z_M_hasLocal _ _)
                                                            · rfl
theorem z_O_isWellFormed (v1 : Int32) (v2 : Int32) (v3 : Int32) (M : Mm) : zo (P_O_isWellFormed v1 v2 v3 M) := by
  rw [P_O_isWellFormed]
  refine zo_i ?_ ?_
  · refine zo_i ?_ ?_
    · exact zo_0
    · refine zo_i ?_ ?_
      · exact zo_0
      · exact zo_1
  · refine zo_i ?_ ?_
    · refine zo_l ?_
      exact z_M_hasLocal _ _
    · refine zo_i ?_ ?_
      · refine zo_l ?_
        exact z_M_hasLocal _ _
      · refine zo_i ?_ ?_
        · exact zo_1
        · refine zo_i ?_ ?_
          · exact zo_1
          · refine zo_i ?_ ?_
            · exact zo_1
            · refine zo_i ?_ ?_
              · exact zo_1
              · refine zo_i ?_ ?_
                · exact zo_1
                · refine zo_i ?_ ?_
                  · refine zo_l ?_
                    exact z_O_isNumber _ _
                  · refine zo_i ?_ ?_
                    · refine zo_l ?_
                      refine zo_i ?_ ?_
                      · exact zo_0
                      · refine zo_l ?_
                        refine zo_i ?_ ?_
                        · exact zo_0
                        · exact zo_1
                    · refine zo_i ?_ ?_
                      · refine zo_i ?_ ?_
                        · exact zo_0
                        · refine zo_i ?_ ?_
                          · exact zo_0
                          · exact zo_1
                      · refine zo_i ?_ ?_
                        · refine zo_l ?_
                          exact z_M_hasInstruction _ _
                        · refine zo_i ?_ ?_
                          · refine zo_l ?_
                            exact z_M_hasInstruction _ _
                          · refine zo_i ?_ ?_
                            · refine zo_l ?_
                              exact z_M_hasInstruction _ _
                            · refine zo_i ?_ ?_
                              · refine zo_l ?_
                                exact z_M_hasInstruction _ _
                              · refine zo_i ?_ ?_
                                · refine zo_l ?_
                                  exact z_M_hasLocal _ _
                                · refine zo_i ?_ ?_
                                  · refine zo_l ?_
                                    refine zo_i ?_ ?_
                                    · exact zo_0
                                    · refine zo_l ?_
                                      refine zo_i ?_ ?_
                                      · exact zo_0
                                      · exact zo_1
                                  · refine zo_i ?_ ?_
                                    · exact zo_1
                                    · refine zo_i ?_ ?_
                                      · exact zo_1
                                      · refine zo_i ?_ ?_
                                        · refine zo_l ?_
                                          exact z_T_hasClass _ _
                                        · refine zo_i ?_ ?_
                                          · refine zo_l ?_
                                            exact z_T_hasClass _ _
                                          · refine zo_i ?_ ?_
                                            · refine zo_l ?_
                                              refine zo_i ?_ ?_
                                              · exact zo_0
                                              · refine zo_l ?_
                                                refine zo_i ?_ ?_
                                                · exact zo_0
                                                · exact zo_1
                                            · refine zo_i ?_ ?_
                                              · refine zo_l ?_
                                                refine zo_i ?_ ?_
                                                · exact zo_0
                                                · refine zo_l ?_
                                                  refine zo_i ?_ ?_
                                                  · exact zo_0
                                                  · exact zo_1
                                              · refine zo_i ?_ ?_
                                                · refine zo_l ?_
                                                  refine zo_i ?_ ?_
                                                  · exact zo_0
                                                  · refine zo_l ?_
                                                    refine zo_i ?_ ?_
                                                    · exact zo_0
                                                    · exact zo_1
                                                · refine zo_i ?_ ?_
                                                  · refine zo_l ?_
                                                    exact z_T_isRef _ _
                                                  · refine zo_i ?_ ?_
                                                    · refine zo_i ?_ ?_
                                                      · exact zo_1
                                                      · refine zo_i ?_ ?_
                                                        · exact zo_0
                                                        · refine zo_l ?_
                                                          refine zo_i ?_ ?_
                                                          · exact zo_0
                                                          · exact zo_1
                                                    · refine zo_i ?_ ?_
                                                      · refine zo_l ?_
                                                        exact z_T_isRow _ _
                                                      · refine zo_i ?_ ?_
                                                        · refine zo_l ?_
                                                          exact z_T_isRow _ _
                                                        · refine zo_i ?_ ?_
                                                          · exact zo_1
                                                          · refine zo_i ?_ ?_
                                                            · refine zo_l ?_
                                                              exact z_M_hasLocal _ _
                                                            · exact zo_1
def F_T_isBelow (v1 : Int32) (v2 : Int32) (M : Mm) : Option (Int32 × Mm) := bnd v1 10 ((if ((M.1 2 0 (v1 : Int32).toNatClampNeg) >>> (v2 &&& 31) &&& 1) = 0 then some (0, M) else some (1, M)))
def F_O_isHandlerWellFormed_b58  (v1 : Int32) (s0 : Int32) (M : Mm) : Option (Int32 × Mm) := (if s0 = 0 then some (0, M) else bnd v1 3 (lt (P_M_hasInstruction (M.1 10 0 (v1 : Int32).toNatClampNeg) M) fun r4 => (if r4 = 0 then some (0, M) else bnd v1 3 (lt (M.1 11 0 (v1 : Int32).toNatClampNeg : Int32) fun n7 => lt (P_T_hasClass n7 M) fun r9 => (if r9 = 0 then some (0, M) else bd (F_T_isBelow n7 1 M) (fun r13 M12 => (if r13 = 0 then some (0, M12) else some (1, M12))))))))
def F_O_isHandlerWellFormed_b57  (v1 : Int32) (M : Mm) : Option (Int32 × Mm) := F_O_isHandlerWellFormed_b58 v1 0 M
def F_O_isHandlerWellFormed (v1 : Int32) (M : Mm) : Option (Int32 × Mm) := bnd v1 3 ((if (M.1 8 0 (v1 : Int32).toNatClampNeg) < (0 : Int32) then F_O_isHandlerWellFormed_b57 v1 M else bnd v1 3 (bnd v1 3 ((if (M.1 9 0 (v1 : Int32).toNatClampNeg) ≤ (M.1 8 0 (v1 : Int32).toNatClampNeg) then F_O_isHandlerWellFormed_b57 v1 M else bnd v1 3 ((if (M.1 4 0 3) < (M.1 9 0 (v1 : Int32).toNatClampNeg) then F_O_isHandlerWellFormed_b57 v1 M else F_O_isHandlerWellFormed_b58 v1 1 M)))))))
def F_G_widthOf (v0 : Int32) (M : Mm) : Option (Int32 × Mm) := (if v0 = 3 then some (2, M) else (if v0 = 4 then some (2, M) else some (1, M)))
def P_G_widthOf (v0 : Int32) (M : Mm) : Int32 := (if v0 = 3 then 2 else (if v0 = 4 then 2 else 1))
theorem p_G_widthOf (v0 : Int32) (M : Mm) : F_G_widthOf v0 M = some (P_G_widthOf v0 M, M) := by
  unfold F_G_widthOf P_G_widthOf
  refine q_i ?_ ?_
  · rfl
  · refine q_i ?_ ?_
    · rfl
    · rfl
def F_O_haveArgumentsRoom_b4  : Nat → Int32 → Int32 → Mm → Option (Int32 × Mm)
  | 0, _, _, _ => none
  | n + 1, v1, v2, M => (if (M.1 4 0 10) ≤ v2 then (if (M.1 4 0 12) < v1 then some (0, M) else some (1, M)) else bnd v2 6 (lt (P_G_widthOf (M.1 12 0 (v2 : Int32).toNatClampNeg) M) fun r5 => lt (v1 + r5 : Int32) fun n6 => lt (v2 + 1) fun n7 => (F_O_haveArgumentsRoom_b4 n) n6 n7 M))
def F_O_haveArgumentsRoom  (M : Mm) : Option (Int32 × Mm) := F_O_haveArgumentsRoom_b4 fuel 0 0 M
def F_O_findFault_b69  : Nat → Int32 → Mm → Option (Int32 × Mm)
  | 0, _, _ => none
  | n + 1, v1, M => (if (M.1 4 0 8) ≤ v1 then bd (F_O_haveArgumentsRoom M) (fun r4 M3 => (if r4 = 0 then some (200, M3) else some ((-1), M3))) else bd (F_O_isHandlerWellFormed v1 M) (fun r8 M7 => (if r8 = 0 then some ((100 : Int32) + v1, M7) else lt (v1 + 1) fun n10 => (F_O_findFault_b69 n) n10 M7)))
def F_O_findFault_b14  : Nat → Int32 → Mm → Option (Int32 × Mm)
  | 0, _, _ => none
  | n + 1, v1, M => (if (M.1 4 0 3) ≤ v1 then F_O_findFault_b69 fuel 0 M else bnd v1 48 (bnd v1 48 (bnd v1 48 (lt (P_O_isWellFormed (M.1 5 0 (v1 : Int32).toNatClampNeg) (M.1 6 0 (v1 : Int32).toNatClampNeg) (M.1 7 0 (v1 : Int32).toNatClampNeg) M) fun r16 => (if r16 = 0 then some (v1, M) else lt (v1 + 1) fun n18 => (F_O_findFault_b14 n) n18 M)))))
def F_O_findFault  (M : Mm) : Option (Int32 × Mm) := (if (M.1 4 0 3) = 0 then some (0, M) else F_O_findFault_b14 fuel 0 M)
def F_R_start_b30  : Nat → Nat → Int32 → Int32 → Mm → Option (Mm)
  | 0, _, _, _, _ => none
  | n + 1, i0, v2, v3, M => (if (M.1 4 0 10) ≤ v3 then some M else (if 12 ≤ v2 then some M else bnd v3 6 (bnd v2 12 (lt (sI M 20 i0 (v2 : Int32).toNatClampNeg (M.1 12 0 (v3 : Int32).toNatClampNeg)) fun M5 => bnd v3 6 (lt (P_G_widthOf (M5.1 12 0 (v3 : Int32).toNatClampNeg) M5) fun r8 => lt (v2 + r8 : Int32) fun n9 => lt (v3 + 1) fun n10 => (F_R_start_b30 n) i0 n9 n10 M5)))))
def F_R_start (i0 : Nat) (M : Mm) : Option (Mm) := lt (F_fillI 20 i0 0 M) fun M11 => lt (F_fillI 22 i0 0 M11) fun M12 => lt (sI M12 19 i0 2 0) fun M13 => lt (sL M13 19 i0 3 0) fun M14 => F_R_start_b30 fuel i0 0 0 M14
def F_G_isRaw (v0 : Int32) (M : Mm) : Option (Int32 × Mm) := (if v0 < 1000 then some (0, M) else (if 1048 ≤ v0 then some (0, M) else some (1, M)))
def P_G_isRaw (v0 : Int32) (M : Mm) : Int32 := (if v0 < 1000 then 0 else (if 1048 ≤ v0 then 0 else 1))
theorem p_G_isRaw (v0 : Int32) (M : Mm) : F_G_isRaw v0 M = some (P_G_isRaw v0 M, M) := by
  unfold F_G_isRaw P_G_isRaw
  refine q_i ?_ ?_
  · rfl
  · refine q_i ?_ ?_
    · rfl
    · rfl
theorem z_G_isRaw (v0 : Int32) (M : Mm) : zo (P_G_isRaw v0 M) := by
  rw [P_G_isRaw]
  refine zo_i ?_ ?_
  · exact zo_0
  · refine zo_i ?_ ?_
    · exact zo_0
    · exact zo_1
def F_R_hasRawLocal_b2  : Nat → Nat → Int32 → Mm → Option (Int32 × Mm)
  | 0, _, _, _ => none
  | n + 1, i0, v1, M => (if 12 ≤ v1 then some (0, M) else bnd v1 12 (lt (P_G_isRaw (M.1 20 i0 (v1 : Int32).toNatClampNeg) M) fun r4 => (if r4 = 0 then lt (v1 + 1) fun n6 => (F_R_hasRawLocal_b2 n) i0 n6 M else some (1, M))))
def F_R_hasRawLocal (i0 : Nat) (M : Mm) : Option (Int32 × Mm) := F_R_hasRawLocal_b2 fuel i0 0 M
def F_R_hasRaw_b2  : Nat → Nat → Int32 → Mm → Option (Int32 × Mm)
  | 0, _, _, _ => none
  | n + 1, i0, v1, M => (if (M.1 19 i0 2) ≤ v1 then bd (F_R_hasRawLocal i0 M) (fun r4 M3 => bnz r4 (some (r4, M3))) else bnd v1 12 (lt (P_G_isRaw (M.1 21 i0 (v1 : Int32).toNatClampNeg) M) fun r8 => (if r8 = 0 then lt (v1 + 1) fun n10 => (F_R_hasRaw_b2 n) i0 n10 M else some (1, M))))
def F_R_hasRaw (i0 : Nat) (M : Mm) : Option (Int32 × Mm) := F_R_hasRaw_b2 fuel i0 0 M
def F_R_copy (i0 : Nat) (i1 : Nat) (M : Mm) : Option (Mm) := lt (sA M 20 i0 (va_cpy (M.1 20 i1) (M.1 20 i0) (0 : Int32).toNatClampNeg (0 : Int32).toNatClampNeg (12 : Int32).toNatClampNeg)) fun M1 => lt (sA M1 21 i0 (va_cpy (M1.1 21 i1) (M1.1 21 i0) (0 : Int32).toNatClampNeg (0 : Int32).toNatClampNeg (12 : Int32).toNatClampNeg)) fun M2 => lt (sA M2 22 i0 (va_cpy (M2.1 22 i1) (M2.1 22 i0) (0 : Int32).toNatClampNeg (0 : Int32).toNatClampNeg (48 : Int32).toNatClampNeg)) fun M3 => lt (sI M3 19 i0 2 (M3.1 19 i1 2)) fun M4 => lt (sL M4 19 i0 3 (M4.2 19 i1 3)) fun M5 => some M5
def F_W_reach (v1 : Int32) (i2 : Nat) (M : Mm) : Option (Mm) := bnd v1 48 (bv (F_R_copy ((v1 : Int32).toNatClampNeg + 2) i2 M) (fun M3 => bnd v1 48 (lt (sI M3 16 0 (v1 : Int32).toNatClampNeg (vp_nar .boolean 1)) fun M5 => bnd v1 48 (lt (sI M5 17 0 (v1 : Int32).toNatClampNeg (vp_nar .boolean 1)) fun M7 => lt (sI M7 14 0 10 ((M7.1 14 0 10) + 1)) fun M8 => bnd v1 48 ((if (M8.1 5 0 (v1 : Int32).toNatClampNeg) = 15 then bnd v1 48 (lt (sL M8 14 0 11 ((M8.2 14 0 11) ||| ((1 : Int64) <<< ((M8.1 7 0 (v1 : Int32).toNatClampNeg : Int32).toInt64 &&& 63)))) fun M12 => some M12) else some M8))))))
def F_R_isIn (i0 : Nat) (v1 : Int32) (M : Mm) : Option (Int32 × Mm) := (if (lg_cmp ((M.2 19 i0 3 : Int64) >>> ((v1 : Int32).toInt64 &&& 63) &&& 1) 0) = 0 then some (0, M) else some (1, M))
def P_R_isIn (i0 : Nat) (v1 : Int32) (M : Mm) : Int32 := (if (lg_cmp ((M.2 19 i0 3 : Int64) >>> ((v1 : Int32).toInt64 &&& 63) &&& 1) 0) = 0 then 0 else 1)
theorem p_R_isIn (i0 : Nat) (v1 : Int32) (M : Mm) : F_R_isIn i0 v1 M = some (P_R_isIn i0 v1 M, M) := by
  unfold F_R_isIn P_R_isIn
  refine q_i ?_ ?_
  · rfl
  · rfl
theorem z_R_isIn (i0 : Nat) (v1 : Int32) (M : Mm) : zo (P_R_isIn i0 v1 M) := by
  rw [P_R_isIn]
  refine zo_i ?_ ?_
  · exact zo_0
  · exact zo_1
def F_R_absorbSubs_b98 (K37 : Nat → Nat → Int64 → Int32 → Int32 → Mm → Option (Int32 × Mm)) (i0 : Nat) (i1 : Nat) (v2 : Int64) (v4 : Int32) (v5 : Int32) (v6 : Int32) (M : Mm) : Option (Int32 × Mm) := bnd v5 48 (lt (sI M 22 i0 (v5 : Int32).toNatClampNeg v6) fun M2 => lt (v5 + 1) fun n3 => K37 i0 i1 v2 v4 n3 M2)
def F_R_absorbSubs_b81 (K37 : Nat → Nat → Int64 → Int32 → Int32 → Mm → Option (Int32 × Mm)) (i0 : Nat) (i1 : Nat) (v2 : Int64) (v4 : Int32) (v5 : Int32) (s0 : Int32) (M : Mm) : Option (Int32 × Mm) := bnd v5 48 ((if s0 = (M.1 22 i0 (v5 : Int32).toNatClampNeg) then F_R_absorbSubs_b98 K37 i0 i1 v2 v4 v5 s0 M else F_R_absorbSubs_b98 K37 i0 i1 v2 1 v5 s0 M))
def F_R_absorbSubs_b37  : Nat → Nat → Nat → Int64 → Int32 → Int32 → Mm → Option (Int32 × Mm)
  | 0, _, _, _, _, _, _ => none
  | n + 1, i0, i1, v2, v4, v5, M => (if 48 ≤ v5 then bnz v4 (some (v4, M)) else (if (lg_cmp ((v2 : Int64) >>> ((v5 : Int32).toInt64 &&& 63)) 0) = 0 then bnz v4 (some (v4, M)) else lt (P_R_isIn i0 v5 M) fun r11 => (if r11 = 0 then F_R_absorbSubs_b81 (F_R_absorbSubs_b37 n) i0 i1 v2 v4 v5 0 M else bnd v5 48 (bnd v5 48 (F_R_absorbSubs_b81 (F_R_absorbSubs_b37 n) i0 i1 v2 v4 v5 ((M.1 22 i0 (v5 : Int32).toNatClampNeg) ||| (M.1 22 i1 (v5 : Int32).toNatClampNeg)) M)))))
def F_R_absorbSubs_b32  (i0 : Nat) (i1 : Nat) (v2 : Int64) (s0 : Int32) (M : Mm) : Option (Int32 × Mm) := F_R_absorbSubs_b37 fuel i0 i1 v2 s0 0 M
def F_R_absorbSubs (i0 : Nat) (i1 : Nat) (M : Mm) : Option (Int32 × Mm) := lt (M.2 19 i0 3 : Int64) fun n15 => lt (sL M 19 i0 3 ((M.2 19 i0 3) &&& (M.2 19 i1 3))) fun M16 => (if (lg_cmp (M16.2 19 i0 3) n15) = 0 then F_R_absorbSubs_b32 i0 i1 n15 0 M16 else F_R_absorbSubs_b32 i0 i1 n15 1 M16)
def F_T_joinedClasses_b53  : Nat → Int32 → Int32 → Mm → Option (Int32 × Mm)
  | 0, _, _, _ => none
  | n + 1, v3, v4, M => (if v4 ≤ 0 then some (16, M) else (if ((v3 >>> (v4 &&& 31)) &&& 1) = 0 then lt (v4 + (-1)) fun n3 => (F_T_joinedClasses_b53 n) v3 n3 M else some ((16 : Int32) + v4, M)))
def F_T_joinedClasses (v1 : Int32) (v2 : Int32) (M : Mm) : Option (Int32 × Mm) := bnd (v1 - 16) 10 ((if (M.1 3 0 (v1 - 16 : Int32).toNatClampNeg) = 0 then bnd (v2 - 16) 10 ((if (M.1 3 0 (v2 - 16 : Int32).toNatClampNeg) = 0 then bnd (v1 - 16) 10 (bnd (v2 - 16) 10 (lt ((M.1 2 0 (v1 - 16 : Int32).toNatClampNeg) &&& (M.1 2 0 (v2 - 16 : Int32).toNatClampNeg) : Int32) fun n10 => lt (v1 - 16 : Int32) fun n11 => F_T_joinedClasses_b53 fuel n10 n11 M)) else some (16, M))) else some (16, M)))
def F_T_joined_b106  (v7 : Int32) (M : Mm) : Option (Int32 × Mm) := some ((64 : Int32) * (v7 - 1) + 16, M)
def P_T_joined_b106 (v7 : Int32) (M : Mm) : Int32 := (64 : Int32) * (v7 - 1) + 16
theorem p_T_joined_b106 (v7 : Int32) (M : Mm) : F_T_joined_b106 v7 M = some (P_T_joined_b106 v7 M, M) := by
  unfold F_T_joined_b106 P_T_joined_b106
  rfl
def F_T_joined_b80  (v1 : Int32) (v2 : Int32) (v5 : Int32) (v6 : Int32) (s0 : Int32) (M : Mm) : Option (Int32 × Mm) := (if (v1 - ((64 : Int32) * s0)) = 12 then F_T_joined_b106 s0 M else (if (v2 - ((64 : Int32) * s0)) = 12 then F_T_joined_b106 s0 M else (if v5 = v6 then bd (F_T_joinedClasses (v1 - ((64 : Int32) * s0)) (v2 - ((64 : Int32) * s0)) M) (fun r6 M5 => some ((64 : Int32) * s0 + r6, M5)) else some ((64 : Int32) * s0 + 16, M))))
def F_T_joined_b43  (v1 : Int32) (v2 : Int32) (v3 : Int32) (v4 : Int32) (M : Mm) : Option (Int32 × Mm) := (if v3 = 0 then some (0, M) else (if v4 = 0 then some (0, M) else lt (v1 >>> ((6 : Int32) &&& 31) : Int32) fun n9 => lt (v2 >>> ((6 : Int32) &&& 31) : Int32) fun n10 => (if n10 ≤ n9 then F_T_joined_b80 v1 v2 n9 n10 n10 M else F_T_joined_b80 v1 v2 n9 n10 n9 M)))
def F_T_joined_b31  (v1 : Int32) (v2 : Int32) (v3 : Int32) (v4 : Int32) (M : Mm) : Option (Int32 × Mm) := (if v4 = 0 then F_T_joined_b43 v1 v2 v3 v4 M else (if v1 = 5 then some (v2, M) else F_T_joined_b43 v1 v2 v3 v4 M))
def F_T_joined (v1 : Int32) (v2 : Int32) (M : Mm) : Option (Int32 × Mm) := (if v1 = v2 then some (v1, M) else lt (P_T_isRef v1 M) fun r16 => lt (P_T_isRef v2 M) fun r18 => (if r16 = 0 then F_T_joined_b31 v1 v2 r16 r18 M else (if v2 = 5 then some (v1, M) else F_T_joined_b31 v1 v2 r16 r18 M)))
def F_R_absorb_b59 (K9 : Nat → Nat → Int32 → Int32 → Mm → Option (Int32 × Mm)) (i0 : Nat) (i1 : Nat) (v3 : Int32) (v4 : Int32) (M : Mm) : Option (Int32 × Mm) := lt (v4 + 1) fun n1 => K9 i0 i1 v3 n1 M
def F_R_absorb_b120 (K68 : Nat → Nat → Int32 → Int32 → Mm → Option (Int32 × Mm)) (i0 : Nat) (i1 : Nat) (v3 : Int32) (v4 : Int32) (M : Mm) : Option (Int32 × Mm) := lt (v4 + 1) fun n2 => K68 i0 i1 v3 n2 M
def F_R_absorb_b68  : Nat → Nat → Nat → Int32 → Int32 → Mm → Option (Int32 × Mm)
  | 0, _, _, _, _, _ => none
  | n + 1, i0, i1, v3, v4, M => (if (M.1 19 i0 2) ≤ v4 then bnz v3 (some (v3, M)) else bnd v4 12 (lt (M.1 21 i0 (v4 : Int32).toNatClampNeg : Int32) fun n6 => bnd v4 12 (bd (F_T_joined n6 (M.1 21 i1 (v4 : Int32).toNatClampNeg) M) (fun r10 M9 => bnd v4 12 (lt (sI M9 21 i0 (v4 : Int32).toNatClampNeg r10) fun M12 => bnd v4 12 ((if (M12.1 21 i0 (v4 : Int32).toNatClampNeg) = n6 then F_R_absorb_b120 (F_R_absorb_b68 n) i0 i1 v3 v4 M12 else F_R_absorb_b120 (F_R_absorb_b68 n) i0 i1 1 v4 M12)))))))
def F_R_absorb_b9  : Nat → Nat → Nat → Int32 → Int32 → Mm → Option (Int32 × Mm)
  | 0, _, _, _, _, _ => none
  | n + 1, i0, i1, v3, v4, M => (if 12 ≤ v4 then F_R_absorb_b68 fuel i0 i1 v3 0 M else bnd v4 12 (lt (M.1 20 i0 (v4 : Int32).toNatClampNeg : Int32) fun n17 => bnd v4 12 (bd (F_T_joined n17 (M.1 20 i1 (v4 : Int32).toNatClampNeg) M) (fun r21 M20 => bnd v4 12 (lt (sI M20 20 i0 (v4 : Int32).toNatClampNeg r21) fun M23 => bnd v4 12 ((if (M23.1 20 i0 (v4 : Int32).toNatClampNeg) = n17 then F_R_absorb_b59 (F_R_absorb_b9 n) i0 i1 v3 v4 M23 else F_R_absorb_b59 (F_R_absorb_b9 n) i0 i1 1 v4 M23)))))))
def F_R_absorb (i0 : Nat) (i1 : Nat) (M : Mm) : Option (Int32 × Mm) := bd (F_R_absorbSubs i0 i1 M) (fun r28 M27 => F_R_absorb_b9 fuel i0 i1 r28 0 M27)
def F_W_meet_b28  (v2 : Int32) (i3 : Nat) (M : Mm) : Option (Int32 × Mm) := bnd v2 48 ((if (M.1 16 0 (v2 : Int32).toNatClampNeg) = 0 then bv (F_W_reach v2 i3 M) (fun M14 => some (0, M14)) else bnd v2 48 ((if (M.1 19 ((v2 : Int32).toNatClampNeg + 2) 2) = (M.1 19 i3 2) then bnd v2 48 (bd (F_R_absorb ((v2 : Int32).toNatClampNeg + 2) i3 M) (fun r8 M7 => (if r8 = 0 then some (0, M7) else bnd v2 48 (lt (sI M7 17 0 (v2 : Int32).toNatClampNeg (vp_nar .boolean 1)) fun M11 => some (0, M11))))) else lt (sI M 14 0 9 v2) fun M12 => some (4, M12)))))
def F_W_meet (v1 : Int32) (v2 : Int32) (i3 : Nat) (M : Mm) : Option (Int32 × Mm) := (if v2 < (M.1 4 0 3) then (if v1 < v2 then F_W_meet_b28 v2 i3 M else bd (F_R_hasRaw i3 M) (fun r19 M18 => (if r19 = 0 then F_W_meet_b28 v2 i3 M18 else some (8, M18)))) else some (5, M))
def F_M_covers (v1 : Int32) (v2 : Int32) (M : Mm) : Option (Int32 × Mm) := bnd v1 3 ((if v2 < (M.1 8 0 (v1 : Int32).toNatClampNeg) then some (0, M) else bnd v1 3 ((if (M.1 9 0 (v1 : Int32).toNatClampNeg) ≤ v2 then some (0, M) else some (1, M)))))
def F_R_catchIn (i0 : Nat) (i1 : Nat) (v2 : Int32) (M : Mm) : Option (Mm) := bv (F_R_copy i0 i1 M) (fun M2 => bnd 0 12 (lt (sI M2 21 i0 (0 : Int32).toNatClampNeg v2) fun M4 => lt (sI M4 19 i0 2 1) fun M5 => some M5))
def F_W_meetHandlers_b105 (K2 : Int32 → Int32 → Mm → Option (Int32 × Mm)) (v1 : Int32) (v2 : Int32) (M : Mm) : Option (Int32 × Mm) := lt (v2 + 1) fun n1 => K2 v1 n1 M
def F_W_meetHandlers_b2  : Nat → Int32 → Int32 → Mm → Option (Int32 × Mm)
  | 0, _, _, _ => none
  | n + 1, v1, v2, M => (if (M.1 4 0 8) ≤ v2 then some (0, M) else bd (F_M_covers v2 v1 M) (fun r5 M4 => (if r5 = 0 then F_W_meetHandlers_b105 (F_W_meetHandlers_b2 n) v1 v2 M4 else bnd v1 48 (bd (F_R_hasRawLocal ((v1 : Int32).toNatClampNeg + 2) M4) (fun r10 M9 => (if r10 = 0 then (if (M9.1 4 0 13) = 0 then some (3, M9) else bnd v1 48 (bnd v2 3 (bv (F_R_catchIn 1 ((v1 : Int32).toNatClampNeg + 2) ((16 : Int32) + (M9.1 11 0 (v2 : Int32).toNatClampNeg)) M9) (fun M16 => bnd v2 3 (bd (F_W_meet ((-1)) (M16.1 10 0 (v2 : Int32).toNatClampNeg) 1 M16) (fun r20 M19 => (if r20 = 0 then F_W_meetHandlers_b105 (F_W_meetHandlers_b2 n) v1 v2 M19 else some (r20, M19)))))))) else some (8, M9)))))))
def F_W_meetHandlers (v1 : Int32) (M : Mm) : Option (Int32 × Mm) := F_W_meetHandlers_b2 fuel v1 0 M
def F_G_isReturn (v0 : Int32) (M : Mm) : Option (Int32 × Mm) := (if v0 < 2000 then some (0, M) else (if 2048 ≤ v0 then some (0, M) else some (1, M)))
def P_G_isReturn (v0 : Int32) (M : Mm) : Int32 := (if v0 < 2000 then 0 else (if 2048 ≤ v0 then 0 else 1))
theorem p_G_isReturn (v0 : Int32) (M : Mm) : F_G_isReturn v0 M = some (P_G_isReturn v0 M, M) := by
  unfold F_G_isReturn P_G_isReturn
  refine q_i ?_ ?_
  · rfl
  · refine q_i ?_ ?_
    · rfl
    · rfl
theorem z_G_isReturn (v0 : Int32) (M : Mm) : zo (P_G_isReturn v0 M) := by
  rw [P_G_isReturn]
  refine zo_i ?_ ?_
  · exact zo_0
  · refine zo_i ?_ ?_
    · exact zo_0
    · exact zo_1
def F_W_fitsLocal (v1 : Int32) (v2 : Int32) (M : Mm) : Option (Int32 × Mm) := lt (P_G_widthOf v2 M) fun r2 => (if (M.1 4 0 12) < (v1 + r2) then some (0, M) else some (1, M))
def P_W_fitsLocal (v1 : Int32) (v2 : Int32) (M : Mm) : Int32 := lt (P_G_widthOf v2 M) fun r2 => (if (M.1 4 0 12) < (v1 + r2) then 0 else 1)
theorem p_W_fitsLocal (v1 : Int32) (v2 : Int32) (M : Mm) : F_W_fitsLocal v1 v2 M = some (P_W_fitsLocal v1 v2 M, M) := by
  unfold F_W_fitsLocal P_W_fitsLocal
  refine q_l ?_
  refine q_i ?_ ?_
  · rfl
  · rfl
theorem z_W_fitsLocal (v1 : Int32) (v2 : Int32) (M : Mm) : zo (P_W_fitsLocal v1 v2 M) := by
  rw [P_W_fitsLocal]
  refine zo_l ?_
  refine zo_i ?_ ?_
  · exact zo_0
  · exact zo_1
def F_G_isWide (v0 : Int32) (M : Mm) : Option (Int32 × Mm) := (if v0 = 3 then some (1, M) else (if v0 = 4 then some (1, M) else some (0, M)))
def P_G_isWide (v0 : Int32) (M : Mm) : Int32 := (if v0 = 3 then 1 else (if v0 = 4 then 1 else 0))
theorem p_G_isWide (v0 : Int32) (M : Mm) : F_G_isWide v0 M = some (P_G_isWide v0 M, M) := by
  unfold F_G_isWide P_G_isWide
  refine q_i ?_ ?_
  · rfl
  · refine q_i ?_ ?_
    · rfl
    · rfl
theorem z_G_isWide (v0 : Int32) (M : Mm) : zo (P_G_isWide v0 M) := by
  rw [P_G_isWide]
  refine zo_i ?_ ?_
  · exact zo_1
  · refine zo_i ?_ ?_
    · exact zo_1
    · exact zo_0
def F_R_touchAll_b37 (K2 : Nat → Int32 → Int32 → Mm → Option (Mm)) (i0 : Nat) (v1 : Int32) (v2 : Int32) (M : Mm) : Option (Mm) := lt (v2 + 1) fun n1 => K2 i0 v1 n1 M
def F_R_touchAll_b2  : Nat → Nat → Int32 → Int32 → Mm → Option (Mm)
  | 0, _, _, _, _ => none
  | n + 1, i0, v1, v2, M => (if 48 ≤ v2 then some M else (if (lg_cmp ((M.2 19 i0 3 : Int64) >>> ((v2 : Int32).toInt64 &&& 63)) 0) = 0 then some M else lt (P_R_isIn i0 v2 M) fun r5 => (if r5 = 0 then F_R_touchAll_b37 (F_R_touchAll_b2 n) i0 v1 v2 M else bnd v2 48 (bnd v2 48 (lt (sI M 22 i0 (v2 : Int32).toNatClampNeg ((M.1 22 i0 (v2 : Int32).toNatClampNeg) ||| v1)) fun M9 => F_R_touchAll_b37 (F_R_touchAll_b2 n) i0 v1 v2 M9)))))
def F_R_touchAll (i0 : Nat) (v1 : Int32) (M : Mm) : Option (Mm) := F_R_touchAll_b2 fuel i0 v1 0 M
def F_R_touch_b17  (j0 : Nat) (s1 : Int32) (M : Mm) : Option (Mm) := bv (F_R_touchAll j0 s1 M) (fun M2 => some M2)
def F_R_touch (i0 : Nat) (v1 : Int32) (v2 : Int32) (M : Mm) : Option (Mm) := lt (P_G_isWide v2 M) fun r4 => (if r4 = 0 then F_R_touch_b17 i0 ((1 : Int32) <<< (v1 &&& 31)) M else F_R_touch_b17 i0 ((3 : Int32) <<< (v1 &&& 31)) M)
def F_R_push_b8  : Nat → Nat → Int32 → Int32 → Int32 → Int32 → Mm → Option (Int32 × Mm)
  | 0, _, _, _, _, _, _ => none
  | n + 1, i0, v1, v2, v3, v4, M => (if (M.1 19 i0 2) ≤ v4 then (if v3 ≤ v2 then bnd (M.1 19 i0 2) 12 (lt (sI M 21 i0 (M.1 19 i0 2 : Int32).toNatClampNeg v1) fun M4 => lt (sI M4 19 i0 2 ((M4.1 19 i0 2) + 1)) fun M5 => some (0, M5)) else some (3, M)) else bnd v4 12 (lt (P_G_widthOf (M.1 21 i0 (v4 : Int32).toNatClampNeg) M) fun r8 => lt (v3 + r8 : Int32) fun n9 => lt (v4 + 1) fun n10 => (F_R_push_b8 n) i0 v1 v2 n9 n10 M))
def F_R_push (i0 : Nat) (v1 : Int32) (v2 : Int32) (M : Mm) : Option (Int32 × Mm) := lt (P_G_widthOf v1 M) fun r12 => F_R_push_b8 fuel i0 v1 v2 r12 0 M
def F_W_load (v1 : Int32) (M : Mm) : Option (Int32 × Mm) := bnd v1 12 (lt (M.1 20 0 (v1 : Int32).toNatClampNeg : Int32) fun n2 => (if n2 = 0 then some (2, M) else lt (P_G_isReturn n2 M) fun r5 => (if r5 = 0 then lt (P_W_fitsLocal v1 n2 M) fun r8 => (if r8 = 0 then some (2, M) else bv (F_R_touch 0 v1 n2 M) (fun M11 => bd (F_R_push 0 n2 (M11.1 4 0 13) M11) (fun r14 M13 => some (r14, M13)))) else some (2, M))))
def F_R_top (i0 : Nat) (v1 : Int32) (M : Mm) : Option (Int32 × Mm) := (if (M.1 19 i0 2) ≤ v1 then some ((-1), M) else bnd ((M.1 19 i0 2) - 1 - v1) 12 (some (M.1 21 i0 ((M.1 19 i0 2) - 1 - v1 : Int32).toNatClampNeg, M)))
def F_R_drop (i0 : Nat) (v1 : Int32) (M : Mm) : Option (Mm) := lt (sI M 19 i0 2 ((M.1 19 i0 2) - v1)) fun M1 => some M1
def F_R_store_b27  (i0 : Nat) (v1 : Int32) (v2 : Int32) (M : Mm) : Option (Mm) := bnd v1 12 (lt (sI M 20 i0 (v1 : Int32).toNatClampNeg v2) fun M2 => lt (P_G_isWide v2 M2) fun r4 => (if r4 = 0 then some M2 else bnd (v1 + 1) 12 (lt (sI M2 20 i0 (v1 + 1 : Int32).toNatClampNeg 0) fun M7 => some M7)))
def F_R_store (i0 : Nat) (v1 : Int32) (v2 : Int32) (M : Mm) : Option (Mm) := (if v1 ≤ 0 then F_R_store_b27 i0 v1 v2 M else bnd (v1 - 1) 12 (lt (P_G_isWide (M.1 20 i0 (v1 - 1 : Int32).toNatClampNeg) M) fun r11 => (if r11 = 0 then F_R_store_b27 i0 v1 v2 M else bnd (v1 - 1) 12 (lt (sI M 20 i0 (v1 - 1 : Int32).toNatClampNeg 0) fun M14 => F_R_store_b27 i0 v1 v2 M14))))
def F_W_store (v1 : Int32) (M : Mm) : Option (Int32 × Mm) := bd (F_R_top 0 0 M) (fun r3 M2 => (if r3 = ((-1)) then some (2, M2) else (if r3 = 0 then some (2, M2) else lt (P_W_fitsLocal v1 r3 M2) fun r7 => (if r7 = 0 then some (2, M2) else bv (F_R_drop 0 1 M2) (fun M10 => bv (F_R_store 0 v1 r3 M10) (fun M12 => bv (F_R_touch 0 v1 r3 M12) (fun M14 => some (0, M14))))))))
def F_W_increase (v1 : Int32) (M : Mm) : Option (Int32 × Mm) := bnd v1 12 ((if (M.1 20 0 (v1 : Int32).toNatClampNeg) = 1 then bv (F_R_touch 0 v1 1 M) (fun M4 => some (0, M4)) else some (2, M)))
def F_W_prepareReturn (v1 : Int32) (v2 : Int32) (M : Mm) : Option (Int32 × Mm) := bnd v2 12 (lt (M.1 20 0 (v2 : Int32).toNatClampNeg : Int32) fun n2 => lt (P_G_isReturn n2 M) fun r4 => (if r4 = 0 then some (2, M) else lt (n2 - 2000 : Int32) fun n6 => lt (P_R_isIn 0 n6 M) fun r8 => (if r8 = 0 then some (7, M) else bv (F_R_touch 0 v2 n2 M) (fun M11 => bnd v1 48 (bnd v1 48 (lt (sL M11 18 0 (v1 : Int32).toNatClampNeg ((M11.2 18 0 (v1 : Int32).toNatClampNeg) ||| ((1 : Int64) <<< ((n6 : Int32).toInt64 &&& 63)))) fun M14 => some (0, M14)))))))
def F_R_hasNarrow (i0 : Nat) (v1 : Int32) (M : Mm) : Option (Int32 × Mm) := (if (M.1 19 i0 2) ≤ v1 then some (0, M) else bnd ((M.1 19 i0 2) - 1 - v1) 12 (lt (P_G_isWide (M.1 21 i0 ((M.1 19 i0 2) - 1 - v1 : Int32).toNatClampNeg) M) fun r4 => (if r4 = 0 then some (1, M) else some (0, M))))
def F_W_takeIf (v1 : Int32) (v2 : Int32) (M : Mm) : Option (Int32 × Mm) := (if v1 = 0 then some (2, M) else bv (F_R_drop 0 v2 M) (fun M3 => some (0, M3)))
def F_W_pushBoth (v1 : Int32) (v2 : Int32) (M : Mm) : Option (Int32 × Mm) := bd (F_R_push 0 v1 (M.1 4 0 13) M) (fun r3 M2 => (if r3 = 0 then bd (F_R_push 0 v2 (M2.1 4 0 13) M2) (fun r7 M6 => some (r7, M6)) else some (r3, M2)))
def F_W_shuffle_b38  (v1 : Int32) (v2 : Int32) (M : Mm) : Option (Int32 × Mm) := bd (F_R_hasNarrow 0 0 M) (fun r3 M2 => (if r3 = 0 then some (2, M2) else (if v1 = 4 then bd (F_W_takeIf 1 1 M2) (fun r33 M32 => some (r33, M32)) else (if v1 = 5 then bd (F_R_push 0 v2 (M2.1 4 0 13) M2) (fun r30 M29 => some (r30, M29)) else bd (F_R_hasNarrow 0 1 M2) (fun r9 M8 => (if r9 = 0 then some (2, M8) else bd (F_R_top 0 1 M8) (fun r13 M12 => (if v1 = 8 then bd (F_W_pushBoth r13 v2 M12) (fun r27 M26 => some (r27, M26)) else bv (F_R_drop 0 2 M12) (fun M16 => bd (F_W_pushBoth v2 r13 M16) (fun r19 M18 => (if r19 = 0 then (if v1 = 6 then bd (F_R_push 0 v2 (M18.1 4 0 13) M18) (fun r24 M23 => some (r24, M23)) else some (r19, M18)) else some (r19, M18))))))))))))
def F_W_shuffle (v1 : Int32) (M : Mm) : Option (Int32 × Mm) := bd (F_R_top 0 0 M) (fun r36 M35 => (if v1 = 8 then lt (P_G_isWide r36 M35) fun r39 => (if r39 = 0 then F_W_shuffle_b38 v1 r36 M35 else bd (F_R_push 0 r36 (M35.1 4 0 13) M35) (fun r43 M42 => some (r43, M42))) else F_W_shuffle_b38 v1 r36 M35))
def F_W_exchangeIf (v1 : Int32) (v2 : Int32) (v3 : Int32) (M : Mm) : Option (Int32 × Mm) := (if v1 = 0 then some (2, M) else bv (F_R_drop 0 v2 M) (fun M3 => bd (F_R_push 0 v3 (M3.1 4 0 13) M3) (fun r6 M5 => some (r6, M5))))
def F_W_calculate_b90  (s1 : Int32) (s2 : Int32) (s3 : Int32) (M : Mm) : Option (Int32 × Mm) := bd (F_W_exchangeIf s1 s2 s3 M) (fun r3 M2 => some (r3, M2))
def F_W_calculate_b78  (v1 : Int32) (v2 : Int32) (s1 : Int32) (M : Mm) : Option (Int32 × Mm) := (if v1 = 9 then F_W_calculate_b90 s1 2 v2 M else F_W_calculate_b90 s1 2 1 M)
def F_W_calculate_b77  (v1 : Int32) (v2 : Int32) (M : Mm) : Option (Int32 × Mm) := F_W_calculate_b78 v1 v2 0 M
def F_W_calculate_b38  (v1 : Int32) (v2 : Int32) (v3 : Int32) (s0 : Int32) (M : Mm) : Option (Int32 × Mm) := (if v1 = 10 then bd (F_W_exchangeIf s0 1 v3 M) (fun r13 M12 => some (r13, M12)) else (if s0 = 0 then F_W_calculate_b77 v1 v2 M else bd (F_R_top 0 1 M) (fun r9 M8 => (if r9 = v2 then F_W_calculate_b78 v1 v2 1 M8 else F_W_calculate_b77 v1 v2 M8))))
def F_W_calculate (v1 : Int32) (v2 : Int32) (v3 : Int32) (M : Mm) : Option (Int32 × Mm) := (if v1 = 1 then bd (F_R_push 0 v2 (M.1 4 0 13) M) (fun r21 M20 => some (r21, M20)) else bd (F_R_top 0 0 M) (fun r17 M16 => (if r17 = v2 then F_W_calculate_b38 v1 v2 v3 1 M16 else F_W_calculate_b38 v1 v2 v3 0 M16)))
def F_T_isRefOrNull (v1 : Int32) (M : Mm) : Option (Int32 × Mm) := (if v1 = 5 then some (1, M) else lt (P_T_isRef v1 M) fun r3 => (if r3 = 0 then some (0, M) else some (1, M)))
def P_T_isRefOrNull (v1 : Int32) (M : Mm) : Int32 := (if v1 = 5 then 1 else lt (P_T_isRef v1 M) fun r3 => (if r3 = 0 then 0 else 1))
theorem p_T_isRefOrNull (v1 : Int32) (M : Mm) : F_T_isRefOrNull v1 M = some (P_T_isRefOrNull v1 M, M) := by
  unfold F_T_isRefOrNull P_T_isRefOrNull
  refine q_i ?_ ?_
  · rfl
  · refine q_l ?_
    refine q_i ?_ ?_
    · rfl
    · rfl
theorem z_T_isRefOrNull (v1 : Int32) (M : Mm) : zo (P_T_isRefOrNull v1 M) := by
  rw [P_T_isRefOrNull]
  refine zo_i ?_ ?_
  · exact zo_1
  · refine zo_l ?_
    refine zo_i ?_ ?_
    · exact zo_0
    · exact zo_1
def F_T_goesFor_b71  (v3 : Int32) (v4 : Int32) (M : Mm) : Option (Int32 × Mm) := (if v3 = 12 then some (0, M) else (if v4 = 12 then some (0, M) else (if v4 = 16 then some (1, M) else (if 64 ≤ v3 then some (0, M) else (if v4 < 64 then bnd (v4 - 16) 10 ((if (M.1 3 0 (v4 - 16 : Int32).toNatClampNeg) = 0 then bd (F_T_isBelow (v3 - 16) (v4 - 16) M) (fun r10 M9 => (if r10 = 0 then some (0, M9) else some (1, M9))) else some (1, M))) else some (0, M))))))
def F_T_goesFor_b40  : Nat → Int32 → Int32 → Int32 → Mm → Option (Int32 × Mm)
  | 0, _, _, _, _ => none
  | n + 1, v3, v4, v5, M => (if 3 ≤ v5 then F_T_goesFor_b71 v3 v4 M else (if v3 < 64 then F_T_goesFor_b71 v3 v4 M else (if v4 < 64 then F_T_goesFor_b71 v3 v4 M else lt (v3 + (-64)) fun n15 => lt (v4 + (-64)) fun n16 => lt (v5 + 1) fun n17 => (F_T_goesFor_b40 n) n15 n16 n17 M)))
def F_T_goesFor (v1 : Int32) (v2 : Int32) (M : Mm) : Option (Int32 × Mm) := (if v1 = v2 then some (1, M) else lt (P_T_isRefOrNull v1 M) fun r20 => (if r20 = 0 then some (0, M) else lt (P_T_isRef v2 M) fun r23 => (if r23 = 0 then some (0, M) else (if v1 = 5 then some (1, M) else F_T_goesFor_b40 fuel v1 v2 0 M))))
def F_W_decide_b120  (s1 : Int32) (M : Mm) : Option (Int32 × Mm) := bd (F_W_takeIf s1 1 M) (fun r3 M2 => some (r3, M2))
def F_W_decide (v1 : Int32) (M : Mm) : Option (Int32 × Mm) := bd (F_R_top 0 0 M) (fun r6 M5 => (if v1 = 13 then lt (P_T_isRefOrNull r6 M5) fun r9 => bd (F_W_takeIf r9 1 M5) (fun r12 M11 => some (r12, M11)) else (if v1 = 18 then (if (M5.1 4 0 11) = 0 then some (0, M5) else bd (F_T_goesFor r6 (M5.1 4 0 11) M5) (fun r16 M15 => bd (F_W_takeIf r16 1 M15) (fun r19 M18 => some (r19, M18)))) else (if v1 = 19 then bd (F_T_goesFor r6 17 M5) (fun r22 M21 => bd (F_W_takeIf r22 1 M21) (fun r25 M24 => some (r25, M24))) else (if r6 = 1 then F_W_decide_b120 1 M5 else F_W_decide_b120 0 M5)))))
def F_R_enter (i0 : Nat) (v1 : Int32) (M : Mm) : Option (Mm) := lt (sL M 19 i0 3 ((M.2 19 i0 3) ||| ((1 : Int64) <<< ((v1 : Int32).toInt64 &&& 63)))) fun M1 => bnd v1 48 (lt (sI M1 22 i0 (v1 : Int32).toNatClampNeg 0) fun M3 => some M3)
def F_W_enterSub (v1 : Int32) (M : Mm) : Option (Int32 × Mm) := lt (P_R_isIn 0 v1 M) fun r2 => (if r2 = 0 then bv (F_R_enter 0 v1 M) (fun M5 => bd (F_R_push 0 ((2000 : Int32) + v1) (M5.1 4 0 13) M5) (fun r8 M7 => some (r8, M7))) else some (6, M))
def F_R_isOnStack_b2  : Nat → Nat → Int32 → Int32 → Mm → Option (Int32 × Mm)
  | 0, _, _, _, _ => none
  | n + 1, i0, v1, v2, M => (if (M.1 19 i0 2) ≤ v2 then some (0, M) else bnd v2 12 ((if (M.1 21 i0 (v2 : Int32).toNatClampNeg) = v1 then some (1, M) else lt (v2 + 1) fun n4 => (F_R_isOnStack_b2 n) i0 v1 n4 M)))
def F_R_isOnStack (i0 : Nat) (v1 : Int32) (M : Mm) : Option (Int32 × Mm) := F_R_isOnStack_b2 fuel i0 v1 0 M
def F_R_replace_b25 (K2 : Nat → Int32 → Int32 → Int32 → Mm → Option (Mm)) (i0 : Nat) (v1 : Int32) (v2 : Int32) (v3 : Int32) (M : Mm) : Option (Mm) := lt (v3 + 1) fun n1 => K2 i0 v1 v2 n1 M
def F_R_replace_b58 (K33 : Nat → Int32 → Int32 → Int32 → Mm → Option (Mm)) (i0 : Nat) (v1 : Int32) (v2 : Int32) (v3 : Int32) (M : Mm) : Option (Mm) := lt (v3 + 1) fun n2 => K33 i0 v1 v2 n2 M
def F_R_replace_b33  : Nat → Nat → Int32 → Int32 → Int32 → Mm → Option (Mm)
  | 0, _, _, _, _, _ => none
  | n + 1, i0, v1, v2, v3, M => (if (M.1 19 i0 2) ≤ v3 then some M else bnd v3 12 ((if (M.1 21 i0 (v3 : Int32).toNatClampNeg) = v1 then bnd v3 12 (lt (sI M 21 i0 (v3 : Int32).toNatClampNeg v2) fun M7 => F_R_replace_b58 (F_R_replace_b33 n) i0 v1 v2 v3 M7) else F_R_replace_b58 (F_R_replace_b33 n) i0 v1 v2 v3 M)))
def F_R_replace_b2  : Nat → Nat → Int32 → Int32 → Int32 → Mm → Option (Mm)
  | 0, _, _, _, _, _ => none
  | n + 1, i0, v1, v2, v3, M => (if 12 ≤ v3 then F_R_replace_b33 fuel i0 v1 v2 0 M else bnd v3 12 ((if (M.1 20 i0 (v3 : Int32).toNatClampNeg) = v1 then bnd v3 12 (lt (sI M 20 i0 (v3 : Int32).toNatClampNeg v2) fun M12 => F_R_replace_b25 (F_R_replace_b2 n) i0 v1 v2 v3 M12) else F_R_replace_b25 (F_R_replace_b2 n) i0 v1 v2 v3 M)))
def F_R_replace (i0 : Nat) (v1 : Int32) (v2 : Int32) (M : Mm) : Option (Mm) := F_R_replace_b2 fuel i0 v1 v2 0 M
def F_W_create (v1 : Int32) (M : Mm) : Option (Int32 × Mm) := bd (F_R_isOnStack 0 ((1000 : Int32) + v1) M) (fun r3 M2 => (if r3 = 0 then bv (F_R_replace 0 ((1000 : Int32) + v1) 0 M2) (fun M6 => bd (F_R_push 0 ((1000 : Int32) + v1) (M6.1 4 0 13) M6) (fun r9 M8 => some (r9, M8))) else some (2, M2)))
def F_W_build (v1 : Int32) (M : Mm) : Option (Int32 × Mm) := bd (F_R_top 0 0 M) (fun r3 M2 => lt (P_G_isRaw r3 M2) fun r5 => (if r5 = 0 then some (2, M2) else bnd (r3 - 1000) 48 ((if (M2.1 6 0 (r3 - 1000 : Int32).toNatClampNeg) = v1 then bv (F_R_drop 0 1 M2) (fun M10 => bv (F_R_replace 0 r3 ((16 : Int32) + v1) M10) (fun M12 => some (0, M12))) else some (2, M2)))))
def F_W_useObject_b97  (s1 : Int32) (M : Mm) : Option (Int32 × Mm) := bd (F_W_takeIf s1 2 M) (fun r3 M2 => some (r3, M2))
def F_W_useObject_b96   (M : Mm) : Option (Int32 × Mm) := F_W_useObject_b97 0 M
def F_W_useObject (v1 : Int32) (v2 : Int32) (v3 : Int32) (M : Mm) : Option (Int32 × Mm) := bd (F_R_top 0 0 M) (fun r6 M5 => (if v1 = 22 then bd (F_T_goesFor r6 ((16 : Int32) + v2) M5) (fun r14 M13 => bd (F_W_exchangeIf r14 1 v3 M13) (fun r17 M16 => some (r17, M16))) else (if v1 = 23 then bd (F_T_goesFor r6 v3 M5) (fun r20 M19 => (if r20 = 0 then F_W_useObject_b96 M19 else bd (F_R_top 0 1 M19) (fun r24 M23 => bd (F_T_goesFor r24 ((16 : Int32) + v2) M23) (fun r27 M26 => (if r27 = 0 then F_W_useObject_b96 M26 else F_W_useObject_b97 1 M26))))) else (if v1 = 24 then bd (F_T_goesFor r6 v2 M5) (fun r31 M30 => bd (F_W_exchangeIf r31 1 v3 M30) (fun r34 M33 => some (r34, M33))) else lt (P_T_isRefOrNull r6 M5) fun r8 => bd (F_W_exchangeIf r8 1 v2 M5) (fun r11 M10 => some (r11, M10))))))
def F_W_isRowOf (v0 : Int32) (v1 : Int32) (M : Mm) : Option (Int32 × Mm) := (if v0 = 5 then some (1, M) else (if v0 = v1 then some (1, M) else some (0, M)))
def P_W_isRowOf (v0 : Int32) (v1 : Int32) (M : Mm) : Int32 := (if v0 = 5 then 1 else (if v0 = v1 then 1 else 0))
theorem p_W_isRowOf (v0 : Int32) (v1 : Int32) (M : Mm) : F_W_isRowOf v0 v1 M = some (P_W_isRowOf v0 v1 M, M) := by
  unfold F_W_isRowOf P_W_isRowOf
  refine q_i ?_ ?_
  · rfl
  · refine q_i ?_ ?_
    · rfl
    · rfl
theorem z_W_isRowOf (v0 : Int32) (v1 : Int32) (M : Mm) : zo (P_W_isRowOf v0 v1 M) := by
  rw [P_W_isRowOf]
  refine zo_i ?_ ?_
  · exact zo_1
  · refine zo_i ?_ ?_
    · exact zo_1
    · exact zo_0
def F_W_elementOf (v0 : Int32) (M : Mm) : Option (Int32 × Mm) := (if v0 = 76 then some (1, M) else some (v0 - 64, M))
def P_W_elementOf (v0 : Int32) (M : Mm) : Int32 := (if v0 = 76 then 1 else v0 - 64)
theorem p_W_elementOf (v0 : Int32) (M : Mm) : F_W_elementOf v0 M = some (P_W_elementOf v0 M, M) := by
  unfold F_W_elementOf P_W_elementOf
  refine q_i ?_ ?_
  · rfl
  · rfl
def F_W_useRow_b47  (v2 : Int32) (s1 : Int32) (M : Mm) : Option (Int32 × Mm) := bd (F_W_exchangeIf s1 1 (v2 + 64) M) (fun r3 M2 => some (r3, M2))
def F_W_useRow_b82  (v2 : Int32) (s1 : Int32) (M : Mm) : Option (Int32 × Mm) := lt (P_W_elementOf v2 M) fun r5 => bd (F_W_exchangeIf s1 2 r5 M) (fun r8 M7 => some (r8, M7))
def F_W_useRow_b81  (v2 : Int32) (M : Mm) : Option (Int32 × Mm) := F_W_useRow_b82 v2 0 M
def F_W_useRow_b139  (s1 : Int32) (M : Mm) : Option (Int32 × Mm) := bd (F_W_takeIf s1 3 M) (fun r11 M10 => some (r11, M10))
def F_W_useRow_b138   (M : Mm) : Option (Int32 × Mm) := F_W_useRow_b139 0 M
def F_W_useRow_b166  (s1 : Int32) (M : Mm) : Option (Int32 × Mm) := bd (F_W_exchangeIf s1 1 1 M) (fun r14 M13 => some (r14, M13))
def F_W_useRow_b161   (M : Mm) : Option (Int32 × Mm) := F_W_useRow_b166 1 M
def F_W_useRow (v1 : Int32) (v2 : Int32) (M : Mm) : Option (Int32 × Mm) := bd (F_R_top 0 0 M) (fun r17 M16 => (if v1 = 26 then (if r17 = 1 then F_W_useRow_b47 v2 1 M16 else F_W_useRow_b47 v2 0 M16) else (if v1 = 27 then (if r17 = 1 then bd (F_R_top 0 1 M16) (fun r26 M25 => lt (P_W_isRowOf r26 v2 M25) fun r28 => (if r28 = 0 then F_W_useRow_b81 v2 M25 else F_W_useRow_b82 v2 1 M25)) else F_W_useRow_b81 v2 M16) else (if v1 = 28 then lt (P_W_elementOf v2 M16) fun r31 => bd (F_T_goesFor r17 r31 M16) (fun r34 M33 => (if r34 = 0 then F_W_useRow_b138 M33 else bd (F_R_top 0 1 M33) (fun r38 M37 => (if r38 = 1 then bd (F_R_top 0 2 M37) (fun r42 M41 => lt (P_W_isRowOf r42 v2 M41) fun r44 => (if r44 = 0 then F_W_useRow_b138 M41 else F_W_useRow_b139 1 M41)) else F_W_useRow_b138 M37)))) else (if r17 = 5 then F_W_useRow_b161 M16 else lt (P_T_isRow r17 M16) fun r20 => (if r20 = 0 then F_W_useRow_b166 0 M16 else F_W_useRow_b161 M16))))))
def F_W_perform (v1 : Int32) (M : Mm) : Option (Int32 × Mm) := bnd v1 48 (lt (M.1 6 0 (v1 : Int32).toNatClampNeg : Int32) fun n2 => bnd v1 48 (lt (M.1 7 0 (v1 : Int32).toNatClampNeg : Int32) fun n4 => bnd v1 48 (lt (M.1 5 0 (v1 : Int32).toNatClampNeg : Int32) fun n6 => (if n6 = 1 then bd (F_W_calculate n6 n2 n4 M) (fun r9 M8 => some (r9, M8)) else (if n6 = 2 then bd (F_W_load n2 M) (fun r12 M11 => some (r12, M11)) else (if n6 = 3 then bd (F_W_store n2 M) (fun r15 M14 => some (r15, M14)) else (if n6 = 4 then bd (F_W_shuffle n6 M) (fun r18 M17 => some (r18, M17)) else (if n6 = 5 then bd (F_W_shuffle n6 M) (fun r21 M20 => some (r21, M20)) else (if n6 = 6 then bd (F_W_shuffle n6 M) (fun r24 M23 => some (r24, M23)) else (if n6 = 7 then bd (F_W_shuffle n6 M) (fun r27 M26 => some (r27, M26)) else (if n6 = 8 then bd (F_W_shuffle n6 M) (fun r30 M29 => some (r30, M29)) else (if n6 = 9 then bd (F_W_calculate n6 n2 n4 M) (fun r33 M32 => some (r33, M32)) else (if n6 = 10 then bd (F_W_calculate n6 n2 n4 M) (fun r36 M35 => some (r36, M35)) else (if n6 = 11 then bd (F_W_calculate n6 n2 n4 M) (fun r39 M38 => some (r39, M38)) else (if n6 = 12 then bd (F_W_decide n6 M) (fun r42 M41 => some (r42, M41)) else (if n6 = 13 then bd (F_W_decide n6 M) (fun r45 M44 => some (r45, M44)) else (if n6 = 14 then some (0, M) else (if n6 = 15 then bd (F_W_enterSub n4 M) (fun r48 M47 => some (r48, M47)) else (if n6 = 16 then bd (F_W_prepareReturn v1 n2 M) (fun r51 M50 => some (r51, M50)) else (if n6 = 17 then bd (F_W_decide n6 M) (fun r54 M53 => some (r54, M53)) else (if n6 = 18 then bd (F_W_decide n6 M) (fun r57 M56 => some (r57, M56)) else (if n6 = 19 then bd (F_W_decide n6 M) (fun r60 M59 => some (r60, M59)) else (if n6 = 20 then bd (F_W_create v1 M) (fun r63 M62 => some (r63, M62)) else (if n6 = 21 then bd (F_W_build n2 M) (fun r66 M65 => some (r66, M65)) else (if n6 = 22 then bd (F_W_useObject n6 n2 n4 M) (fun r69 M68 => some (r69, M68)) else (if n6 = 23 then bd (F_W_useObject n6 n2 n4 M) (fun r72 M71 => some (r72, M71)) else (if n6 = 24 then bd (F_W_useObject n6 n2 n4 M) (fun r75 M74 => some (r75, M74)) else (if n6 = 25 then bd (F_W_useObject n6 n2 n4 M) (fun r78 M77 => some (r78, M77)) else (if n6 = 26 then bd (F_W_useRow n6 n2 M) (fun r81 M80 => some (r81, M80)) else (if n6 = 27 then bd (F_W_useRow n6 n2 M) (fun r84 M83 => some (r84, M83)) else (if n6 = 28 then bd (F_W_useRow n6 n2 M) (fun r87 M86 => some (r87, M86)) else (if n6 = 29 then bd (F_W_useRow n6 n2 M) (fun r90 M89 => some (r90, M89)) else (if n6 = 30 then bd (F_W_increase n2 M) (fun r93 M92 => some (r93, M92)) else some (0, M))))))))))))))))))))))))))))))))))
def F_R_comeBack_b70 (K39 : Nat → Nat → Int32 → Int32 → Int32 → Mm → Option (Mm)) (i0 : Nat) (i1 : Nat) (v3 : Int32) (v4 : Int32) (v5 : Int32) (M : Mm) : Option (Mm) := lt (v5 + 1) fun n1 => K39 i0 i1 v3 v4 n1 M
def F_R_comeBack_b39  : Nat → Nat → Nat → Int32 → Int32 → Int32 → Mm → Option (Mm)
  | 0, _, _, _, _, _, _ => none
  | n + 1, i0, i1, v3, v4, v5, M => (if 12 ≤ v5 then bv (F_R_touchAll i0 v4 M) (fun M4 => bv (F_R_replace i0 ((2000 : Int32) + v3) 0 M4) (fun M6 => some M6)) else (if ((v4 >>> (v5 &&& 31)) &&& 1) = 0 then F_R_comeBack_b70 (F_R_comeBack_b39 n) i0 i1 v3 v4 v5 M else bnd v5 12 (bnd v5 12 (lt (sI M 20 i0 (v5 : Int32).toNatClampNeg (M.1 20 i1 (v5 : Int32).toNatClampNeg)) fun M10 => F_R_comeBack_b70 (F_R_comeBack_b39 n) i0 i1 v3 v4 v5 M10))))
def F_R_comeBack (i0 : Nat) (i1 : Nat) (i2 : Nat) (v3 : Int32) (M : Mm) : Option (Mm) := bv (F_R_copy i0 i2 M) (fun M12 => lt (sA M12 21 i0 (va_cpy (M12.1 21 i1) (M12.1 21 i0) (0 : Int32).toNatClampNeg (0 : Int32).toNatClampNeg (12 : Int32).toNatClampNeg)) fun M13 => lt (sI M13 19 i0 2 (M13.1 19 i1 2)) fun M14 => bnd v3 48 (lt (M14.1 22 i1 (v3 : Int32).toNatClampNeg : Int32) fun n16 => F_R_comeBack_b39 fuel i0 i1 v3 n16 0 M14))
def F_W_comeBack_b114 (K24 : Int32 → Int32 → Int32 → Mm → Option (Int32 × Mm)) (v1 : Int32) (v2 : Int32) (v3 : Int32) (M : Mm) : Option (Int32 × Mm) := lt (v3 + 1) fun n1 => K24 v1 v2 n1 M
def F_W_comeBack_b24  : Nat → Int32 → Int32 → Int32 → Mm → Option (Int32 × Mm)
  | 0, _, _, _, _ => none
  | n + 1, v1, v2, v3, M => (if (M.1 4 0 3) ≤ v3 then some (0, M) else bnd v3 48 ((if (M.1 16 0 (v3 : Int32).toNatClampNeg) = 0 then F_W_comeBack_b114 (F_W_comeBack_b24 n) v1 v2 v3 M else bnd v3 48 ((if (M.1 5 0 (v3 : Int32).toNatClampNeg) = 15 then bnd v3 48 ((if (M.1 7 0 (v3 : Int32).toNatClampNeg) = v2 then bnd v3 48 (bv (F_R_comeBack 1 0 ((v3 : Int32).toNatClampNeg + 2) v2 M) (fun M11 => bd (F_W_meet v1 (v3 + 1) 1 M11) (fun r14 M13 => (if r14 = 0 then F_W_comeBack_b114 (F_W_comeBack_b24 n) v1 v2 v3 M13 else some (r14, M13))))) else F_W_comeBack_b114 (F_W_comeBack_b24 n) v1 v2 v3 M)) else F_W_comeBack_b114 (F_W_comeBack_b24 n) v1 v2 v3 M)))))
def F_W_comeBack (v1 : Int32) (M : Mm) : Option (Int32 × Mm) := bnd v1 48 (bnd (M.1 6 0 (v1 : Int32).toNatClampNeg) 12 (lt ((M.1 20 0 (M.1 6 0 (v1 : Int32).toNatClampNeg : Int32).toNatClampNeg) - 2000 : Int32) fun n18 => F_W_comeBack_b24 fuel v1 n18 0 M))
def F_W_wakeReturns_b35 (K2 : Int32 → Int32 → Mm → Option (Mm)) (v1 : Int32) (v2 : Int32) (M : Mm) : Option (Mm) := lt (v2 + 1) fun n1 => K2 v1 n1 M
def F_W_wakeReturns_b2  : Nat → Int32 → Int32 → Mm → Option (Mm)
  | 0, _, _, _ => none
  | n + 1, v1, v2, M => (if (M.1 4 0 3) ≤ v2 then some M else bnd v2 48 ((if (lg_cmp ((M.2 18 0 (v2 : Int32).toNatClampNeg : Int64) >>> ((v1 : Int32).toInt64 &&& 63) &&& 1) 0) = 0 then F_W_wakeReturns_b35 (F_W_wakeReturns_b2 n) v1 v2 M else bnd v2 48 (lt (sI M 17 0 (v2 : Int32).toNatClampNeg (vp_nar .boolean 1)) fun M6 => F_W_wakeReturns_b35 (F_W_wakeReturns_b2 n) v1 v2 M6))))
def F_W_wakeReturns (v1 : Int32) (M : Mm) : Option (Mm) := F_W_wakeReturns_b2 fuel v1 0 M
def F_W_leave (v1 : Int32) (M : Mm) : Option (Int32 × Mm) := bnd v1 48 (lt (M.1 7 0 (v1 : Int32).toNatClampNeg : Int32) fun n2 => bnd v1 48 (lt (M.1 5 0 (v1 : Int32).toNatClampNeg : Int32) fun n4 => (if n4 = 12 then bd (F_W_meet v1 (v1 + 1) 0 M) (fun r10 M9 => (if r10 = 0 then bd (F_W_meet v1 n2 0 M9) (fun r14 M13 => some (r14, M13)) else some (r10, M9))) else (if n4 = 13 then bd (F_W_meet v1 (v1 + 1) 0 M) (fun r17 M16 => (if r17 = 0 then bd (F_W_meet v1 n2 0 M16) (fun r21 M20 => some (r21, M20)) else some (r17, M16))) else (if n4 = 14 then bd (F_W_meet v1 n2 0 M) (fun r24 M23 => some (r24, M23)) else (if n4 = 15 then bd (F_W_meet v1 n2 0 M) (fun r27 M26 => bv (F_W_wakeReturns n2 M26) (fun M29 => some (r27, M29))) else (if n4 = 16 then bd (F_W_meet v1 (v1 + 1) 0 M) (fun r32 M31 => some (r32, M31)) else (if n4 = 17 then bnd v1 48 (bd (F_W_meet v1 (M.1 6 0 (v1 : Int32).toNatClampNeg) 0 M) (fun r36 M35 => (if r36 = 0 then bd (F_W_meet v1 n2 0 M35) (fun r40 M39 => some (r40, M39)) else some (r36, M35)))) else (if n4 = 18 then some (0, M) else (if n4 = 19 then some (0, M) else bd (F_W_meet v1 (v1 + 1) 0 M) (fun r7 M6 => some (r7, M6))))))))))))
def F_W_look (v1 : Int32) (M : Mm) : Option (Int32 × Mm) := bnd v1 48 (lt (sI M 17 0 (v1 : Int32).toNatClampNeg (vp_nar .boolean 0)) fun M2 => lt (sI M2 14 0 9 v1) fun M3 => bd (F_W_meetHandlers v1 M3) (fun r6 M5 => (if r6 = 0 then bnd v1 48 (bv (F_R_copy 0 ((v1 : Int32).toNatClampNeg + 2) M5) (fun M10 => bd (F_W_perform v1 M10) (fun r13 M12 => (if r13 = 0 then bnd v1 48 ((if (M12.1 5 0 (v1 : Int32).toNatClampNeg) = 16 then bd (F_W_comeBack v1 M12) (fun r22 M21 => some (r22, M21)) else bd (F_W_leave v1 M12) (fun r19 M18 => some (r19, M18)))) else some (r13, M12))))) else some (r6, M5))))
def F_W_findChanged_b2  : Nat → Int32 → Mm → Option (Int32 × Mm)
  | 0, _, _ => none
  | n + 1, v1, M => (if (M.1 4 0 3) ≤ v1 then some (M.1 4 0 3, M) else bnd v1 48 ((if (M.1 17 0 (v1 : Int32).toNatClampNeg) = 0 then lt (v1 + 1) fun n4 => (F_W_findChanged_b2 n) n4 M else some (v1, M))))
def F_W_findChanged  (M : Mm) : Option (Int32 × Mm) := F_W_findChanged_b2 fuel 0 M
def F_W_run_b73  (v1 : Int32) (v2 : Int32) (M : Mm) : Option (Int32 × Mm) := (if v1 = 0 then (if (M.1 4 0 3) ≤ v2 then some (v1, M) else lt (sI M 14 0 9 v2) fun M3 => some (9, M3)) else some (v1, M))
def F_W_run_b24  : Nat → Int32 → Int32 → Mm → Option (Int32 × Mm)
  | 0, _, _, _ => none
  | n + 1, v1, v2, M => (if v1 = 0 then (if (M.1 4 0 3) ≤ v2 then F_W_run_b73 v1 v2 M else (if 2999 ≤ (M.1 14 0 8) then F_W_run_b73 v1 v2 M else lt (sI M 14 0 8 ((M.1 14 0 8) + 1)) fun M7 => bd (F_W_look v2 M7) (fun r10 M9 => bd (F_W_findChanged M9) (fun r13 M12 => (F_W_run_b24 n) r10 r13 M12)))) else F_W_run_b73 v1 v2 M)
def F_W_run  (M : Mm) : Option (Int32 × Mm) := bv (F_R_start 1 M) (fun M15 => bd (F_W_meet ((-1)) 0 1 M15) (fun r18 M17 => F_W_run_b24 fuel r18 0 M17))
def F_G_verify  (M : Mm) : Option (Int32 × Mm) := bv (F_W_forget M) (fun M2 => bd (F_O_findFault M2) (fun r5 M4 => lt (sI M4 0 0 4 r5) fun M6 => (if (M6.1 0 0 4) = ((-1)) then bd (F_W_run M6) (fun r10 M9 => (if r10 = 0 then lt (sI M9 0 0 5 ((M9.1 0 0 5) + 1)) fun M12 => some (0, M12) else lt (sI M9 0 0 4 (M9.1 14 0 9)) fun M13 => some (r10, M13))) else some (1, M6))))
def F_G_place  (M : Mm) : Option (Int32 × Mm) := some (M.1 0 0 4, M)
def P_G_place  (M : Mm) : Int32 := M.1 0 0 4
theorem p_G_place  (M : Mm) : F_G_place M = some (P_G_place M, M) := by
  unfold F_G_place P_G_place
  rfl
def F_JL_bitCount (v0 : Int64) (M : Mm) : Option (Int32 × Mm) := lt (v0 - (((v0 : Int64).toUInt64 >>> ((1 : Int32).toInt64.toUInt64 &&& Int64.toUInt64 63)).toInt64 &&& 6148914691236517205) : Int64) fun n1 => lt ((n1 &&& 3689348814741910323) + (((n1 : Int64).toUInt64 >>> ((2 : Int32).toInt64.toUInt64 &&& Int64.toUInt64 63)).toInt64 &&& 3689348814741910323) : Int64) fun n2 => lt ((n2 + (((n2 : Int64).toUInt64 >>> ((4 : Int32).toInt64.toUInt64 &&& Int64.toUInt64 63)).toInt64)) &&& 1085102592571150095 : Int64) fun n3 => lt (n3 + (((n3 : Int64).toUInt64 >>> ((8 : Int32).toInt64.toUInt64 &&& Int64.toUInt64 63)).toInt64) : Int64) fun n4 => lt (n4 + (((n4 : Int64).toUInt64 >>> ((16 : Int32).toInt64.toUInt64 &&& Int64.toUInt64 63)).toInt64) : Int64) fun n5 => lt (n5 + (((n5 : Int64).toUInt64 >>> ((32 : Int32).toInt64.toUInt64 &&& Int64.toUInt64 63)).toInt64) : Int64) fun n6 => some ((n6 : Int64).toInt32 &&& 127, M)
def P_JL_bitCount (v0 : Int64) (M : Mm) : Int32 := lt (v0 - (((v0 : Int64).toUInt64 >>> ((1 : Int32).toInt64.toUInt64 &&& Int64.toUInt64 63)).toInt64 &&& 6148914691236517205) : Int64) fun n1 => lt ((n1 &&& 3689348814741910323) + (((n1 : Int64).toUInt64 >>> ((2 : Int32).toInt64.toUInt64 &&& Int64.toUInt64 63)).toInt64 &&& 3689348814741910323) : Int64) fun n2 => lt ((n2 + (((n2 : Int64).toUInt64 >>> ((4 : Int32).toInt64.toUInt64 &&& Int64.toUInt64 63)).toInt64)) &&& 1085102592571150095 : Int64) fun n3 => lt (n3 + (((n3 : Int64).toUInt64 >>> ((8 : Int32).toInt64.toUInt64 &&& Int64.toUInt64 63)).toInt64) : Int64) fun n4 => lt (n4 + (((n4 : Int64).toUInt64 >>> ((16 : Int32).toInt64.toUInt64 &&& Int64.toUInt64 63)).toInt64) : Int64) fun n5 => lt (n5 + (((n5 : Int64).toUInt64 >>> ((32 : Int32).toInt64.toUInt64 &&& Int64.toUInt64 63)).toInt64) : Int64) fun n6 => (n6 : Int64).toInt32 &&& 127
theorem p_JL_bitCount (v0 : Int64) (M : Mm) : F_JL_bitCount v0 M = some (P_JL_bitCount v0 M, M) := by
  unfold F_JL_bitCount P_JL_bitCount
  refine q_l ?_
  refine q_l ?_
  refine q_l ?_
  refine q_l ?_
  refine q_l ?_
  refine q_l ?_
  rfl
def F_R_findSub_b31 (K4 : Nat → Int32 → Int32 → Int32 → Mm → Option (Int32 × Mm)) (i0 : Nat) (v1 : Int32) (v2 : Int32) (v3 : Int32) (M : Mm) : Option (Int32 × Mm) := lt (v3 + 1) fun n1 => K4 i0 v1 v2 n1 M
def F_R_findSub_b4  : Nat → Nat → Int32 → Int32 → Int32 → Mm → Option (Int32 × Mm)
  | 0, _, _, _, _, _ => none
  | n + 1, i0, v1, v2, v3, M => (if 48 ≤ v3 then some ((-1), M) else lt (P_R_isIn i0 v3 M) fun r4 => (if r4 = 0 then F_R_findSub_b31 (F_R_findSub_b4 n) i0 v1 v2 v3 M else (if v2 = v1 then some (v3, M) else lt (v2 + 1) fun n7 => F_R_findSub_b31 (F_R_findSub_b4 n) i0 v1 n7 v3 M)))
def F_R_findSub (i0 : Nat) (v1 : Int32) (M : Mm) : Option (Int32 × Mm) := F_R_findSub_b4 fuel i0 v1 0 0 M
def F_R_read_b90  (i0 : Nat) (v1 : Int32) (M : Mm) : Option (Int32 × Mm) := (if v1 < 40 then some ((-1), M) else (if v1 < 46 then bd (F_R_findSub i0 (v1 - 40) M) (fun r5 M4 => (if r5 = ((-1)) then some ((-1), M4) else bnd r5 48 (some (M4.1 22 i0 (r5 : Int32).toNatClampNeg, M4)))) else some ((-1), M)))
def F_R_read_b44  (i0 : Nat) (v1 : Int32) (M : Mm) : Option (Int32 × Mm) := (if v1 = 32 then some (M.1 19 i0 2, M) else (if v1 = 33 then lt (P_JL_bitCount (M.2 19 i0 3) M) fun r16 => some (r16, M) else (if v1 < 34 then F_R_read_b90 i0 v1 M else (if 40 ≤ v1 then F_R_read_b90 i0 v1 M else bd (F_R_findSub i0 (v1 - 34) M) (fun r14 M13 => some (r14, M13))))))
def F_R_read_b17  (i0 : Nat) (v1 : Int32) (M : Mm) : Option (Int32 × Mm) := (if v1 < 16 then F_R_read_b44 i0 v1 M else (if ((16 : Int32) + (M.1 19 i0 2)) ≤ v1 then F_R_read_b44 i0 v1 M else bnd (v1 - 16) 12 (some (M.1 21 i0 (v1 - 16 : Int32).toNatClampNeg, M))))
def F_R_read (i0 : Nat) (v1 : Int32) (M : Mm) : Option (Int32 × Mm) := (if v1 < 0 then F_R_read_b17 i0 v1 M else (if 12 ≤ v1 then F_R_read_b17 i0 v1 M else bnd v1 12 (some (M.1 20 i0 (v1 : Int32).toNatClampNeg, M))))
def F_G_state (v1 : Int32) (v2 : Int32) (M : Mm) : Option (Int32 × Mm) := (if v1 < 0 then some ((-1), M) else (if 48 ≤ v1 then some ((-1), M) else bnd v1 48 ((if (M.1 16 0 (v1 : Int32).toNatClampNeg) = 0 then some ((-1), M) else bnd v1 48 (bd (F_R_read ((v1 : Int32).toNatClampNeg + 2) v2 M) (fun r8 M7 => some (r8, M7)))))))
def F_T_isPlain_b9  (v1 : Int32) (M : Mm) : Option (Int32 × Mm) := lt (P_T_isRef v1 M) fun r2 => (if r2 = 0 then some (0, M) else some (1, M))
def P_T_isPlain_b9 (v1 : Int32) (M : Mm) : Int32 := lt (P_T_isRef v1 M) fun r2 => (if r2 = 0 then 0 else 1)
theorem p_T_isPlain_b9 (v1 : Int32) (M : Mm) : F_T_isPlain_b9 v1 M = some (P_T_isPlain_b9 v1 M, M) := by
  unfold F_T_isPlain_b9 P_T_isPlain_b9
  refine q_l ?_
  refine q_i ?_ ?_
  · rfl
  · rfl
theorem z_T_isPlain_b9 (v1 : Int32) (M : Mm) : zo (P_T_isPlain_b9 v1 M) := by
  rw [P_T_isPlain_b9]
  refine zo_l ?_
  refine zo_i ?_ ?_
  · exact zo_0
  · exact zo_1
def F_T_isPlain (v1 : Int32) (M : Mm) : Option (Int32 × Mm) := (if v1 < 0 then F_T_isPlain_b9 v1 M else (if v1 ≤ 5 then some (1, M) else F_T_isPlain_b9 v1 M))
def P_T_isPlain (v1 : Int32) (M : Mm) : Int32 := (if v1 < 0 then P_T_isPlain_b9 v1 M else (if v1 ≤ 5 then 1 else P_T_isPlain_b9 v1 M))
theorem p_T_isPlain (v1 : Int32) (M : Mm) : F_T_isPlain v1 M = some (P_T_isPlain v1 M, M) := by
  unfold F_T_isPlain P_T_isPlain
  refine q_i ?_ ?_
  · exact p_T_isPlain_b9 _ _
  · refine q_i ?_ ?_
    · rfl
    · exact p_T_isPlain_b9 _ _
theorem z_T_isPlain (v1 : Int32) (M : Mm) : zo (P_T_isPlain v1 M) := by
  rw [P_T_isPlain]
  refine zo_i ?_ ?_
  · exact z_T_isPlain_b9 _ _
  · refine zo_i ?_ ?_
    · exact zo_1
    · exact z_T_isPlain_b9 _ _
def F_G_join (v1 : Int32) (v2 : Int32) (M : Mm) : Option (Int32 × Mm) := lt (P_T_isPlain v1 M) fun r2 => (if r2 = 0 then some ((-1), M) else lt (P_T_isPlain v2 M) fun r5 => (if r5 = 0 then some ((-1), M) else bd (F_T_joined v1 v2 M) (fun r9 M8 => some (r9, M8))))
def F_G_goes (v1 : Int32) (v2 : Int32) (M : Mm) : Option (Int32 × Mm) := lt (P_T_isPlain v1 M) fun r2 => (if r2 = 0 then some ((-1), M) else lt (P_T_isPlain v2 M) fun r5 => (if r5 = 0 then some ((-1), M) else bd (F_T_goesFor v1 v2 M) (fun r9 M8 => (if r9 = 0 then some (0, M8) else some (1, M8)))))
def F_G_count (v1 : Int32) (M : Mm) : Option (Int32 × Mm) := (if v1 = 0 then some (M.1 1 0 2, M) else (if v1 = 1 then some (M.1 4 0 3, M) else (if v1 = 2 then some (M.1 4 0 8, M) else (if v1 = 3 then some (M.1 4 0 10, M) else (if v1 = 4 then some (M.1 14 0 8, M) else (if v1 = 5 then some (M.1 14 0 10, M) else (if v1 = 6 then some (M.1 0 0 5, M) else (if v1 = 7 then lt (P_JL_bitCount (M.2 14 0 11) M) fun r2 => some (r2, M) else some ((-1), M)))))))))
def P_G_count (v1 : Int32) (M : Mm) : Int32 := (if v1 = 0 then M.1 1 0 2 else (if v1 = 1 then M.1 4 0 3 else (if v1 = 2 then M.1 4 0 8 else (if v1 = 3 then M.1 4 0 10 else (if v1 = 4 then M.1 14 0 8 else (if v1 = 5 then M.1 14 0 10 else (if v1 = 6 then M.1 0 0 5 else (if v1 = 7 then lt (P_JL_bitCount (M.2 14 0 11) M) fun r2 => r2 else (-1)))))))))
theorem p_G_count (v1 : Int32) (M : Mm) : F_G_count v1 M = some (P_G_count v1 M, M) := by
  unfold F_G_count P_G_count
  refine q_i ?_ ?_
  · rfl
  · refine q_i ?_ ?_
    · rfl
    · refine q_i ?_ ?_
      · rfl
      · refine q_i ?_ ?_
        · rfl
        · refine q_i ?_ ?_
          · rfl
          · refine q_i ?_ ?_
            · rfl
            · refine q_i ?_ ?_
              · rfl
              · refine q_i ?_ ?_
                · refine q_l ?_
                  rfl
                · rfl
