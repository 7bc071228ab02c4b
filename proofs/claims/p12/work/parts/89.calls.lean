/-! The small calls. -/
theorem e_plain5C {n : Nat} {sup : Nat → Nat} {fc : Nat → Int32} {M : Mm} (hT : TOk n sup fc) (h : TCl n sup fc M) (v : Int32) : P_T_isPlain v M = if (decide (¬ v < 0) && decide (v ≤ 5)) || rf n v then 1 else 0 := by
  unfold P_T_isPlain P_T_isPlain_b9
  simp only [lt_v, e_isRefC hT h]
  by_cases c1 : v < 0
  · cases rf n v <;> simp [c1]
  · by_cases c2 : v ≤ 5
    · simp [c1, c2]
    · cases rf n v <;> simp [c1, c2]
theorem in5 {v : Int32} {M : Mm} : P_D_in v 0 5 M = if (decide (¬ v < 0) && decide (v ≤ 5)) = true then 1 else 0 := by
  rw [inD]
  by_cases c1 : v < 0
  · simp [c1]
  · by_cases c2 : (5 : Int32) < v
    · have c3 : ¬ v ≤ 5 := fun q => nle4.mp q c2
      simp [c1, c2, c3]
    · have c3 : v ≤ 5 := nle4.mpr c2
      simp [c1, c2, c3]
theorem sim_join : Sim_join Rel := by
  intro Mc Mr h a b
  obtain ⟨n, sup, fc, t1, t2, t3⟩ := h.1
  have e1 : F_G_join a b Mc = some (if ((decide (¬ a < 0) && decide (a ≤ 5)) || rf n a) && ((decide (¬ b < 0) && decide (b ≤ 5)) || rf n b) then jn n sup fc a b else -1, Mc) := by
    unfold F_G_join
    simp only [lt_v, e_plain5C t1 t2, e_joinedC t1 t2, bd_some]
    generalize ((decide (¬ a < 0) && decide (a ≤ 5)) || rf n a) = A
    generalize ((decide (¬ b < 0) && decide (b ≤ 5)) || rf n b) = B
    cases A <;> cases B <;> simp
  have e2 : F_D_join a b Mr = some (if ((decide (¬ a < 0) && decide (a ≤ 5)) || rf n a) && ((decide (¬ b < 0) && decide (b ≤ 5)) || rf n b) then jn n sup fc a b else -1, Mr) := by
    unfold F_D_join F_D_join_b17 F_D_join_b38
    simp only [lt_v, in5, e_isRefD t1 t3, e_joinedD t1 t3, bd_some]
    generalize (decide (¬ a < 0) && decide (a ≤ 5)) = A
    generalize (decide (¬ b < 0) && decide (b ≤ 5)) = B
    cases A <;> cases B <;> cases rf n a <;> cases rf n b <;> simp
  exact ⟨_, Mc, Mr, e1, e2, h⟩
theorem sim_goes : Sim_goes Rel := by
  intro Mc Mr h a b
  obtain ⟨n, sup, fc, t1, t2, t3⟩ := h.1
  have e1 : F_G_goes a b Mc = some (if ((decide (¬ a < 0) && decide (a ≤ 5)) || rf n a) && ((decide (¬ b < 0) && decide (b ≤ 5)) || rf n b) then (if gs n sup fc a b then 1 else 0) else -1, Mc) := by
    unfold F_G_goes
    simp only [lt_v, e_plain5C t1 t2, e_goesC t1 t2, bd_some]
    generalize ((decide (¬ a < 0) && decide (a ≤ 5)) || rf n a) = A
    generalize ((decide (¬ b < 0) && decide (b ≤ 5)) || rf n b) = B
    cases A <;> cases B <;> cases gs n sup fc a b <;> simp
  have e2 : F_D_goes a b Mr = some (if ((decide (¬ a < 0) && decide (a ≤ 5)) || rf n a) && ((decide (¬ b < 0) && decide (b ≤ 5)) || rf n b) then (if gs n sup fc a b then 1 else 0) else -1, Mr) := by
    unfold F_D_goes F_D_goes_b17 F_D_goes_b38
    simp only [lt_v, in5, e_isRefD t1 t3, e_goesD t1 t3, bd_some]
    generalize (decide (¬ a < 0) && decide (a ≤ 5)) = A
    generalize (decide (¬ b < 0) && decide (b ≤ 5)) = B
    cases A <;> cases B <;> cases rf n a <;> cases rf n b <;> cases gs n sup fc a b <;> simp
  exact ⟨_, Mc, Mr, e1, e2, h⟩
theorem sim_begin : Sim_begin Rel := by
  intro Mc Mr h v1 v2 v3
  obtain ⟨n, sup, fc, t1, t2, t3⟩ := h.1
  obtain ⟨P, p1, p2, p3⟩ := h.2.1
  by_cases c0 : v1 = 0 ∨ vl n v1 = true
  · have eC : F_G_begin v1 v2 v3 Mc = F_G_begin_b17 v1 v2 v3 Mc := by
      unfold F_G_begin
      simp only [lt_v, e_isValueC t1 t2]
      rcases c0 with q | q
      · rw [if_pos q]
      · rw [q]
        split <;> rfl
    have eD : F_D_begin v1 v2 v3 Mr = F_D_begin_b12 v1 v2 v3 Mr := by
      unfold F_D_begin
      simp only [lt_v, e_isPlainD t1 t3]
      rcases c0 with q | q
      · rw [if_pos q]
      · rw [q]
        split <;> rfl
    rw [eC, eD]
    by_cases c1 : v2 < 0
    · exact ⟨-1, Mc, Mr, by simp [F_G_begin_b17, c1], by simp [F_D_begin_b12, lt_v, inD, c1], h⟩
    · by_cases c2 : (12 : Int32) < v2
      · exact ⟨-1, Mc, Mr, by simp [F_G_begin_b17, c1, c2], by simp [F_D_begin_b12, lt_v, inD, c1, c2], h⟩
      · by_cases c3 : v3 < 0
        · exact ⟨-1, Mc, Mr, by simp [F_G_begin_b17, c1, c2, c3], by simp [F_D_begin_b12, lt_v, inD, c1, c2, c3], h⟩
        · by_cases c4 : (12 : Int32) < v3
          · exact ⟨-1, Mc, Mr, by rw [F_G_begin_b17, if_neg c1, if_neg c2, if_neg c3, if_neg (fun q => nle4.mp q c4)], by simp [F_D_begin_b12, lt_v, inD, c1, c2, c3, c4], h⟩
          · obtain ⟨L, hL, rfl⟩ := nI_of2 (M := 12) (n := 12) (by decide) c1 (nle4.mpr c2)
            obtain ⟨S, hS, rfl⟩ := nI_of2 (M := 12) (n := 12) (by decide) c3 (nle4.mpr c4)
            have e1 : F_G_begin_b17 v1 (nI L) (nI S) Mc = some (1, sI (sI (sI (sI (sI (sI Mc 4 0 11 v1) 4 0 12 (nI L)) 4 0 13 (nI S)) 4 0 3 0) 4 0 8 0) 4 0 10 0) := by
              rw [F_G_begin_b17, if_neg c1, if_neg c2, if_neg c3, if_pos (nle4.mpr c4)]
              rfl
            have e2 : F_D_begin_b12 v1 (nI L) (nI S) Mr = some (1, sI (sI (sI (sI (sI (sI Mr 30 0 14 v1) 30 0 15 (nI L)) 30 0 16 (nI S)) 30 0 11 0) 30 0 12 0) 30 0 13 0) := by
              rw [F_D_begin_b12]
              simp only [lt_v, inD]
              rw [if_neg c1, if_neg c2, if_neg (by decide), if_neg c3, if_neg c4, if_neg (by decide)]
            refine ⟨1, _, _, e1, e2, ?_⟩
            refine Rel_m h (P := ((0, 0, 0, L, S, v1), P.2)) ?_ ?_ ?_ ?_ ?_
            · exact ⟨fun t i k ht => by simp [sI1, show ¬ t = 4 by omega], rfl⟩
            · exact ⟨fun k hk => by simp [sI1, show ¬ k = 11 by omega, show ¬ k = 12 by omega, show ¬ k = 13 by omega, show ¬ k = 14 by omega, show ¬ k = 15 by omega, show ¬ k = 16 by omega], fun t i k ht => by simp [sI1, show ¬ t = 30 by omega], rfl⟩
            · obtain ⟨a1, a2, a3, a4, a5, a6, a7, a8⟩ := p1
              exact ⟨by show 0 ≤ 48; omega, by show 0 ≤ 3; omega, by show 0 ≤ 6; omega, hL, hS, a6, fun k hk => absurd hk (Nat.not_lt_zero k), c0.elim (fun q z => by
                have z' : v1 = -1 := z
                rw [q] at z'
                exact absurd z' (by decide)) (fun q z => by
                obtain ⟨j, j1, j2, j3⟩ := vl_sm q
                exact nI_m1 (by omega) (j3 ▸ z))⟩
            · obtain ⟨a1, a2, a3, a4, a5, a6, a7, a8, a9⟩ := p2
              refine ⟨rfl, rfl, rfl, rfl, rfl, rfl, fun k hk => ?_, fun k hk => ?_, fun k hk => ?_⟩
              · simpa [sI1] using a7 k hk
              · simpa [sI1] using a8 k hk
              · simpa [sI1] using a9 k hk
            · obtain ⟨a1, a2, a3, a4, a5, a6, a7, a8, a9⟩ := p3
              refine ⟨rfl, rfl, rfl, rfl, rfl, rfl, fun k hk => ?_, fun k hk => ?_, fun k hk => ?_⟩
              · simpa [sI1] using a7 k hk
              · simpa [sI1] using a8 k hk
              · simpa [sI1] using a9 k hk
  · have c1 : ¬ v1 = 0 := fun q => c0 (Or.inl q)
    have c2 : vl n v1 = false := by
      cases q : vl n v1
      · rfl
      · exact absurd (Or.inr q) c0
    refine ⟨-1, Mc, Mr, ?_, ?_, h⟩
    · unfold F_G_begin
      simp [lt_v, e_isValueC t1 t2, c1, c2]
    · unfold F_D_begin
      simp [lt_v, e_isPlainD t1 t3, c1, c2]
theorem sim_argument : Sim_argument Rel := by
  intro Mc Mr h v
  obtain ⟨n, sup, fc, t1, t2, t3⟩ := h.1
  obtain ⟨P, p1, p2, p3⟩ := h.2.1
  obtain ⟨a1, a2, a3, a4, a5, a6, a7, a8⟩ := p1
  cases c0 : vl n v
  · exact ⟨-1, Mc, Mr, by simp [F_G_argument, lt_v, e_isValueC t1 t2, c0], by simp [F_D_argument, lt_v, e_isPlainD t1 t3, c0], h⟩
  · obtain ⟨b1, b2, b3, b4, b5, b6, b7, b8, b9⟩ := p2
    obtain ⟨d1, d2, d3, d4, d5, d6, d7, d8, d9⟩ := p3
    by_cases c1 : pg P = 6
    · refine ⟨-2, Mc, Mr, ?_, ?_, h⟩
      · rw [F_G_argument, lt_v, e_isValueC t1 t2, c0, if_pos rfl, if_neg (by decide), b3, if_pos (show nI (pg P) = 6 from eqN (k := 6) rfl c1)]
      · rw [F_D_argument, lt_v, e_isPlainD t1 t3, c0, if_pos rfl, if_neg (by decide), d3, if_pos (show nI (pg P) = 6 from eqN (k := 6) rfl c1)]
    · have e1 : F_G_argument v Mc = some (nI (pg P + 1), sI (sI Mc 12 0 (pg P) v) 4 0 10 (nI (pg P + 1))) := by
        rw [F_G_argument, lt_v, e_isValueC t1 t2, c0, if_pos rfl, if_neg (by decide), if_neg (show ¬ Mc.1 4 0 10 = 6 by rw [b3]; exact neN (k := 6) rfl (by omega) (by decide) c1), F_M_appendArgument, b3, bnd_nI (by omega) (by decide), lt_v, lt_v, nI_clamp (by omega)]
        have z : (sI Mc 12 0 (pg P) v).1 4 0 10 = nI (pg P) := b3
        rw [z, nI_1]
        rfl
      have e2 : F_D_argument v Mr = some (nI (pg P + 1), sI (sI Mr 40 0 (pg P) v) 30 0 13 (nI (pg P + 1))) := by
        rw [F_D_argument, lt_v, e_isPlainD t1 t3, c0, if_pos rfl, if_neg (by decide), if_neg (show ¬ Mr.1 30 0 13 = 6 by rw [d3]; exact neN (k := 6) rfl (by omega) (by decide) c1), d3, bnd_nI (by omega) (by decide), lt_v, lt_v, nI_clamp (by omega)]
        have z : (sI Mr 40 0 (pg P) v).1 30 0 13 = nI (pg P) := d3
        rw [z, nI_1]
        rfl
      refine ⟨_, _, _, e1, e2, Rel_m h (P := ((pm P, ph P, pg P + 1, pL P, pS P, pr P), fun t k => if t = 7 ∧ k = pg P then v else P.2 t k)) ⟨fun t i k ht => by simp [sI1, show ¬ t = 4 by omega, show ¬ t = 12 by omega], rfl⟩ ⟨fun k hk => by simp [sI1, show ¬ k = 13 by omega], fun t i k ht => by simp [sI1, show ¬ t = 30 by omega, show ¬ t = 40 by omega], rfl⟩ ⟨a1, a2, by show pg P + 1 ≤ 6; omega, a4, a5, fun k hk => by simpa using a6 k hk, fun k hk => ?_, a8⟩ ⟨b1, b2, rfl, b4, b5, b6, fun k hk => by simpa [sI1] using b7 k hk, fun k hk => by simpa [sI1] using b8 k hk, fun k hk => ?_⟩ ⟨d1, d2, rfl, d4, d5, d6, fun k hk => by simpa [sI1] using d7 k hk, fun k hk => by simpa [sI1] using d8 k hk, fun k hk => ?_⟩⟩
      · by_cases q : k = pg P
        · obtain ⟨j, j1, j2, j3⟩ := vl_sm c0
          exact ⟨j, j1, j2, by simp [q, j3]⟩
        · have hk' : k < pg P + 1 := hk
          obtain ⟨j, j1, j2, j3⟩ := a7 k (by omega)
          exact ⟨j, j1, j2, by simp [q, j3]⟩
      · by_cases q : k = pg P
        · simp [sI1, q]
        · simpa [sI1, q] using b9 k hk
      · by_cases q : k = pg P
        · simp [sI1, q]
        · simpa [sI1, q] using d9 k hk
theorem opC {v : Int32} {M : Mm} : P_G_isOp v M = P_D_in v 0 30 M := rfl
theorem op_sm {v : Int32} {M : Mm} (h : ¬ P_D_in v 0 30 M = 0) : ∃ o, o ≤ 30 ∧ v = nI o := by
  rw [inD] at h
  by_cases c1 : v < 0
  · rw [if_pos c1] at h
    exact absurd rfl h
  · rw [if_neg c1] at h
    by_cases c2 : (30 : Int32) < v
    · rw [if_pos c2] at h
      exact absurd rfl h
    · exact nI_of2 (M := 30) (n := 30) (by decide) c1 (nle4.mpr c2)
theorem inM {v a b : Int32} {M M' : Mm} : P_D_in v a b M = P_D_in v a b M' := rfl
theorem sim_add : Sim_add Rel := by
  intro Mc Mr h v1 v2 v3
  obtain ⟨P, p1, p2, p3⟩ := h.2.1
  obtain ⟨a1, a2, a3, a4, a5, a6, a7, a8⟩ := p1
  obtain ⟨b1, b2, b3, b4, b5, b6, b7, b8, b9⟩ := p2
  obtain ⟨d1, d2, d3, d4, d5, d6, d7, d8, d9⟩ := p3
  by_cases c0 : P_D_in v1 0 30 Mr = 0
  · exact ⟨-1, Mc, Mr, by rw [F_G_add, lt_v, opC, inM (M' := Mr), if_pos c0], by rw [F_D_add, lt_v, if_pos c0], h⟩
  · by_cases c1 : pm P = 48
    · refine ⟨-2, Mc, Mr, ?_, ?_, h⟩
      · rw [F_G_add, lt_v, opC, inM (M' := Mr), if_neg c0, b1, if_pos (show nI (pm P) = 48 from eqN (k := 48) rfl c1)]
      · rw [F_D_add, lt_v, if_neg c0, d1, if_pos (show nI (pm P) = 48 from eqN (k := 48) rfl c1)]
    · have e1 : F_G_add v1 v2 v3 Mc = some (nI (pm P), sI (sI (sI (sI Mc 5 0 (pm P) v1) 6 0 (pm P) v2) 7 0 (pm P) v3) 4 0 3 (nI (pm P + 1))) := by
        rw [F_G_add, lt_v, opC, inM (M' := Mr), if_neg c0, if_neg (show ¬ Mc.1 4 0 3 = 48 by rw [b1]; exact neN (k := 48) rfl (by omega) (by decide) c1), F_M_append, F_M_write, b1, bnd_nI (by omega) (by decide), lt_v, bnd_nI (by omega) (by decide), lt_v, bnd_nI (by omega) (by decide), lt_v, bv_some, lt_v, nI_clamp (by omega)]
        have z : (sI (sI (sI Mc 5 0 (pm P) v1) 6 0 (pm P) v2) 7 0 (pm P) v3).1 4 0 3 = nI (pm P) := b1
        rw [z, nI_1]
        have z2 : ∀ M : Mm, (sI M 4 0 3 (nI (pm P + 1))).1 4 0 3 = nI (pm P + 1) := fun M => rfl
        rw [z2, nI_pred, bd_some]
      have e2 : F_D_add v1 v2 v3 Mr = some (nI (pm P), sI (sI (sI (sI Mr 33 0 (pm P) v1) 34 0 (pm P) v2) 35 0 (pm P) v3) 30 0 11 (nI (pm P + 1))) := by
        rw [F_D_add, lt_v, if_neg c0, if_neg (show ¬ Mr.1 30 0 11 = 48 by rw [d1]; exact neN (k := 48) rfl (by omega) (by decide) c1), d1, bnd_nI (by omega) (by decide), lt_v, nI_clamp (by omega)]
        have z0 : (sI Mr 33 0 (pm P) v1).1 30 0 11 = nI (pm P) := d1
        rw [z0, bnd_nI (by omega) (by decide), lt_v, nI_clamp (by omega)]
        have z1 : (sI (sI Mr 33 0 (pm P) v1) 34 0 (pm P) v2).1 30 0 11 = nI (pm P) := d1
        rw [z1, bnd_nI (by omega) (by decide), lt_v, lt_v, nI_clamp (by omega)]
        have z : (sI (sI (sI Mr 33 0 (pm P) v1) 34 0 (pm P) v2) 35 0 (pm P) v3).1 30 0 11 = nI (pm P) := d1
        rw [z, nI_1]
        have z2 : ∀ M : Mm, (sI M 30 0 11 (nI (pm P + 1))).1 30 0 11 = nI (pm P + 1) := fun M => rfl
        rw [z2, nI_pred]
      refine ⟨_, _, _, e1, e2, Rel_m h (P := ((pm P + 1, ph P, pg P, pL P, pS P, pr P), fun t k => if t = 0 ∧ k = pm P then v1 else if t = 1 ∧ k = pm P then v2 else if t = 2 ∧ k = pm P then v3 else P.2 t k)) ⟨fun t i k ht => by simp [sI1, show ¬ t = 4 by omega, show ¬ t = 5 by omega, show ¬ t = 6 by omega, show ¬ t = 7 by omega], rfl⟩ ⟨fun k hk => by simp [sI1, show ¬ k = 11 by omega], fun t i k ht => by simp [sI1, show ¬ t = 30 by omega, show ¬ t = 33 by omega, show ¬ t = 34 by omega, show ¬ t = 35 by omega], rfl⟩ ⟨by show pm P + 1 ≤ 48; omega, a2, a3, a4, a5, fun k hk => ?_, fun k hk => by simpa using a7 k hk, a8⟩ ⟨rfl, b2, b3, b4, b5, b6, fun k hk => ?_, fun k hk => by simpa [sI1] using b8 k hk, fun k hk => by simpa [sI1] using b9 k hk⟩ ⟨rfl, d2, d3, d4, d5, d6, fun k hk => ?_, fun k hk => by simpa [sI1] using d8 k hk, fun k hk => by simpa [sI1] using d9 k hk⟩⟩
      · by_cases q : k = pm P
        · obtain ⟨o, o1, o2⟩ := op_sm c0
          exact ⟨o, o1, by simp [q, o2]⟩
        · obtain ⟨o, o1, o2⟩ := a6 k hk
          exact ⟨o, o1, by simp [q, o2]⟩
      · by_cases q : k = pm P
        · simp [sI1, q]
        · simpa [sI1, q] using b7 k hk
      · by_cases q : k = pm P
        · simp [sI1, q]
        · simpa [sI1, q] using d7 k hk
