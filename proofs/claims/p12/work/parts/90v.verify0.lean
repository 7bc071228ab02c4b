/-! What verify() forgets; verify(), state() and count() on a new object. -/
theorem fuel_s : fuel = 99999 + 1 := rfl
theorem lev48 : (48 : Int32) ≤ nI 48 := by decide
theorem gev48 {j : Nat} (h : j < 48) : ¬ (48 : Int32) ≤ nI j := nI_ge (b := 48) h (by decide)
/-- the class's memory when verify() has forgotten the last going -/
def Fg (M M' : Mm) : Prop := (∀ t i k, ¬ (t = 16 ∨ t = 17 ∨ t = 14) → M'.1 t i k = M.1 t i k) ∧ M'.1 14 0 8 = 0 ∧ M'.1 14 0 10 = 0 ∧ M'.2 14 0 11 = 0 ∧ (∀ k, k < 48 → M'.1 16 0 k = 0 ∧ M'.1 17 0 k = 0) ∧ ∀ t i k, ¬ (t = 14 ∧ k = 11) → M'.2 t i k = M.2 t i k
theorem e_forgetL {M0 : Mm} : ∀ n j M, 48 < j + n → j ≤ 48 → (∀ t i k, ¬ (t = 16 ∨ t = 17) → M.1 t i k = M0.1 t i k) → M.2 = M0.2 → (∀ k, k < j → M.1 16 0 k = 0 ∧ M.1 17 0 k = 0) → ∃ M', F_W_forget_b10 n (nI j) M = some M' ∧ Fg M0 M' := by
  intro n
  induction n with
  | zero =>
    intro j M h1 h2
    omega
  | succ n ih =>
    intro j M h1 h2 e1 e2 e3
    rw [F_W_forget_b10]
    by_cases c : j = 48
    · subst c
      rw [if_pos lev48]
      refine ⟨_, rfl, fun t i k q => ?_, ?_, ?_, ?_, fun k hk => ⟨?_, ?_⟩, fun t i k q => ?_⟩
      · rw [sL1, sI1, if_neg (by omega), sI1, if_neg (by omega)]
        exact e1 t i k (by omega)
      · rw [sL1, sI1, if_neg (by omega), sI1, if_pos ⟨rfl, rfl, rfl⟩]
      · rw [sL1, sI1, if_pos ⟨rfl, rfl, rfl⟩]
      · rw [sL2, if_pos ⟨rfl, rfl, rfl⟩]
      · rw [sL1, sI1, if_neg (by omega), sI1, if_neg (by omega)]
        exact (e3 k hk).1
      · rw [sL1, sI1, if_neg (by omega), sI1, if_neg (by omega)]
        exact (e3 k hk).2
      · rw [sL2, if_neg (fun z => q ⟨z.1, z.2.2⟩)]
        show M.2 t i k = _
        rw [e2]
    · have hj : j < 48 := by omega
      rw [if_neg (gev48 hj), bnd_nI hj (by decide), lt_v, bnd_nI hj (by decide), lt_v, lt_v, nI_clamp (by omega), nar0, nI_1]
      refine ih (j + 1) _ (by omega) (by omega) (fun t i k q => ?_) ?_ (fun k hk => ⟨?_, ?_⟩)
      · rw [sI1, if_neg (by omega), sI1, if_neg (by omega)]
        exact e1 t i k q
      · exact e2
      · rw [sI1, if_neg (by omega), sI1]
        by_cases z : k = j
        · rw [if_pos ⟨rfl, rfl, z⟩]
        · rw [if_neg (fun w => z w.2.2)]
          exact (e3 k (by omega)).1
      · rw [sI1]
        by_cases z : k = j
        · rw [if_pos ⟨rfl, rfl, z⟩]
        · rw [if_neg (fun w => z w.2.2), sI1, if_neg (by omega)]
          exact (e3 k (by omega)).2
theorem e_forget (M : Mm) : ∃ M', F_W_forget M = some M' ∧ Fg (F_fillJ 18 0 0 M) M' := by
  unfold F_W_forget
  rw [lt_v, show (0 : Int32) = nI 0 from rfl]
  exact e_forgetL fuel 0 _ (fuel_pos (by decide)) (by decide) (fun _ _ _ _ => rfl) rfl (fun k hk => absurd hk (Nat.not_lt_zero k))
/-- the reference's verify() behind what it forgets -/
def vD1 (M : Mm) : Option (Int32 × Mm) := bv (F_D_form M) (fun M27 => (if (M27.1 30 0 34) = 0 then bv (F_D_begins M27) (fun M30 => F_D_verify_b65 fuel M30) else F_D_verify_b65 fuel M27))
def FdD (M M' : Mm) : Prop := (∀ t i k, ¬ (t = 41 ∨ t = 42) → M'.1 t i k = M.1 t i k) ∧ (∀ t i k, ¬ t = 48 → M'.2 t i k = M.2 t i k) ∧ ∀ k, k < 48 → M'.1 41 0 k = 0 ∧ M'.1 42 0 k = 0 ∧ M'.2 48 0 k = 0
theorem e_forgetDL {M0 : Mm} : ∀ n j M, 48 < j + n → j ≤ 48 → (∀ t i k, ¬ (t = 41 ∨ t = 42) → M.1 t i k = M0.1 t i k) → (∀ t i k, ¬ t = 48 → M.2 t i k = M0.2 t i k) → (∀ k, k < j → M.1 41 0 k = 0 ∧ M.1 42 0 k = 0 ∧ M.2 48 0 k = 0) → ∃ M', F_D_verify_b17 n (nI j) M = vD1 M' ∧ FdD M0 M' := by
  intro n
  induction n with
  | zero =>
    intro j M h1 h2
    omega
  | succ n ih =>
    intro j M h1 h2 e1 e2 e3
    rw [F_D_verify_b17]
    by_cases c : j = 48
    · subst c
      rw [if_pos lev48]
      exact ⟨M, rfl, e1, e2, e3⟩
    · have hj : j < 48 := by omega
      rw [if_neg (gev48 hj), bnd_nI hj (by decide), lt_v, bnd_nI hj (by decide), lt_v, bnd_nI hj (by decide), lt_v, lt_v, nI_clamp (by omega), nar0, nI_1]
      refine ih (j + 1) _ (by omega) (by omega) (fun t i k q => ?_) (fun t i k q => ?_) (fun k hk => ⟨?_, ?_, ?_⟩)
      · rw [sL1, sI1, if_neg (by omega), sI1, if_neg (by omega)]
        exact e1 t i k q
      · rw [sL2, if_neg (fun z => q z.1)]
        exact e2 t i k q
      · rw [sL1, sI1, if_neg (by omega), sI1]
        by_cases z : k = j
        · rw [if_pos ⟨rfl, rfl, z⟩]
        · rw [if_neg (fun w => z w.2.2)]
          exact (e3 k (by omega)).1
      · rw [sL1, sI1]
        by_cases z : k = j
        · rw [if_pos ⟨rfl, rfl, z⟩]
        · rw [if_neg (fun w => z w.2.2), sI1, if_neg (by omega)]
          exact (e3 k (by omega)).2.1
      · rw [sL2]
        by_cases z : k = j
        · rw [if_pos ⟨rfl, rfl, z⟩]
        · rw [if_neg (fun w => z w.2.2)]
          exact (e3 k (by omega)).2.2
theorem e_forgetD (M : Mm) : ∃ M', F_D_verify M = vD1 M' ∧ FdD (sI (sI (sI M 30 0 34 0) 30 0 35 (-1)) 30 0 36 0) M' := by
  unfold F_D_verify
  rw [lt_v, lt_v, lt_v]
  exact e_forgetDL fuel 0 _ (fuel_pos (by decide)) (by decide) (fun _ _ _ _ => rfl) (fun _ _ _ _ => rfl) (fun k hk => absurd hk (Nat.not_lt_zero k))
theorem ver0C : ∃ Mc', F_G_verify Mc0 = some (1, Mc') := by
  obtain ⟨M1, e1, f⟩ := e_forget Mc0
  unfold F_G_verify F_O_findFault
  have h3 : M1.1 4 0 3 = 0 := (f.1 4 0 3 (by omega)).trans rfl
  rw [e1, bv_some, if_pos h3, bd_some, lt_v, if_neg (by rw [sI1, if_pos ⟨rfl, rfl, rfl⟩]; decide)]
  exact ⟨_, rfl⟩
theorem ver0D : ∃ Mr', F_D_verify Mr0 = some (1, Mr') := by
  obtain ⟨M1, e1, f, -, -⟩ := e_forgetD Mr0
  rw [e1]
  have r : ∀ k, M1.1 30 0 k = (sI (sI (sI Mr0 30 0 34 0) 30 0 35 (-1)) 30 0 36 0).1 30 0 k := fun k => f 30 0 k (by omega)
  have h11 : M1.1 30 0 11 = 0 := (r 11).trans (by decide +kernel)
  have h12 : M1.1 30 0 12 = 0 := (r 12).trans (by decide +kernel)
  have h13 : M1.1 30 0 13 = 0 := (r 13).trans (by decide +kernel)
  have h15 : M1.1 30 0 15 = 0 := (r 15).trans (by decide +kernel)
  have h34 : M1.1 30 0 34 = 0 := (r 34).trans (by decide +kernel)
  have g : ∀ c, ¬ c = 34 → ¬ c = 35 → (sI (sI M1 30 0 34 1) 30 0 35 0).1 30 0 c = M1.1 30 0 c := fun c q1 q2 => by
    rw [sI1, if_neg (fun z => q2 z.2.2), sI1, if_neg (fun z => q1 z.2.2)]
  have g34 : ¬ (sI (sI M1 30 0 34 1) 30 0 35 0).1 30 0 34 = 0 := by
    rw [sI1, if_neg (by omega), sI1, if_pos ⟨rfl, rfl, rfl⟩]
    decide
  have z0 : (0 : Int32) ≤ 0 := by decide
  unfold vD1 F_D_form F_D_fail F_D_form_b13
  rw [if_pos h11, if_pos (by rw [h34]; exact z0), lt_v, lt_v, bv_some, fuel_s, F_D_form_b15, if_pos (by rw [g 11 (by decide) (by decide), h11]; exact z0), fuel_s, F_D_form_b64, if_pos (by rw [g 12 (by decide) (by decide), h12]; exact z0), fuel_s, F_D_form_b174, if_pos (by rw [g 13 (by decide) (by decide), h13]; exact z0), if_pos (by rw [g 15 (by decide) (by decide), h15]; exact z0), bv_some, if_neg g34, F_D_verify_b65, if_neg g34]
  unfold F_D_verify_b136 F_D_verify_b153
  rw [if_neg g34, lt_v, lt_v, fuel_s, F_D_verify_b165]
  generalize hX : sI (sI M1 30 0 34 1) 30 0 35 0 = X at g g34 ⊢
  have h11' : X.1 30 0 11 = 0 := (g 11 (by decide) (by decide)).trans h11
  have h34' : X.1 30 0 34 = 1 := by
    rw [← hX, sI1, if_neg (by omega), sI1, if_pos ⟨rfl, rfl, rfl⟩]
  have k11 : (sL (sI X 30 0 38 0) 30 0 41 0).1 30 0 11 = 0 := by
    rw [sL1, sI1, if_neg (by omega)]
    exact h11'
  have k34 : (sL (sI X 30 0 38 0) 30 0 41 0).1 30 0 34 = 1 := by
    rw [sL1, sI1, if_neg (by omega)]
    exact h34'
  rw [if_pos (by rw [k11]; exact z0), k34]
  exact ⟨_, rfl⟩
theorem sta0 (v1 v2 : Int32) : F_G_state v1 v2 Mc0 = some (-1, Mc0) ∧ F_D_state v1 v2 Mr0 = some (-1, Mr0) := by
  unfold F_G_state F_D_state
  rw [lt_v, inD]
  by_cases c1 : v1 < 0
  · rw [if_pos c1, if_pos c1, if_pos rfl]
    exact ⟨rfl, rfl⟩
  · rw [if_neg c1]
    by_cases c2 : v1 ≤ 47
    · obtain ⟨j, hj, rfl⟩ := nI_of2 (M := 47) (n := 47) (by decide) c1 c2
      rw [if_neg (gev48 (by omega)), bnd_nI (by omega) (by decide), bnd_nI (by omega) (by decide)]
      have e : ¬ (47 : Int32) < nI j := Int32.not_lt.mpr c2
      refine ⟨rfl, ?_⟩
      simp [e, nI_pos (show j < 2 ^ 31 by omega)]
      rw [bnd_nI (show j < 48 by omega) (by decide)]
      rfl
    · have e : (47 : Int32) < v1 := Int32.not_le.mp c2
      have e2 : (48 : Int32) ≤ v1 := by
        rw [Int32.lt_iff_toInt_lt] at e
        rw [Int32.le_iff_toInt_le]
        have a1 : (47 : Int32).toInt = 47 := by decide
        have a2 : (48 : Int32).toInt = 48 := by decide
        omega
      rw [if_pos e2]
      simp [e, c1]
theorem cnt0b : ∀ j, j < 48 → (0 : Int32) + ((((0 : Int64) >>> ((nI j).toInt64 &&& 63)) &&& 1 : Int64).toInt32) = 0 := by decide +kernel
theorem cnt0L (v1 : Int32) : ∀ n j, 48 < j + n → j ≤ 48 → F_D_count_b4 n v1 0 (nI j) Mr0 = (if v1 = 0 then some (Mr0.1 30 0 2, Mr0) else (if v1 = 1 then some (Mr0.1 30 0 11, Mr0) else (if v1 = 2 then some (Mr0.1 30 0 12, Mr0) else (if v1 = 3 then some (Mr0.1 30 0 13, Mr0) else (if v1 = 4 then some (Mr0.1 30 0 36, Mr0) else (if v1 = 5 then some (Mr0.1 30 0 38, Mr0) else (if v1 = 6 then some (Mr0.1 30 0 37, Mr0) else (if v1 = 7 then some (0, Mr0) else some ((-1), Mr0))))))))) := by
  intro n
  induction n with
  | zero =>
    intro j h1 h2
    omega
  | succ n ih =>
    intro j h1 h2
    rw [F_D_count_b4]
    by_cases c : j = 48
    · subst c
      rw [if_pos lev48]
    · have hj : j < 48 := by omega
      rw [if_neg (gev48 hj), lt_v, lt_v, nI_1]
      have e : (0 : Int32) + ((((Mr0.2 30 0 41 : Int64) >>> ((nI j).toInt64 &&& 63)) &&& 1 : Int64).toInt32) = 0 := cnt0b j hj
      rw [e]
      exact ih (j + 1) (by omega) (by omega)
theorem cnt0 (v1 : Int32) : ∃ r, F_G_count v1 Mc0 = some (r, Mc0) ∧ F_D_count v1 Mr0 = some (r, Mr0) := by
  have eD : F_D_count v1 Mr0 = _ := cnt0L v1 fuel 0 (fuel_pos (by decide)) (by decide)
  rw [eD]
  unfold F_G_count
  by_cases c0 : v1 = 0
  · rw [if_pos c0, if_pos c0]
    exact ⟨2, rfl, rfl⟩
  rw [if_neg c0, if_neg c0]
  by_cases c1 : v1 = 1
  · rw [if_pos c1, if_pos c1]
    exact ⟨0, rfl, rfl⟩
  rw [if_neg c1, if_neg c1]
  by_cases c2 : v1 = 2
  · rw [if_pos c2, if_pos c2]
    exact ⟨0, rfl, rfl⟩
  rw [if_neg c2, if_neg c2]
  by_cases c3 : v1 = 3
  · rw [if_pos c3, if_pos c3]
    exact ⟨0, rfl, rfl⟩
  rw [if_neg c3, if_neg c3]
  by_cases c4 : v1 = 4
  · rw [if_pos c4, if_pos c4]
    exact ⟨0, rfl, rfl⟩
  rw [if_neg c4, if_neg c4]
  by_cases c5 : v1 = 5
  · rw [if_pos c5, if_pos c5]
    exact ⟨0, rfl, rfl⟩
  rw [if_neg c5, if_neg c5]
  by_cases c6 : v1 = 6
  · rw [if_pos c6, if_pos c6]
    exact ⟨0, rfl, rfl⟩
  rw [if_neg c6, if_neg c6]
  by_cases c7 : v1 = 7
  · rw [if_pos c7, if_pos c7]
    have e : P_JL_bitCount (Mc0.2 14 0 11) Mc0 = 0 := by
      show P_JL_bitCount 0 Mc0 = 0
      unfold P_JL_bitCount
      decide +kernel
    rw [lt_v, e]
    exact ⟨0, rfl, rfl⟩
  rw [if_neg c7, if_neg c7]
  exact ⟨-1, rfl, rfl⟩
def P00 : MT := ((0, 0, 0, 0, 0, 0), fun _ _ => 0)
theorem ty00 : TOk 2 (fun _ => 0) (fun _ => 0) ∧ TCl 2 (fun _ => 0) (fun _ => 0) Mc0 ∧ TRe 2 (fun _ => 0) (fun _ => 0) Mr0 := by
  refine ⟨⟨by decide, by decide, fun c h _ => h, fun _ _ => Or.inl rfl⟩, ⟨rfl, fun _ _ => rfl, ?_⟩, ⟨rfl, rfl, fun c h0 h2 => ?_, fun _ _ => rfl⟩⟩
  · decide +kernel
  · have e : c = 1 := by omega
    subst e
    rfl
theorem me00 : MOk P00 ∧ CMe P00 Mc0 ∧ DMe P00 Mr0 := by
  refine ⟨⟨by decide, by decide, by decide, by decide, by decide, fun _ _ => ⟨0, by decide, rfl⟩, fun k hk => absurd hk (Nat.not_lt_zero k), by decide⟩, ⟨rfl, rfl, rfl, rfl, rfl, rfl, fun _ _ => ⟨rfl, rfl, rfl⟩, fun _ _ => ⟨rfl, rfl, rfl, rfl⟩, fun _ _ => rfl⟩, ⟨rfl, rfl, rfl, rfl, rfl, rfl, fun _ _ => ⟨rfl, rfl, rfl⟩, fun _ _ => ⟨rfl, rfl, rfl, rfl⟩, fun _ _ => rfl⟩⟩
