def gl (m : Nat) (v : Int32) : Bool := decide (¬ v < 0) && decide (v.toNatClampNeg < m)
theorem gl_sm {m : Nat} {v : Int32} (h : gl m v = true) : ∃ j, j < m ∧ j < 2 ^ 31 ∧ v = nI j := by
  unfold gl at h
  simp only [Bool.and_eq_true, decide_eq_true_eq] at h
  obtain ⟨j, hj, rfl⟩ := nI_of h.1
  rw [nI_clamp hj] at h
  exact ⟨j, h.2, hj, rfl⟩
theorem e_hasI {m : Nat} {v x : Int32} (hx : x = nI m) (hm : m ≤ 100) : (if v < 0 then (0 : Int32) else (if x ≤ v then 0 else 1)) = if gl m v then 1 else 0 := by
  unfold gl
  by_cases c1 : v < 0
  · simp [c1]
  · obtain ⟨j, hj, rfl⟩ := nI_of c1
    rw [nI_clamp hj, hx, if_neg c1]
    by_cases c2 : m ≤ j
    · rw [if_pos (nI_le c2 hj)]
      simp [show ¬ j < m by omega]
    · rw [if_neg (nI_ge (by omega) (by omega))]
      have c3 : ¬ nI j < 0 := c1
      simp [c3, show j < m by omega]
theorem e_inN {m : Nat} {v x : Int32} {M : Mm} (hx : x = nI m) (hm : m ≤ 100) : P_D_in v 0 (x - 1) M = if gl m v then 1 else 0 := by
  rw [inD]
  unfold gl
  by_cases c1 : v < 0
  · simp [c1]
  · obtain ⟨j, hj, rfl⟩ := nI_of c1
    rw [nI_clamp hj, hx, if_neg c1]
    have c3 : ¬ nI j < 0 := c1
    rcases Nat.eq_zero_or_pos m with rfl | h0
    · have c2 : nI 0 - 1 < nI j := by
        rw [Int32.lt_iff_toInt_lt, nI_toInt hj]
        have : (nI 0 - 1).toInt = -1 := by decide
        rw [this]
        omega
      rw [if_pos c2]
      simp
    · rw [show (1 : Int32) = nI 1 from rfl, pk_sub h0]
      by_cases c2 : m ≤ j
      · rw [if_pos (nI_lt (by omega) hj)]
        simp [show ¬ j < m by omega]
      · rw [if_neg (nI_nlt (by omega) (by omega))]
        simp [c3, show j < m by omega]
theorem sim_change : Sim_change Rel := by
  intro Mc Mr h v1 v2 v3 v4
  obtain ⟨P, p1, p2, p3⟩ := h.2.1
  obtain ⟨a1, a2, a3, a4, a5, a6, a7, a8⟩ := p1
  obtain ⟨b1, b2, b3, b4, b5, b6, b7, b8, b9⟩ := p2
  obtain ⟨d1, d2, d3, d4, d5, d6, d7, d8, d9⟩ := p3
  have g1 : P_M_hasInstruction v1 Mc = if gl (pm P) v1 then 1 else 0 := e_hasI b1 (by omega)
  have g2 : P_D_in v1 0 (Mr.1 30 0 11 - 1) Mr = if gl (pm P) v1 then 1 else 0 := e_inN d1 (by omega)
  cases c : gl (pm P) v1
  · exact ⟨-1, Mc, Mr, by simp [F_G_change, lt_v, g1, c], by simp [F_D_change, lt_v, g2, c], h⟩
  · rw [c, if_pos rfl] at g1 g2
    by_cases c0 : P_D_in v2 0 30 Mr = 0
    · exact ⟨-1, Mc, Mr, by rw [F_G_change, lt_v, g1, if_neg (by decide), lt_v, opC, inM (M' := Mr), if_pos c0], by rw [F_D_change, lt_v, g2, if_neg (by decide), lt_v, if_pos c0], h⟩
    · obtain ⟨j, j1, j2, rfl⟩ := gl_sm c
      have j48 : j < 48 := by omega
      have e1 : F_G_change (nI j) v2 v3 v4 Mc = some (P.2 0 j, sI (sI (sI Mc 5 0 j v2) 6 0 j v3) 7 0 j v4) := by
        rw [F_G_change, lt_v, g1, if_neg (by decide), lt_v, opC, inM (M' := Mr), if_neg c0, bnd_nI j48 (by decide), lt_v, F_M_write, bnd_nI j48 (by decide), lt_v, bnd_nI j48 (by decide), lt_v, bnd_nI j48 (by decide), lt_v, bv_some, nI_clamp j2, (b7 j j48).1]
      have e2 : F_D_change (nI j) v2 v3 v4 Mr = some (P.2 0 j, sI (sI (sI Mr 33 0 j v2) 34 0 j v3) 35 0 j v4) := by
        rw [F_D_change, lt_v, g2, if_neg (by decide), lt_v, if_neg c0, bnd_nI j48 (by decide), lt_v, bnd_nI j48 (by decide), lt_v, bnd_nI j48 (by decide), lt_v, bnd_nI j48 (by decide), lt_v, nI_clamp j2, (d7 j j48).1]
      refine ⟨_, _, _, e1, e2, Rel_m h (P := ((pm P, ph P, pg P, pL P, pS P, pr P), fun t k => if t = 0 ∧ k = j then v2 else if t = 1 ∧ k = j then v3 else if t = 2 ∧ k = j then v4 else P.2 t k)) ⟨fun t i k ht => by simp [sI1, show ¬ t = 5 by omega, show ¬ t = 6 by omega, show ¬ t = 7 by omega], rfl⟩ ⟨fun k hk => by simp [sI1], fun t i k ht => by simp [sI1, show ¬ t = 33 by omega, show ¬ t = 34 by omega, show ¬ t = 35 by omega], rfl⟩ ⟨a1, a2, a3, a4, a5, fun k hk => ?_, fun k hk => by simpa using a7 k hk, a8⟩ ⟨b1, b2, b3, b4, b5, b6, fun k hk => ?_, fun k hk => by simpa [sI1] using b8 k hk, fun k hk => by simpa [sI1] using b9 k hk⟩ ⟨d1, d2, d3, d4, d5, d6, fun k hk => ?_, fun k hk => by simpa [sI1] using d8 k hk, fun k hk => by simpa [sI1] using d9 k hk⟩⟩
      · by_cases q : k = j
        · obtain ⟨o, o1, o2⟩ := op_sm c0
          exact ⟨o, o1, by simp [q, o2]⟩
        · obtain ⟨o, o1, o2⟩ := a6 k hk
          exact ⟨o, o1, by simp [q, o2]⟩
      · by_cases q : k = j
        · simp [sI1, q]
        · simpa [sI1, q] using b7 k hk
      · by_cases q : k = j
        · simp [sI1, q]
        · simpa [sI1, q] using d7 k hk
theorem sim_handler : Sim_handler Rel := by
  intro Mc Mr h v1 v2 v3 v4
  obtain ⟨P, p1, p2, p3⟩ := h.2.1
  obtain ⟨a1, a2, a3, a4, a5, a6, a7, a8⟩ := p1
  obtain ⟨b1, b2, b3, b4, b5, b6, b7, b8, b9⟩ := p2
  obtain ⟨d1, d2, d3, d4, d5, d6, d7, d8, d9⟩ := p3
  by_cases c1 : ph P = 3
  · refine ⟨-2, Mc, Mr, ?_, ?_, h⟩
    · rw [F_G_handler, b2, if_pos (show nI (ph P) = 3 from eqN (k := 3) rfl c1)]
    · rw [F_D_handler, d2, if_pos (show nI (ph P) = 3 from eqN (k := 3) rfl c1)]
  · have h3 : ph P < 3 := by omega
    have e1 : F_G_handler v1 v2 v3 v4 Mc = some (nI (ph P + 1), sI (sI (sI (sI (sI Mc 8 0 (ph P) v1) 9 0 (ph P) v2) 10 0 (ph P) v3) 11 0 (ph P) v4) 4 0 8 (nI (ph P + 1))) := by
      rw [F_G_handler, if_neg (show ¬ Mc.1 4 0 8 = 3 by rw [b2]; exact neN (k := 3) rfl (by omega) (by decide) c1), F_M_appendHandler, b2, bnd_nI h3 (by decide), lt_v, nI_clamp (by omega)]
      have z1 : (sI Mc 8 0 (ph P) v1).1 4 0 8 = nI (ph P) := b2
      rw [z1, bnd_nI h3 (by decide), lt_v, nI_clamp (by omega)]
      have z2 : (sI (sI Mc 8 0 (ph P) v1) 9 0 (ph P) v2).1 4 0 8 = nI (ph P) := b2
      rw [z2, bnd_nI h3 (by decide), lt_v, nI_clamp (by omega)]
      have z3 : (sI (sI (sI Mc 8 0 (ph P) v1) 9 0 (ph P) v2) 10 0 (ph P) v3).1 4 0 8 = nI (ph P) := b2
      rw [z3, bnd_nI h3 (by decide), lt_v, nI_clamp (by omega), lt_v]
      have z4 : (sI (sI (sI (sI Mc 8 0 (ph P) v1) 9 0 (ph P) v2) 10 0 (ph P) v3) 11 0 (ph P) v4).1 4 0 8 = nI (ph P) := b2
      rw [z4, nI_1]
      rfl
    have e2 : F_D_handler v1 v2 v3 v4 Mr = some (nI (ph P + 1), sI (sI (sI (sI (sI Mr 36 0 (ph P) v1) 37 0 (ph P) v2) 38 0 (ph P) v3) 39 0 (ph P) v4) 30 0 12 (nI (ph P + 1))) := by
      rw [F_D_handler, if_neg (show ¬ Mr.1 30 0 12 = 3 by rw [d2]; exact neN (k := 3) rfl (by omega) (by decide) c1), d2, bnd_nI h3 (by decide), lt_v, nI_clamp (by omega)]
      have z1 : (sI Mr 36 0 (ph P) v1).1 30 0 12 = nI (ph P) := d2
      rw [z1, bnd_nI h3 (by decide), lt_v, nI_clamp (by omega)]
      have z2 : (sI (sI Mr 36 0 (ph P) v1) 37 0 (ph P) v2).1 30 0 12 = nI (ph P) := d2
      rw [z2, bnd_nI h3 (by decide), lt_v, nI_clamp (by omega)]
      have z3 : (sI (sI (sI Mr 36 0 (ph P) v1) 37 0 (ph P) v2) 38 0 (ph P) v3).1 30 0 12 = nI (ph P) := d2
      rw [z3, bnd_nI h3 (by decide), lt_v, nI_clamp (by omega), lt_v]
      have z4 : (sI (sI (sI (sI Mr 36 0 (ph P) v1) 37 0 (ph P) v2) 38 0 (ph P) v3) 39 0 (ph P) v4).1 30 0 12 = nI (ph P) := d2
      rw [z4, nI_1]
      rfl
    refine ⟨_, _, _, e1, e2, Rel_m h (P := ((pm P, ph P + 1, pg P, pL P, pS P, pr P), fun t k => if t = 3 ∧ k = ph P then v1 else if t = 4 ∧ k = ph P then v2 else if t = 5 ∧ k = ph P then v3 else if t = 6 ∧ k = ph P then v4 else P.2 t k)) ⟨fun t i k ht => by simp [sI1, show ¬ t = 4 by omega, show ¬ t = 8 by omega, show ¬ t = 9 by omega, show ¬ t = 10 by omega, show ¬ t = 11 by omega], rfl⟩ ⟨fun k hk => by simp [sI1, show ¬ k = 12 by omega], fun t i k ht => by simp [sI1, show ¬ t = 30 by omega, show ¬ t = 36 by omega, show ¬ t = 37 by omega, show ¬ t = 38 by omega, show ¬ t = 39 by omega], rfl⟩ ⟨a1, by show ph P + 1 ≤ 3; omega, a3, a4, a5, fun k hk => by simpa using a6 k hk, fun k hk => by simpa using a7 k hk, a8⟩ ⟨b1, rfl, b3, b4, b5, b6, fun k hk => by simpa [sI1] using b7 k hk, fun k hk => ?_, fun k hk => by simpa [sI1] using b9 k hk⟩ ⟨d1, rfl, d3, d4, d5, d6, fun k hk => by simpa [sI1] using d7 k hk, fun k hk => ?_, fun k hk => by simpa [sI1] using d9 k hk⟩⟩
    · by_cases q : k = ph P
      · simp [sI1, q]
      · simpa [sI1, q] using b8 k hk
    · by_cases q : k = ph P
      · simp [sI1, q]
      · simpa [sI1, q] using d8 k hk
theorem bl_cg {n d : Nat} {sup sup' : Nat → Nat} (hs : ∀ c, 0 < c → c < n → sup c < c) (he : ∀ c, 0 < c → c < n → sup' c = sup c) : ∀ c, c < n → bl sup' c d = bl sup c d := by
  have hs' : ∀ c, 0 < c → c < n → sup' c < c := fun c h0 hc => by rw [he c h0 hc]; exact hs c h0 hc
  intro c
  induction c using Nat.strongRecOn with
  | ind c ih =>
    intro hc
    rcases Nat.eq_zero_or_pos c with rfl | h0
    · rfl
    · have h1 := hs c h0 hc
      rw [bl_s hs' h0 hc, bl_s hs h0 hc, he c h0 hc, ih (sup c) h1 (by omega)]
theorem RF_cg2 {Mc Mc' Mr Mr' : Mm} (h : RF Mc Mr) (c : ∀ t i k, (t = 0 ∨ 13 < t) → Mc'.1 t i k = Mc.1 t i k) (c2 : Mc'.2 = Mc.2) (r : ∀ k, 16 < k → Mr'.1 30 0 k = Mr.1 30 0 k) (r2 : ∀ t i k, 40 < t → Mr'.1 t i k = Mr.1 t i k) (r3 : Mr'.2 = Mr.2) : RF Mc' Mr' := by
  intro k hk z
  rw [c 16 0 k (by omega)] at z
  obtain ⟨d, d1, d2⟩ := h k hk z
  refine ⟨d, d1, ?_⟩
  rw [c 19 (k + 2) 2 (by omega)]
  exact d2
theorem sim_cls : Sim_cls Rel := by
  intro Mc Mr h v1 v2 hz
  obtain ⟨n, sup, fc, t1, t2, t3⟩ := h.1
  obtain ⟨P, p1, p2, p3⟩ := h.2.1
  obtain ⟨n2, n10, hs, hf⟩ := t1
  obtain ⟨u1, u2, u3⟩ := t2
  obtain ⟨w1, w2, w3, w4⟩ := t3
  have g1 : P_T_hasClass v1 Mc = if gl n v1 then 1 else 0 := e_hasI u1 (by omega)
  have g2 : P_D_in v1 0 (Mr.1 30 0 2 - 1) Mr = if gl n v1 then 1 else 0 := e_inN w1 (by omega)
  cases cg : gl n v1
  · exact ⟨-1, Mc, Mr, by simp [F_G_cls, lt_v, g1, cg], by simp [F_D_cls, lt_v, g2, cg], h⟩
  · rw [cg, if_pos rfl] at g1 g2
    by_cases c1 : n = 10
    · refine ⟨-2, Mc, Mr, ?_, ?_, h⟩
      · rw [F_G_cls, lt_v, g1, if_neg (by decide), u1, if_pos (show nI n = 10 from eqN (k := 10) rfl c1)]
      · rw [F_D_cls, lt_v, g2, if_neg (by decide), w1, if_pos (show nI n = 10 from eqN (k := 10) rfl c1)]
    · obtain ⟨a, a1, a2, rfl⟩ := gl_sm cg
      have n9 : n < 10 := by omega
      have e1 : F_G_cls (nI a) v2 Mc = some (nI n, sI (sI (sI Mc 2 0 n (Mc.1 2 0 a ||| (1 : Int32) <<< (nI n &&& 31))) 3 0 n v2) 1 0 2 (nI (n + 1))) := by
        rw [F_G_cls, lt_v, g1, if_neg (by decide), if_neg (show ¬ Mc.1 1 0 2 = 10 by rw [u1]; exact neN (k := 10) rfl (by omega) (by decide) c1), F_T_append, u1, bnd_nI (by omega) (by decide), bnd_nI n9 (by decide), lt_v, nI_clamp (by omega), nI_clamp (by omega)]
        have z1 : (sI Mc 2 0 n (Mc.1 2 0 a ||| (1 : Int32) <<< (nI n &&& 31))).1 1 0 2 = nI n := u1
        rw [z1, bnd_nI n9 (by decide), lt_v, nI_clamp (by omega), nar_zo hz, lt_v]
        have z2 : (sI (sI Mc 2 0 n (Mc.1 2 0 a ||| (1 : Int32) <<< (nI n &&& 31))) 3 0 n v2).1 1 0 2 = nI n := u1
        rw [z2, nI_1]
        have z3 : ∀ M : Mm, (sI M 1 0 2 (nI (n + 1))).1 1 0 2 = nI (n + 1) := fun M => rfl
        rw [z3, nI_pred, bd_some]
      have e2 : F_D_cls (nI a) v2 Mr = some (nI n, sI (sI (sI Mr 31 0 n (nI a)) 32 0 n v2) 30 0 2 (nI (n + 1))) := by
        rw [F_D_cls, lt_v, g2, if_neg (by decide), if_neg (show ¬ Mr.1 30 0 2 = 10 by rw [w1]; exact neN (k := 10) rfl (by omega) (by decide) c1), w1, bnd_nI n9 (by decide), lt_v, nI_clamp (by omega)]
        have z1 : (sI Mr 31 0 n (nI a)).1 30 0 2 = nI n := w1
        rw [z1, bnd_nI n9 (by decide), lt_v, nI_clamp (by omega), nar_zo hz, lt_v]
        have z2 : (sI (sI Mr 31 0 n (nI a)) 32 0 n v2).1 30 0 2 = nI n := w1
        rw [z2, nI_1]
        have z3 : ∀ M : Mm, (sI M 30 0 2 (nI (n + 1))).1 30 0 2 = nI (n + 1) := fun M => rfl
        rw [z3, nI_pred]
      have hs' : ∀ c, 0 < c → c < n + 1 → (fun c => if c = n then a else sup c) c < c := by
        intro c h0 hc
        show (if c = n then a else sup c) < c
        by_cases q : c = n
        · rw [if_pos q]
          omega
        · rw [if_neg q]
          exact hs c h0 (by omega)
      have hbl : ∀ c, c < n → ∀ d, bl (fun c => if c = n then a else sup c) c d = bl sup c d := fun c hc d => bl_cg hs (fun c h0 hc => by
        show (if c = n then a else sup c) = sup c
        rw [if_neg (by omega)]) c hc
      refine ⟨_, _, _, e1, e2, ⟨n + 1, fun c => if c = n then a else sup c, fun c => if c = n then v2 else fc c, ⟨by omega, by omega, hs', fun c hc => ?_⟩, ⟨rfl, fun c hc => ?_, fun c hc d hd => ?_⟩, ⟨rfl, ?_, fun c h0 hc => ?_, fun c hc => ?_⟩⟩, ⟨P, p1, ?_, ?_⟩, ?_⟩
      · show zo (if c = n then v2 else fc c)
        by_cases q : c = n
        · rw [if_pos q]
          exact hz
        · rw [if_neg q]
          exact hf c (by omega)
      · by_cases q : c = n
        · simp [sI1, q]
        · simpa [sI1, q] using u2 c (by omega)
      · by_cases q : c = n
        · rw [q]
          have z : (sI (sI (sI Mc 2 0 n (Mc.1 2 0 a ||| (1 : Int32) <<< (nI n &&& 31))) 3 0 n v2) 1 0 2 (nI (n + 1))).1 2 0 n = Mc.1 2 0 a ||| (1 : Int32) <<< (nI n &&& 31) := by simp [sI1]
          rw [z, b_or, u3 a a1 d hd, b_shl n (by omega) 1 hd, b_1, bl_s hs' (by omega) (by omega)]
          show _ = (decide (n = d) || bl (fun x => if x = n then a else sup x) (if n = n then a else sup n) d)
          rw [if_pos rfl, hbl a a1 d, Bool.or_comm]
          congr 1
          by_cases hcd : n = d
          · simp [hcd]
          · by_cases hle : n ≤ d
            · simp [hcd, hle, show ¬ d - n = 0 by omega]
            · simp [hcd, hle]
        · have z : (sI (sI (sI Mc 2 0 n (Mc.1 2 0 a ||| (1 : Int32) <<< (nI n &&& 31))) 3 0 n v2) 1 0 2 (nI (n + 1))).1 2 0 c = Mc.1 2 0 c := by simp [sI1, q]
          rw [z, hbl c (by omega) d]
          exact u3 c (by omega) d hd
      · have z : (sI (sI (sI Mr 31 0 n (nI a)) 32 0 n v2) 30 0 2 (nI (n + 1))).1 31 0 0 = Mr.1 31 0 0 := by simp [sI1, show ¬ 0 = n by omega]
        rw [z]
        exact w2
      · show _ = nI (if c = n then a else sup c)
        by_cases q : c = n
        · simp [sI1, q]
        · simpa [sI1, q] using w3 c h0 (by omega)
      · show _ = (if c = n then v2 else fc c)
        by_cases q : c = n
        · simp [sI1, q]
        · simpa [sI1, q] using w4 c (by omega)
      · obtain ⟨b1, b2, b3, b4, b5, b6, b7, b8, b9⟩ := p2
        exact ⟨b1, b2, b3, b4, b5, b6, fun k hk => by simpa [sI1] using b7 k hk, fun k hk => by simpa [sI1] using b8 k hk, fun k hk => by simpa [sI1] using b9 k hk⟩
      · obtain ⟨d1, d2, d3, d4, d5, d6, d7, d8, d9⟩ := p3
        exact ⟨d1, d2, d3, d4, d5, d6, fun k hk => by simpa [sI1] using d7 k hk, fun k hk => by simpa [sI1] using d8 k hk, fun k hk => by simpa [sI1] using d9 k hk⟩
      · exact RF_cg2 h.2.2 (fun t i k ht => by simp [sI1, show ¬ t = 1 by omega, show ¬ t = 2 by omega, show ¬ t = 3 by omega]) rfl (fun k hk => by simp [sI1, show ¬ k = 2 by omega]) (fun t i k ht => by simp [sI1, show ¬ t = 30 by omega, show ¬ t = 31 by omega, show ¬ t = 32 by omega]) rfl
