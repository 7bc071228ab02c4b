def Mc0 : Mm := (fun t _ => match t with
  | 0 => fun k => if k = 4 then -1 else 0
  | 1 => fun k => if k = 2 then 2 else 0
  | 2 => upd (upd (fun _ => 0) 0 1) 1 3
  | _ => fun _ => 0, fun _ _ _ => 0)
def Mr0 : Mm := (fun t _ => match t with
  | 30 => fun k => if k = 2 then 2 else if k = 35 then -1 else 0
  | 31 => upd (fun _ => 0) 0 (-1)
  | _ => fun _ => 0, fun _ _ _ => 0)
def aP (h0 : Nat) (u : (Nat → Nat) × (Nat → Nat)) (h1 : Nat) (v : Nat → Nat) (p : Nat) : Nat := if p = 0 then h0 else if p < 15 then u.1 (p - 1) else if p < 219 then u.2 (p - 15) else if p = 219 then h1 else v (p - 220)
def aS (h0 : Nat) (u : (Nat → Nat) × (Nat → Nat)) (h1 : Nat) (v : Nat → Nat) (t i : Nat) : Nat := aP h0 u h1 v (pos t i)
abbrev fF (cI : Nat → ClassId) (h0 : Nat) (u : (Nat → Nat) × (Nat → Nat)) (h1 : Nat) (v : Nat → Nat) (p : Nat) : Nat × va_E := (aS h0 u h1 v (tg p) (nmb p), cellE (aS h0 u h1 v) cI (tg p) (nmb p) (mg Mc0 Mr0))
set_option maxRecDepth 100000 in
set_option maxHeartbeats 4000000 in
theorem st_front (cI : Nat → ClassId) (h0 : Nat) (u : (Nat → Nat) × (Nat → Nat)) (h1 : Nat) (v : Nat → Nat) : [(h0, .inr (0, [.ref (u.1 0), .ref (u.1 3), .ref (u.1 12), .ref (u.1 13), .int (-1), .int 0])), ((u.1 0), .inr (1, [.ref (u.1 1), .ref (u.1 2), .int 2])), ((u.1 1), .inl (cI 0, 10, .inl (upd (upd (fun _ => 0) 0 1) 1 3))), ((u.1 2), .inl (cI 1, 10, .inl (fun _ => 0))), ((u.1 3), .inr (2, [.ref (u.1 4), .ref (u.1 5), .ref (u.1 6), .int 0, .ref (u.1 7), .ref (u.1 8), .ref (u.1 9), .ref (u.1 10), .int 0, .ref (u.1 11), .int 0, .int 0, .int 0, .int 0])), ((u.1 4), .inl (cI 0, 48, .inl (fun _ => 0))), ((u.1 5), .inl (cI 0, 48, .inl (fun _ => 0))), ((u.1 6), .inl (cI 0, 48, .inl (fun _ => 0))), ((u.1 7), .inl (cI 0, 3, .inl (fun _ => 0))), ((u.1 8), .inl (cI 0, 3, .inl (fun _ => 0))), ((u.1 9), .inl (cI 0, 3, .inl (fun _ => 0))), ((u.1 10), .inl (cI 0, 3, .inl (fun _ => 0))), ((u.1 11), .inl (cI 0, 6, .inl (fun _ => 0))), ((u.1 12), .inr (3, [.ref (u.1 0), .ref (u.1 3)]))] ++ wW_init_f cI (u.1 13) (u.1 0) (u.1 3) u.2 (fun j => some (aS h0 u h1 v 19 (j + 2))) = (List.range 27).map (fF cI h0 u h1 v) := rfl
set_option maxRecDepth 100000 in
set_option maxHeartbeats 4000000 in
theorem st_ref (cI : Nat → ClassId) (h0 : Nat) (u : (Nat → Nat) × (Nat → Nat)) (h1 : Nat) (v : Nat → Nat) : wD_init cI h1 v = (List.range' 219 25).map (fF cI h0 u h1 v) := rfl
theorem aP_pool {h0 : Nat} {u : (Nat → Nat) × (Nat → Nat)} {h1 : Nat} {v : Nat → Nat} {j : Nat} (hj : j < 192) : aP h0 u h1 v (27 + j) = u.2 (12 + j) := by
  unfold aP
  rw [if_neg (by omega), if_neg (by omega), if_pos (by omega), show 27 + j - 15 = 12 + j by omega]
theorem st_tg {k r : Nat} (hk : k < 48) (hr : r < 4) : tg (27 + (4 * k + r)) = 19 + r ∧ nmb (27 + (4 * k + r)) = k + 2 := by
  unfold tg nmb
  rw [if_neg (by omega), if_pos (by omega), if_neg (by omega), if_pos (by omega)]
  constructor <;> omega
theorem st_pos {k r : Nat} (hr : r < 4) : pos (19 + r) (k + 2) = 27 + (4 * k + r) := by
  unfold pos
  rw [if_neg (by omega), if_pos (by omega)]
  omega
theorem st_cell (cI : Nat → ClassId) (h0 : Nat) (u : (Nat → Nat) × (Nat → Nat)) (h1 : Nat) (v : Nat → Nat) {k r : Nat} (hk : k < 48) (hr : r < 4) : fF cI h0 u h1 v (27 + (4 * k + r)) = (u.2 (12 + (4 * k + r)), cellE (aS h0 u h1 v) cI (19 + r) (k + 2) (mg Mc0 Mr0)) := by
  obtain ⟨e1, e2⟩ := st_tg hk hr
  show (aS h0 u h1 v (tg (27 + (4 * k + r))) (nmb (27 + (4 * k + r))), cellE (aS h0 u h1 v) cI (tg (27 + (4 * k + r))) (nmb (27 + (4 * k + r))) (mg Mc0 Mr0)) = _
  rw [e1, e2]
  have e3 : aS h0 u h1 v (19 + r) (k + 2) = u.2 (12 + (4 * k + r)) := by
    unfold aS
    rw [st_pos hr, aP_pool (by omega)]
  rw [e3]
theorem st_a {h0 : Nat} {u : (Nat → Nat) × (Nat → Nat)} {h1 : Nat} {v : Nat → Nat} {k r : Nat} (hk : k < 48) (hr : r < 4) : aS h0 u h1 v (19 + r) (k + 2) = u.2 (12 + (4 * k + r)) := by
  unfold aS
  rw [st_pos hr, aP_pool (by omega)]
set_option maxRecDepth 100000 in
theorem st_pool (cI : Nat → ClassId) (h0 : Nat) (u : (Nat → Nat) × (Nat → Nat)) (h1 : Nat) (v : Nat → Nat) : ∀ k, k ≤ 48 → wW_init_p cI (fun j => u.2 (12 + j)) k = (List.range' 27 (4 * k)).map (fF cI h0 u h1 v)
  | 0, _ => rfl
  | k + 1, h => by
    have e0 : List.range' 27 (4 * (k + 1)) = List.range' 27 (4 * k) ++ [27 + (4 * k + 0), 27 + (4 * k + 1), 27 + (4 * k + 2), 27 + (4 * k + 3)] := by
      rw [show 4 * (k + 1) = 4 * k + 4 by omega, ← List.range'_append_1]
      congr 1
    rw [e0, List.map_append, ← st_pool cI h0 u h1 v k (by omega)]
    simp only [List.map_cons, List.map_nil, st_cell cI h0 u h1 v (show k < 48 by omega) (show 0 < 4 by omega), st_cell cI h0 u h1 v (show k < 48 by omega) (show 1 < 4 by omega), st_cell cI h0 u h1 v (show k < 48 by omega) (show 2 < 4 by omega), st_cell cI h0 u h1 v (show k < 48 by omega) (show 3 < 4 by omega)]
    show wW_init_p cI (fun j => u.2 (12 + j)) k ++ wR_init cI (u.2 (12 + 4 * k)) (fun j => u.2 (12 + (4 * k + 1 + j))) = _
    congr 1
    have a1 : aS h0 u h1 v 20 (k + 2) = u.2 (12 + (4 * k + 1)) := st_a (show k < 48 by omega) (show 1 < 4 by omega)
    have a2 : aS h0 u h1 v 21 (k + 2) = u.2 (12 + (4 * k + 2)) := st_a (show k < 48 by omega) (show 2 < 4 by omega)
    have a3 : aS h0 u h1 v 22 (k + 2) = u.2 (12 + (4 * k + 3)) := st_a (show k < 48 by omega) (show 3 < 4 by omega)
    have c0 : cellE (aS h0 u h1 v) cI (19 + 0) (k + 2) (mg Mc0 Mr0) = .inr (5, [.ref (aS h0 u h1 v 20 (k + 2)), .ref (aS h0 u h1 v 21 (k + 2)), .int 0, .long 0, .ref (aS h0 u h1 v 22 (k + 2))]) := rfl
    rw [c0, a1, a2, a3]
    rfl
theorem va_P_swap {D : va_G} {cl : List vw_C} {ws : va_W} {H : Heap} {p q n : Nat} {cA : ClassId} {f g : Nat → Option Nat} (h : va_P D cl ws H) (hp : ws[p]? = some (q, .inl (cA, n, .inr (.inr (.inr (.inr f)))))) (hfg : ∀ j, j < n → f j = g j) : va_P D cl (ws.set p (q, .inl (cA, n, .inr (.inr (.inr (.inr g)))))) H := by
  have hl := (List.getElem?_eq_some_iff.mp hp).1
  intro k x hk
  by_cases e : k = p
  · subst e
    rw [List.getElem?_set_self hl] at hk
    cases hk
    have h1 := h k _ hp
    show H[q]? = some (vp_cell cA (n, .inr (.inr (.inr (.inr g)))))
    have h2 : H[q]? = some (vp_cell cA (n, .inr (.inr (.inr (.inr f))))) := h1
    rw [h2, vp_cell_q, vp_cell_q]
    congr 1
    unfold arrV
    congr 1
    congr 1
    funext j
    show va_rf (f j.val) = va_rf (g j.val)
    rw [hfg j.val j.isLt]
  · rw [List.getElem?_set_ne (fun z => e z.symm)] at hk
    exact h k x hk
set_option maxRecDepth 100000 in
set_option maxHeartbeats 4000000 in
theorem st_all (cI : Nat → ClassId) (h0 : Nat) (u : (Nat → Nat) × (Nat → Nat)) (h1 : Nat) (v : Nat → Nat) : (wG_init cI h0 u ++ wD_init cI h1 v).set 15 (u.2 0, .inl (cI 3, 48, .inr (.inr (.inr (.inr (fun j => some (aS h0 u h1 v 19 (j + 2)))))))) = zwL (aS h0 u h1 v) cI (mg Mc0 Mr0) := by
  have e0 : List.range 244 = List.range 27 ++ (List.range' 27 (4 * 48) ++ List.range' 219 25) := by decide +kernel
  unfold zwL
  rw [e0, List.map_append, List.map_append]
  have e1 := st_front cI h0 u h1 v
  have e2 := st_pool cI h0 u h1 v 48 (by omega)
  have e3 := st_ref cI h0 u h1 v
  rw [← e1, ← e2, ← e3]
  unfold wG_init wW_init
  simp only [List.append_assoc]
  rfl
set_option maxRecDepth 100000 in
theorem st_P (cI : Nat → ClassId) (h0 : Nat) (u : (Nat → Nat) × (Nat → Nat)) (h1 : Nat) (v : Nat → Nat) {D : va_G} {H : Heap} (h : va_P D vwCl (wG_init cI h0 u ++ wD_init cI h1 v) H) : va_P D vwCl (zwL (aS h0 u h1 v) cI (mg Mc0 Mr0)) H := by
  rw [← st_all cI h0 u h1 v]
  refine va_P_swap h (f := wW_init_g (fun j => u.2 (12 + j)) 48) rfl (fun j hj => ?_)
  show (if j < 48 then some (u.2 (12 + 4 * j)) else none) = some (aS h0 u h1 v (19 + 0) (j + 2))
  rw [if_pos hj, st_a hj (by omega)]
  rfl
set_option maxRecDepth 100000 in
theorem st_D (cI : Nat → ClassId) (h0 : Nat) (u : (Nat → Nat) × (Nat → Nat)) (h1 : Nat) (v : Nat → Nat) {A : Nat → Prop} (h : va_D A (wG_init cI h0 u ++ wD_init cI h1 v)) : va_D A (zwL (aS h0 u h1 v) cI (mg Mc0 Mr0)) := by
  rw [← st_all cI h0 u h1 v]
  exact va_D.set (e0 := .inl (cI 3, 48, .inr (.inr (.inr (.inr (wW_init_g (fun j => u.2 (12 + j)) 48)))))) h rfl
