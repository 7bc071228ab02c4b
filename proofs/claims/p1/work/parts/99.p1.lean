/-! p1: each call as the first on a new object. -/
theorem rel00 : Rel Mc0 Mr0 := by
  refine ⟨⟨2, _, _, ty00⟩, ⟨P00, me00⟩, by decide +kernel, rfl, rfl, rfl, rfl, fun b _ => bq_0 b, fun k _ => ⟨rfl, fun z => absurd rfl z⟩⟩
def R1 (i : Nat) (Mc Mr : Mm) : Prop := i = 0 → Mc = Mc0 ∧ Mr = Mr0
theorem r1_5 {i : Nat} {Mc Mr : Mm} : R1 (i + 5) Mc Mr := fun q => by omega
theorem sim_p1 : SimAll 5 R1 := by
  refine ⟨fun _ => ⟨rfl, rfl⟩, fun i Mc Mr hi hR => ⟨r1_5, ?_⟩⟩
  obtain ⟨rfl, rfl⟩ := hR (by omega)
  refine ⟨fun v1 v2 hz => ?_, fun v1 v2 v3 => ?_, fun v1 => ?_, fun v1 v2 v3 => ?_, fun v1 v2 v3 v4 => ?_, fun v1 v2 v3 v4 => ?_, fun _ => ?_, fun _ => ?_, fun v1 v2 => ?_, fun v1 v2 => ?_, fun v1 v2 => ?_, fun v1 => ?_⟩
  · obtain ⟨r, Mc', Mr', e1, e2, -⟩ := sim_cls Mc0 Mr0 rel00 v1 v2 hz
    exact ⟨r, Mc', Mr', e1, e2, r1_5⟩
  · obtain ⟨r, Mc', Mr', e1, e2, -⟩ := sim_begin Mc0 Mr0 rel00 v1 v2 v3
    exact ⟨r, Mc', Mr', e1, e2, r1_5⟩
  · obtain ⟨r, Mc', Mr', e1, e2, -⟩ := sim_argument Mc0 Mr0 rel00 v1
    exact ⟨r, Mc', Mr', e1, e2, r1_5⟩
  · obtain ⟨r, Mc', Mr', e1, e2, -⟩ := sim_add Mc0 Mr0 rel00 v1 v2 v3
    exact ⟨r, Mc', Mr', e1, e2, r1_5⟩
  · obtain ⟨r, Mc', Mr', e1, e2, -⟩ := sim_change Mc0 Mr0 rel00 v1 v2 v3 v4
    exact ⟨r, Mc', Mr', e1, e2, r1_5⟩
  · obtain ⟨r, Mc', Mr', e1, e2, -⟩ := sim_handler Mc0 Mr0 rel00 v1 v2 v3 v4
    exact ⟨r, Mc', Mr', e1, e2, r1_5⟩
  · obtain ⟨Mc', e1⟩ := ver0C
    obtain ⟨Mr', e2⟩ := ver0D
    exact ⟨1, Mc', Mr', e1, e2, r1_5⟩
  · obtain ⟨r, Mc', Mr', e1, e2, -⟩ := sim_place Mc0 Mr0 rel00 ()
    exact ⟨r, Mc', Mr', e1, e2, r1_5⟩
  · exact ⟨-1, Mc0, Mr0, (sta0 v1 v2).1, (sta0 v1 v2).2, r1_5⟩
  · obtain ⟨r, Mc', Mr', e1, e2, -⟩ := sim_join Mc0 Mr0 rel00 v1 v2
    exact ⟨r, Mc', Mr', e1, e2, r1_5⟩
  · obtain ⟨r, Mc', Mr', e1, e2, -⟩ := sim_goes Mc0 Mr0 rel00 v1 v2
    exact ⟨r, Mc', Mr', e1, e2, r1_5⟩
  · obtain ⟨r, e1, e2⟩ := cnt0 v1
    exact ⟨r, Mc0, Mr0, e1, e2, r1_5⟩
