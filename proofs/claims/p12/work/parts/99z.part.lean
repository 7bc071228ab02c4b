/-! p12: the answers of goes alone are compared. -/
theorem sim_part : SimAll 2560 (fun _ => Rel) := by
  refine ⟨rel0p, fun i Mc Mr _ h => ⟨h, ?_⟩⟩
  refine ⟨fun v1 v2 hz => ?_, fun v1 v2 v3 => ?_, fun v1 => ?_, fun v1 v2 v3 => ?_, fun v1 v2 v3 v4 => ?_, fun v1 v2 v3 v4 => ?_, fun _ => ?_, fun _ => ?_, fun v1 v2 => ?_, fun v1 v2 => ?_, fun v1 v2 => ?_, fun v1 => ?_⟩
  · obtain ⟨r, Mc', Mr', e1, e2, hR⟩ := sim_cls Mc Mr h v1 v2 hz
    exact ⟨r, r, Mc', Mr', e1, e2, hR⟩
  · obtain ⟨r, Mc', Mr', e1, e2, hR⟩ := sim_begin Mc Mr h v1 v2 v3
    exact ⟨r, r, Mc', Mr', e1, e2, hR⟩
  · obtain ⟨r, Mc', Mr', e1, e2, hR⟩ := sim_argument Mc Mr h v1
    exact ⟨r, r, Mc', Mr', e1, e2, hR⟩
  · obtain ⟨r, Mc', Mr', e1, e2, hR⟩ := sim_add Mc Mr h v1 v2 v3
    exact ⟨r, r, Mc', Mr', e1, e2, hR⟩
  · obtain ⟨r, Mc', Mr', e1, e2, hR⟩ := sim_change Mc Mr h v1 v2 v3 v4
    exact ⟨r, r, Mc', Mr', e1, e2, hR⟩
  · obtain ⟨r, Mc', Mr', e1, e2, hR⟩ := sim_handler Mc Mr h v1 v2 v3 v4
    exact ⟨r, r, Mc', Mr', e1, e2, hR⟩
  · exact t_ver h
  · exact ⟨Mc.1 0 0 4, P_D_place Mr, Mc, Mr, rfl, p_D_place Mr, h⟩
  · obtain ⟨rc, e1⟩ := t_stC h.2.2 v1 v2
    obtain ⟨rd, e2⟩ := t_stD v1 v2 Mr
    exact ⟨rc, rd, Mc, Mr, e1, e2, h⟩
  · obtain ⟨r, Mc', Mr', e1, e2, hR⟩ := sim_join Mc Mr h v1 v2
    exact ⟨r, r, Mc', Mr', e1, e2, hR⟩
  · obtain ⟨r, Mc', Mr', e1, e2, hR⟩ := sim_goes Mc Mr h v1 v2
    exact ⟨r, Mc', Mr', e1, e2, hR⟩
  · obtain ⟨rd, e2⟩ := t_cntL (v1 := v1) (M := Mr) fuel 0 0 (fuel_pos (by decide)) (by decide)
    exact ⟨P_G_count v1 Mc, rd, Mc, Mr, p_G_count v1 Mc, e2, h⟩
