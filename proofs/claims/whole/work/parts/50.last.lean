/-! ===== THE CLAIM ===== -/
theorem Inv_step : ∀ a0 a1 a2 a3 a4 a5 : Int, rg a0 → rg a1 → rg a2 → rg a3 → rg a4 → rg a5 → ∀ (sx : s_LS) (sm : s_Mo), Inv sx sm → stepP a0 a1 a2 a3 a4 a5 sx sm Inv := by
  intro a0 a1 a2 a3 a4 a5 _ r1 r2 r3 r4 r5 sx s hi
  exact ⟨fun _ => t_corner r1 r2 r3 hi, fun _ => t_tri r1 r2 r3 hi, fun _ => t_mend hi, fun _ => t_mended r1 hi, fun _ => t_triangle r1 r2 hi, fun _ => t_turn r1 r2 hi, fun _ => t_layers r1 hi, fun _ => t_cut r1 r2 r3 r4 hi, fun _ => t_solid r1 r2 r3 hi, fun _ => t_settings r1 r2 r3 r4 r5 hi, fun _ => t_kind r1 r2 r3 hi, fun _ => t_paths r1 hi, fun _ => t_path r1 r2 r3 hi, fun _ => t_emit hi, fun _ => t_byteOf r1 hi, fun _ => t_play r1 hi, fun _ => t_laid r1 r2 r3 hi, fun _ => t_overhang r1 hi, fun _ => t_volume r1 hi, fun _ => hi⟩
theorem i_vc : Claimed_1_1 ∧ Claimed_1_2 := i_vc_of Inv_step Inv_0
