/-! ===== MEANING 26: cut ===== -/
theorem H_of {l th : Int} (hl : 0 ≤ l ∧ l < 24) (hth : 1 ≤ th ∧ th ≤ 41 ∧ th % 2 = 1) : (0 ≤ (2 * l + 1) * th ∧ (2 * l + 1) * th ≤ 1927) ∧ ((2 * l + 1) * th) % 2 = 1 := by
  refine ⟨⟨Int.mul_nonneg (by omega) (by omega), ?_⟩, ?_⟩
  · have h1 : (2 * l + 1) * th ≤ 47 * th := Int.mul_le_mul_of_nonneg_right (by omega) (by omega)
    omega
  · rw [Int.mul_emod, show (2 * l + 1) % 2 = 1 by omega, hth.2.2]
    rfl
/-- of the layers alone: what class and reference have of a triangle -/
theorem tr_of {s : s_Sl} {ly th cu : Int} {cx cy cz so : Int → Int} (h : RSl s ly th cu cx cy cz so) {l t : Int} (hl : 0 ≤ l ∧ l < ly) (ht : 0 ≤ t ∧ t < cu) :
    (rg ((2 * l + 1) * th) ∧ ((2 * l + 1) * th) % 2 = 1) ∧
    (∀ i, 0 ≤ i → i < 3 → (0 ≤ gMe_named (gSl_mesh s) (3 * t + i) ∧ gMe_named (gSl_mesh s) (3 * t + i) < 80) ∧ gMe_x (gSl_mesh s) (gMe_named (gSl_mesh s) (3 * t + i)) = cx (3 * t + i) ∧ gMe_y (gSl_mesh s) (gMe_named (gSl_mesh s) (3 * t + i)) = cy (3 * t + i) ∧ gMe_z (gSl_mesh s) (gMe_named (gSl_mesh s) (3 * t + i)) = cz (3 * t + i)) ∧
    (∀ i, 0 ≤ i → i < 3 → (0 ≤ cx (3 * t + i) ∧ cx (3 * t + i) ≤ 120) ∧ (0 ≤ cy (3 * t + i) ∧ cy (3 * t + i) ≤ 120) ∧ (0 ≤ cz (3 * t + i) ∧ cz (3 * t + i) ≤ 120)) := by
  obtain ⟨e1, e2, hly, hth, e3, hcu, hp, hn, -⟩ := h
  have hH := H_of (l := l) (th := th) ⟨by omega, by omega⟩ (hth (by omega))
  refine ⟨⟨⟨by omega, by omega⟩, hH.2⟩, fun i i1 i2 => ?_, fun i i1 i2 => ?_⟩
  · obtain ⟨n1, n2, n3, n4⟩ := hn (3 * t + i) (by omega) (by omega)
    exact ⟨n1, n2.symm, n3.symm, n4.symm⟩
  · obtain ⟨n1, n2, n3, n4⟩ := hn (3 * t + i) (by omega) (by omega)
    rw [n2, n3, n4]
    exact hp _
theorem m_Mo_cut0 {a1 a2 a3 a4 : Int} {s0 : s_Mo} {Q : Int → s_Mo → Prop} (r1 : rg a1) (r2 : rg a2) (r3 : rg a3) (r4 : rg a4) (hly : 0 ≤ gMo_layers s0 ∧ gMo_layers s0 ≤ 24) (hcu : 0 ≤ gMo_cuts s0 ∧ gMo_cuts s0 ≤ 120)
    (hg : (0 ≤ a1 ∧ a1 < gMo_layers s0) → (0 ≤ a2 ∧ a2 < gMo_cuts s0) → (0 ≤ a3 ∧ a3 ≤ 1) → (0 ≤ a4 ∧ a4 ≤ 2) → ∃ X Y Z H, TrM s0 a1 a2 X Y Z H ∧ isC Z H = false) (h : Q 0 (mkMo (1) (gMo_corners s0) (gMo_px s0) (gMo_py s0) (gMo_pz s0) (gMo_triangles s0) (gMo_named s0) (gMo_joined s0) (gMo_dropped s0) (gMo_closed s0) (gMo_layers s0) (gMo_thickness s0) (gMo_cuts s0) (gMo_cx s0) (gMo_cy s0) (gMo_cz s0) (gMo_solids s0) (gMo_shell s0) (gMo_skin s0) (gMo_period s0) (gMo_reach s0) (gMo_gap s0) (gMo_bytes s0) (gMo_played s0) (gMo_at s0) (gMo_program s0) (gMo_beads s0) (gMo_ring s0))) : wp_Mo_cut a1 a2 a3 a4 s0 Q := by
  unfold wp_Mo_cut
  intro P61 h61
  have hz : P61 0 s0 := by
    apply h61
    exact ⟨by decide, fun _ => ⟨fun _ => h, fun q => absurd rfl q⟩, fun q => absurd rfl q⟩
  clear h61 h
  refine m_in r1 (by decide) ⟨by omega, by omega⟩ (fun q1 q2 => ⟨by decide, fun q => absurd q (by decide), fun _ => ?_⟩) (fun _ => ⟨by decide, fun _ => hz, fun q => absurd rfl q⟩)
  refine m_in r2 (by decide) ⟨by omega, by omega⟩ (fun q3 q4 => ⟨by decide, fun q => absurd q (by decide), fun _ => ?_⟩) (fun _ => ⟨by decide, fun _ => hz, fun q => absurd rfl q⟩)
  refine m_in r3 (by decide) (by decide) (fun q5 q6 => ⟨by decide, fun q => absurd q (by decide), fun _ => ?_⟩) (fun _ => ⟨by decide, fun _ => hz, fun q => absurd rfl q⟩)
  refine m_in r4 (by decide) (by decide) (fun q7 q8 => ⟨by decide, fun q => absurd q (by decide), fun _ => ?_⟩) (fun _ => ⟨by decide, fun _ => hz, fun q => absurd rfl q⟩)
  obtain ⟨X, Y, Z, H, hT, hC⟩ := hg ⟨q1, by omega⟩ ⟨q3, by omega⟩ ⟨q5, q6⟩ ⟨q7, q8⟩
  refine m_isCut hT ?_
  rw [hC]
  exact ⟨by decide, fun _ => hz, fun q => absurd rfl q⟩
theorem m_Mo_cut1 {a1 a2 a3 a4 : Int} {s0 : s_Mo} {Q : Int → s_Mo → Prop} (r1 : rg a1) (r2 : rg a2) (r3 : rg a3) (r4 : rg a4) (hly : 0 ≤ gMo_layers s0 ∧ gMo_layers s0 ≤ 24) (hcu : 0 ≤ gMo_cuts s0 ∧ gMo_cuts s0 ≤ 120) (g1 : 0 ≤ a1 ∧ a1 < gMo_layers s0) (g2 : 0 ≤ a2 ∧ a2 < gMo_cuts s0) (g3 : 0 ≤ a3 ∧ a3 ≤ 1) (g4 : 0 ≤ a4 ∧ a4 ≤ 2) {X Y Z : Int → Int} {H : Int}
    (hT : TrM s0 a1 a2 X Y Z H) (hC : isC Z H = true) (h : Q (enR X Y Z H (if a3 = 0 then e0_ Z H else e1_ Z H) a4) (mkMo (0) (gMo_corners s0) (gMo_px s0) (gMo_py s0) (gMo_pz s0) (gMo_triangles s0) (gMo_named s0) (gMo_joined s0) (gMo_dropped s0) (gMo_closed s0) (gMo_layers s0) (gMo_thickness s0) (gMo_cuts s0) (gMo_cx s0) (gMo_cy s0) (gMo_cz s0) (gMo_solids s0) (gMo_shell s0) (gMo_skin s0) (gMo_period s0) (gMo_reach s0) (gMo_gap s0) (gMo_bytes s0) (gMo_played s0) (gMo_at s0) (gMo_program s0) (gMo_beads s0) (gMo_ring s0))) : wp_Mo_cut a1 a2 a3 a4 s0 Q := by
  unfold wp_Mo_cut
  intro P61 h61
  refine m_in1 r1 (by decide) ⟨by omega, by omega⟩ g1.1 (by omega) ⟨by decide, fun q => absurd q (by decide), fun _ => ?_⟩
  refine m_in1 r2 (by decide) ⟨by omega, by omega⟩ g2.1 (by omega) ⟨by decide, fun q => absurd q (by decide), fun _ => ?_⟩
  refine m_in1 r3 (by decide) (by decide) g3.1 g3.2 ⟨by decide, fun q => absurd q (by decide), fun _ => ?_⟩
  refine m_in1 r4 (by decide) (by decide) g4.1 g4.2 ⟨by decide, fun q => absurd q (by decide), fun _ => ?_⟩
  refine m_isCut hT ?_
  rw [hC]
  refine ⟨by decide, fun q => absurd q (by decide), fun _ => ?_⟩
  apply h61
  have hT0 : TrM (mkMo (0) (gMo_corners s0) (gMo_px s0) (gMo_py s0) (gMo_pz s0) (gMo_triangles s0) (gMo_named s0) (gMo_joined s0) (gMo_dropped s0) (gMo_closed s0) (gMo_layers s0) (gMo_thickness s0) (gMo_cuts s0) (gMo_cx s0) (gMo_cy s0) (gMo_cz s0) (gMo_solids s0) (gMo_shell s0) (gMo_skin s0) (gMo_period s0) (gMo_reach s0) (gMo_gap s0) (gMo_bytes s0) (gMo_played s0) (gMo_at s0) (gMo_program s0) (gMo_beads s0) (gMo_ring s0)) a1 a2 X Y Z H := hT
  exact ⟨by decide, fun q => absurd q (by decide), fun _ => ⟨fun q => absurd q (by decide), fun _ => m_end hT0 hC (by omega) r4 h⟩⟩
theorem en_at {en X Y Z : Int → Int} {H : Int} (h : En6 en X Y Z H) {a3 a4 : Int} (g3 : 0 ≤ a3 ∧ a3 ≤ 1) (g4 : 0 ≤ a4 ∧ a4 ≤ 2) : en (3 * a3 + a4) = enR X Y Z H (if a3 = 0 then e0_ Z H else e1_ Z H) a4 := by
  obtain ⟨⟨h0, h1, h2⟩, h3, h4, h5⟩ := h
  have w3 : a3 = 0 ∨ a3 = 1 := by omega
  have w4 : a4 = 0 ∨ a4 = 1 ∨ a4 = 2 := by omega
  rcases w3 with rfl | rfl
  · rcases w4 with rfl | rfl | rfl
    · exact h0
    · exact h1
    · exact h2
  · rcases w4 with rfl | rfl | rfl
    · exact h3
    · exact h4
    · exact h5
/-- an end's bounds -/
theorem ed_in {A Z : Int → Int} {H k k2 : Int} (ho : H % 2 = 1) (hz1 : 0 ≤ Z k ∧ Z k ≤ 120) (hz2 : 0 ≤ Z k2 ∧ Z k2 ≤ 120) (ha1 : 0 ≤ A k ∧ A k ≤ 120) (ha2 : 0 ≤ A k2 ∧ A k2 ≤ 120) (hne : bw Z H k ≠ bw Z H k2) : (0 < edD Z H k k2 ∧ edD Z H k k2 ≤ 240) ∧ (0 ≤ edC A Z H k k2 ∧ edC A Z H k k2 ≤ 120 * edD Z H k k2) := by
  unfold bw at hne
  unfold edD edC evd evc
  by_cases w1 : 2 * Z k < H
  · have w2 : ¬ 2 * Z k2 < H := by
      intro w2
      rw [decide_eq_true w1, decide_eq_true w2] at hne
      exact hne rfl
    rw [if_pos w1, if_pos w1]
    exact ⟨⟨by omega, by omega⟩, end_in ha1 ha2 ⟨by omega, by omega⟩⟩
  · have w2 : 2 * Z k2 < H := by
      by_cases w2 : 2 * Z k2 < H
      · exact w2
      · rw [decide_eq_false w1, decide_eq_false w2] at hne
        exact absurd rfl hne
    rw [if_neg w1, if_neg w1]
    exact ⟨⟨by omega, by omega⟩, end_in ha2 ha1 ⟨by omega, by omega⟩⟩
theorem ne_of_cut {Z : Int → Int} {H : Int} (h : isC Z H = true) : bw Z H (e0_ Z H) ≠ bw Z H (nxe (e0_ Z H)) ∧ bw Z H (e1_ Z H) ≠ bw Z H (nxe (e1_ Z H)) := by
  have hC : ¬ (bw Z H 0 = bw Z H 1 ∧ bw Z H 1 = bw Z H 2) := by
    intro w
    unfold isC ct at h
    rw [w.1, w.2] at h
    simp at h
  by_cases w01 : bw Z H 0 = bw Z H 1
  · rw [show e0_ Z H = 1 from if_pos w01, show e1_ Z H = 2 from if_pos w01, nxe_1, nxe_2]
    exact ⟨fun w => hC ⟨w01, w⟩, fun w => hC ⟨w01, w01.symm.trans w.symm⟩⟩
  · by_cases w12 : bw Z H 1 = bw Z H 2
    · rw [show e0_ Z H = 0 from if_neg w01, show e1_ Z H = 2 from (if_neg w01).trans (if_pos w12), nxe_0, nxe_2]
      exact ⟨w01, fun w => w01 (w12.trans w).symm⟩
    · rw [show e0_ Z H = 0 from if_neg w01, show e1_ Z H = 1 from (if_neg w01).trans (if_neg w12), nxe_0, nxe_1]
      exact ⟨w01, w12⟩
/-- all six, bounded -/
theorem en_in {en X Y Z : Int → Int} {H : Int} (h : En6 en X Y Z H) (ho : H % 2 = 1) (hb : ∀ i, 0 ≤ i → i < 3 → (0 ≤ X i ∧ X i ≤ 120) ∧ (0 ≤ Y i ∧ Y i ≤ 120) ∧ (0 ≤ Z i ∧ Z i ≤ 120)) (hC : isC Z H = true) :
    (0 < en 0 ∧ en 0 ≤ 240) ∧ (0 ≤ en 1 ∧ en 1 ≤ 120 * en 0) ∧ (0 ≤ en 2 ∧ en 2 ≤ 120 * en 0) ∧ (0 < en 3 ∧ en 3 ≤ 240) ∧ (0 ≤ en 4 ∧ en 4 ≤ 120 * en 3) ∧ (0 ≤ en 5 ∧ en 5 ≤ 120 * en 3) := by
  obtain ⟨⟨h0, h1, h2⟩, h3, h4, h5⟩ := h
  obtain ⟨n0, n1⟩ := ne_of_cut hC
  obtain ⟨i0, i1⟩ := e0_in Z H
  have j0 := (nxe_in i0).1
  have j1 := (nxe_in i1).1
  obtain ⟨x0, y0, z0⟩ := hb _ i0.1 i0.2
  obtain ⟨x1, y1, z1⟩ := hb _ i1.1 i1.2
  obtain ⟨x2, y2, z2⟩ := hb _ j0.1 j0.2
  obtain ⟨x3, y3, z3⟩ := hb _ j1.1 j1.2
  have a0 := ed_in (A := X) ho z0 z2 x0 x2 n0
  have a1 := ed_in (A := Y) ho z0 z2 y0 y2 n0
  have a2 := ed_in (A := X) ho z1 z3 x1 x3 n1
  have a3 := ed_in (A := Y) ho z1 z3 y1 y3 n1
  rw [h0, h1, h2, h3, h4, h5]
  exact ⟨a0.1, a0.2, a1.2, a2.1, a2.2, a3.2⟩
theorem t_cut {a1 a2 a3 a4 : Int} (r1 : rg a1) (r2 : rg a2) (r3 : rg a3) (r4 : rg a4) {sx : s_LS} {sm : s_Mo} (hi : Inv sx sm) : (wp_LS_cut a1 a2 a3 a4 sx (fun r1 u2 => rg r1 ∧ (rg r1 ∧ (wp_Mo_cut a1 a2 a3 a4 sm (fun r3 u4 => wp_Mo_thrown u4 (fun r5 => r5 = 0 ∧ (r1 = r3 ∧ (Inv u2 u4)))))))) ∨ (wt_LS_cut a1 a2 a3 a4 sx (fun u2 => wp_Mo_cut a1 a2 a3 a4 sm (fun r6 u7 => wp_Mo_thrown u7 (fun r8 => r8 = 1 ∧ (Inv u2 u7))))) := by
  have hI0 : Inv sx (mkMo (0) (gMo_corners sm) (gMo_px sm) (gMo_py sm) (gMo_pz sm) (gMo_triangles sm) (gMo_named sm) (gMo_joined sm) (gMo_dropped sm) (gMo_closed sm) (gMo_layers sm) (gMo_thickness sm) (gMo_cuts sm) (gMo_cx sm) (gMo_cy sm) (gMo_cz sm) (gMo_solids sm) (gMo_shell sm) (gMo_skin sm) (gMo_period sm) (gMo_reach sm) (gMo_gap sm) (gMo_bytes sm) (gMo_played sm) (gMo_at sm) (gMo_program sm) (gMo_beads sm) (gMo_ring sm)) := hi
  have hI1 : Inv sx (mkMo (1) (gMo_corners sm) (gMo_px sm) (gMo_py sm) (gMo_pz sm) (gMo_triangles sm) (gMo_named sm) (gMo_joined sm) (gMo_dropped sm) (gMo_closed sm) (gMo_layers sm) (gMo_thickness sm) (gMo_cuts sm) (gMo_cx sm) (gMo_cy sm) (gMo_cz sm) (gMo_solids sm) (gMo_shell sm) (gMo_skin sm) (gMo_period sm) (gMo_reach sm) (gMo_gap sm) (gMo_bytes sm) (gMo_played sm) (gMo_at sm) (gMo_program sm) (gMo_beads sm) (gMo_ring sm)) := hi
  have h3 := hi.2.2.1
  have ec : gSl_count (gLS_slices sx) = gMo_layers sm := h3.1
  have eth : gSl_thickness (gLS_slices sx) = gMo_thickness sm := h3.2.1
  have hly := h3.2.2.1
  have ecu : gMe_triangles (gSl_mesh (gLS_slices sx)) = gMo_cuts sm := h3.2.2.2.2.1
  have hcu := h3.2.2.2.2.2.1
  have hTr : ∀ (_ : 0 ≤ a1 ∧ a1 < gMo_layers sm) (_ : 0 ≤ a2 ∧ a2 < gMo_cuts sm), TrM sm a1 a2 (fun i => gMo_cx sm (3 * a2 + i)) (fun i => gMo_cy sm (3 * a2 + i)) (fun i => gMo_cz sm (3 * a2 + i)) ((2 * a1 + 1) * gMo_thickness sm) := by
    intro g1 g2
    obtain ⟨w1, w2, w3⟩ := tr_of h3 g1 g2
    exact ⟨⟨g2.1, by omega⟩, rfl, w1.1, w1.2, fun i i1 i2 => ⟨rfl, rfl, rfl, (w3 i i1 i2).1, (w3 i i1 i2).2.1, (w3 i i1 i2).2.2⟩⟩
  by_cases g : (0 ≤ a1 ∧ a1 < gMo_layers sm) ∧ (0 ≤ a2 ∧ a2 < gMo_cuts sm) ∧ (0 ≤ a3 ∧ a3 ≤ 1) ∧ (0 ≤ a4 ∧ a4 ≤ 2) ∧ isC (fun i => gMo_cz sm (3 * a2 + i)) ((2 * a1 + 1) * gMo_thickness sm) = true
  · obtain ⟨g1, g2, g3, g4, hC⟩ := g
    have hT := hTr g1 g2
    obtain ⟨w1, w2, w3⟩ := tr_of h3 g1 g2
    refine Or.inl ?_
    unfold wp_LS_cut
    refine ⟨r3, fun q => by omega, fun _ => ⟨fun q => by omega, fun _ => ⟨r4, fun q => by omega, fun _ => ⟨fun q => by omega, fun _ => ?_⟩⟩⟩⟩
    refine m_findEnds (X := fun i => gMo_cx sm (3 * a2 + i)) (Y := fun i => gMo_cy sm (3 * a2 + i)) (Z := fun i => gMo_cz sm (3 * a2 + i)) (by rw [ec]; exact g1) (by rw [ec]; exact hly.2) (by rw [ecu]; exact g2) (by rw [ecu]; exact hcu.2) (by rw [eth]) w1.1 w2 (fun i i1 i2 => (w3 i i1 i2).2.2) (fun q => by rw [hC] at q; cases q) (fun _ en hen => ⟨by decide, fun _ => ⟨⟨by omega, by omega⟩, ?_⟩, fun q => absurd q (by decide)⟩)
    have hv := en_at hen g3 g4
    have hb := en_in hen w1.2 w3 hC
    have hR : rg (en (3 * a3 + a4)) := by
      have q3 : a3 = 0 ∨ a3 = 1 := by omega
      have q4 : a4 = 0 ∨ a4 = 1 ∨ a4 = 2 := by omega
      rcases q3 with rfl | rfl
      · rcases q4 with rfl | rfl | rfl
        · exact ⟨by show -2147483648 ≤ en 0; omega, by show en 0 ≤ 2147483647; omega⟩
        · exact ⟨by show -2147483648 ≤ en 1; omega, by show en 1 ≤ 2147483647; omega⟩
        · exact ⟨by show -2147483648 ≤ en 2; omega, by show en 2 ≤ 2147483647; omega⟩
      · rcases q4 with rfl | rfl | rfl
        · exact ⟨by show -2147483648 ≤ en 3; omega, by show en 3 ≤ 2147483647; omega⟩
        · exact ⟨by show -2147483648 ≤ en 4; omega, by show en 4 ≤ 2147483647; omega⟩
        · exact ⟨by show -2147483648 ≤ en 5; omega, by show en 5 ≤ 2147483647; omega⟩
    exact ⟨hR, hR, m_Mo_cut1 r1 r2 r3 r4 hly hcu g1 g2 g3 g4 hT hC ⟨rfl, hv, hI0⟩⟩
  · refine Or.inr ?_
    have hm : wp_Mo_cut a1 a2 a3 a4 sm (fun r6 u7 => wp_Mo_thrown u7 (fun r8 => r8 = 1 ∧ (Inv sx u7))) := by
      refine m_Mo_cut0 r1 r2 r3 r4 hly hcu (fun g1 g2 g3 g4 => ⟨_, _, _, _, hTr g1 g2, ?_⟩) ⟨rfl, hI1⟩
      cases hb : isC (fun i => gMo_cz sm (3 * a2 + i)) ((2 * a1 + 1) * gMo_thickness sm) with
      | false => rfl
      | true => exact absurd ⟨g1, g2, g3, g4, hb⟩ g
    unfold wt_LS_cut
    refine ⟨r3, fun _ => hm, fun q1 => ⟨fun _ => hm, fun q2 => ⟨r4, fun _ => hm, fun q3 => ⟨fun _ => hm, fun q4 => ?_⟩⟩⟩⟩
    by_cases g1 : 0 ≤ a1 ∧ a1 < gMo_layers sm
    · by_cases g2 : 0 ≤ a2 ∧ a2 < gMo_cuts sm
      · obtain ⟨w1, w2, w3⟩ := tr_of h3 g1 g2
        exact m_findEnds (X := fun i => gMo_cx sm (3 * a2 + i)) (Y := fun i => gMo_cy sm (3 * a2 + i)) (Z := fun i => gMo_cz sm (3 * a2 + i)) (by rw [ec]; exact g1) (by rw [ec]; exact hly.2) (by rw [ecu]; exact g2) (by rw [ecu]; exact hcu.2) (by rw [eth]) w1.1 w2 (fun i i1 i2 => (w3 i i1 i2).2.2) (fun _ => ⟨by decide, fun q => absurd rfl q, fun _ => hm⟩) (fun q => absurd ⟨g1, g2, ⟨q1, q2⟩, ⟨q3, q4⟩, q⟩ g)
      · unfold wp_Sl_findEnds
        intro P30 P114 h30 h114
        refine m_hasLayer r1 (by rw [ec]; exact hly) (fun _ _ => ⟨by decide, fun q => absurd q (by decide), fun _ => ⟨r2, fun _ => ⟨by decide, fun q => absurd rfl q, fun _ => hm⟩, fun q5 => ⟨by rw [ecu]; exact ⟨by omega, by omega⟩, fun q6 => by rw [ecu] at q6; omega, fun _ => ⟨by decide, fun q => absurd rfl q, fun _ => hm⟩⟩⟩⟩) (fun q => ⟨by decide, fun _ => ⟨by decide, fun q => absurd rfl q, fun _ => hm⟩, fun q => absurd rfl q⟩)
    · unfold wp_Sl_findEnds
      intro P30 P114 h30 h114
      refine m_hasLayer r1 (by rw [ec]; exact hly) (fun w1 w2 => absurd ⟨w1, by rw [← ec]; exact w2⟩ g1) (fun q => ⟨by decide, fun _ => ⟨by decide, fun q => absurd rfl q, fun _ => hm⟩, fun q => absurd rfl q⟩)
