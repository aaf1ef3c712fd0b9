set_option maxHeartbeats 4000000 in
set_option maxRecDepth 100000 in
theorem k_Mo_corner (l : Launch) (D : va_G) (K : Nat → ClassId) (d0 : Nat → Nat) (x1 : Int) (x2 : Int) (x3 : Int) (s0 : s_Mo) (Q : Int → s_Mo → Prop) (h : wp_Mo_corner x1 x2 x3 s0 Q) : Kt l D K y_Mo_corner b_Mo_corner 4 (some .int) 1 22 [.ref (d0 0), .int (zI x1), .int (zI x2), .int (zI x3)] (w_Mo K d0 s0) (fun v w1 => ∃ (r : Int), ∃ (u0 : s_Mo), v = some (.int (zI r)) ∧ w1 = (w_Mo K d0 u0) ∧ Q r u0) := by
  refine Kt.ofI (by decide +kernel) (Nat.le_of_ble_eq_true rfl) (lv0 := [(0, .ref (d0 0)), (1, .int (zI x1)), (2, .int (zI x2)), (3, .int (zI x3))]) rfl ?_
  intro gp ge gR gs gm ga gb gh gc gA gQ gRf gRl gC gret
  unfold wp_Mo_corner at h
  refine v_aload_n gC d_Mo_corner_0 rfl 0 rfl ?_
  refine v_iconst gC d_Mo_corner_1 ?_
  refine v_puti (ws' := (w_Mo K d0 (mkMo 0 (gMo_corners s0) (gMo_px s0) (gMo_py s0) (gMo_pz s0) (gMo_triangles s0) (gMo_named s0) (gMo_joined s0) (gMo_dropped s0) (gMo_closed s0) (gMo_layers s0) (gMo_thickness s0) (gMo_cuts s0) (gMo_cx s0) (gMo_cy s0) (gMo_cz s0) (gMo_solids s0) (gMo_shell s0) (gMo_skin s0) (gMo_period s0) (gMo_reach s0) (gMo_gap s0) (gMo_bytes s0) (gMo_played s0) (gMo_at s0) (gMo_program s0) (gMo_beads s0) (gMo_ring s0)))) gC in_Mo t_Mo ok_Mo n_Mo 0 rfl rfl 0 (by decide) fl_Mo_60 rfl (by decide +kernel) (Nat.le_of_ble_eq_true rfl) rfl d_Mo_corner_2 ?_
  refine v_aload_n gC d_Mo_corner_5 rfl 0 rfl ?_
  refine v_get (v := .int (zI (gMo_corners s0))) gC in_Mo 0 rfl rfl 1 (by decide) fl_Mo_63 rfl d_Mo_corner_6 ?_
  refine v_bipush gC d_Mo_corner_9 (by decide) ?_
  obtain ⟨hg1, h⟩ := h
  refine v_icmp_eq (tgt := 44) gC d_Mo_corner_11 (by decide) hg1 (by decide) (fun hc => ?_) (fun hc => ?_)
  · replace h := h.1 hc
    refine v_iconst gC d_Mo_corner_44 ?_
    exact gret _ _ _ _ d_Mo_corner_45 ⟨(-1), (mkMo 0 (gMo_corners s0) (gMo_px s0) (gMo_py s0) (gMo_pz s0) (gMo_triangles s0) (gMo_named s0) (gMo_joined s0) (gMo_dropped s0) (gMo_closed s0) (gMo_layers s0) (gMo_thickness s0) (gMo_cuts s0) (gMo_cx s0) (gMo_cy s0) (gMo_cz s0) (gMo_solids s0) (gMo_shell s0) (gMo_skin s0) (gMo_period s0) (gMo_reach s0) (gMo_gap s0) (gMo_bytes s0) (gMo_played s0) (gMo_at s0) (gMo_program s0) (gMo_beads s0) (gMo_ring s0)), rfl, rfl, h⟩
  · replace h := h.2 hc
    refine v_iload_n gC d_Mo_corner_14 rfl 1 rfl ?_
    refine v_iconst gC d_Mo_corner_15 ?_
    refine v_bipush gC d_Mo_corner_16 (by decide) ?_
    refine v_callS (rest := []) gC (k_Mo_in l D K x1 0 120 _ h) wS_Mo_66 rfl ⟨by omega, by omega, Nat.zero_le _, Nat.zero_le _⟩ [] [0, 1, 2, 3, 4, 5, 6, 7, 8, 9, 10, 11] rfl (by decide) rfl (by decide) (by decide) rfl (Nat.le_of_ble_eq_true rfl) d_Mo_corner_18 (fun v w1 hp => ?_)
    obtain ⟨r2, rfl, rfl, h⟩ := hp
    refine v_after (ws' := (w_Mo K d0 (mkMo 0 (gMo_corners s0) (gMo_px s0) (gMo_py s0) (gMo_pz s0) (gMo_triangles s0) (gMo_named s0) (gMo_joined s0) (gMo_dropped s0) (gMo_closed s0) (gMo_layers s0) (gMo_thickness s0) (gMo_cuts s0) (gMo_cx s0) (gMo_cy s0) (gMo_cz s0) (gMo_solids s0) (gMo_shell s0) (gMo_skin s0) (gMo_period s0) (gMo_reach s0) (gMo_gap s0) (gMo_bytes s0) (gMo_played s0) (gMo_at s0) (gMo_program s0) (gMo_beads s0) (gMo_ring s0)))) (st' := [.int (zI r2)]) [0, 1, 2, 3, 4, 5, 6, 7, 8, 9, 10, 11] (by decide) rfl rfl ?_
    obtain ⟨hg3, h⟩ := h
    refine v_if_eq (tgt := 44) gC d_Mo_corner_21 (by decide) hg3 (fun hc => ?_) (fun hc => ?_)
    · replace h := h.1 hc
      refine v_iconst gC d_Mo_corner_44 ?_
      exact gret _ _ _ _ d_Mo_corner_45 ⟨(-1), (mkMo 0 (gMo_corners s0) (gMo_px s0) (gMo_py s0) (gMo_pz s0) (gMo_triangles s0) (gMo_named s0) (gMo_joined s0) (gMo_dropped s0) (gMo_closed s0) (gMo_layers s0) (gMo_thickness s0) (gMo_cuts s0) (gMo_cx s0) (gMo_cy s0) (gMo_cz s0) (gMo_solids s0) (gMo_shell s0) (gMo_skin s0) (gMo_period s0) (gMo_reach s0) (gMo_gap s0) (gMo_bytes s0) (gMo_played s0) (gMo_at s0) (gMo_program s0) (gMo_beads s0) (gMo_ring s0)), rfl, rfl, h⟩
    · replace h := h.2 hc
      refine v_iload_n gC d_Mo_corner_24 rfl 2 rfl ?_
      refine v_iconst gC d_Mo_corner_25 ?_
      refine v_bipush gC d_Mo_corner_26 (by decide) ?_
      refine v_callS (rest := []) gC (k_Mo_in l D K x2 0 120 _ h) wS_Mo_66 rfl ⟨by omega, by omega, Nat.zero_le _, Nat.zero_le _⟩ [] [0, 1, 2, 3, 4, 5, 6, 7, 8, 9, 10, 11] rfl (by decide) rfl (by decide) (by decide) rfl (Nat.le_of_ble_eq_true rfl) d_Mo_corner_28 (fun v w1 hp => ?_)
      obtain ⟨r4, rfl, rfl, h⟩ := hp
      refine v_after (ws' := (w_Mo K d0 (mkMo 0 (gMo_corners s0) (gMo_px s0) (gMo_py s0) (gMo_pz s0) (gMo_triangles s0) (gMo_named s0) (gMo_joined s0) (gMo_dropped s0) (gMo_closed s0) (gMo_layers s0) (gMo_thickness s0) (gMo_cuts s0) (gMo_cx s0) (gMo_cy s0) (gMo_cz s0) (gMo_solids s0) (gMo_shell s0) (gMo_skin s0) (gMo_period s0) (gMo_reach s0) (gMo_gap s0) (gMo_bytes s0) (gMo_played s0) (gMo_at s0) (gMo_program s0) (gMo_beads s0) (gMo_ring s0)))) (st' := [.int (zI r4)]) [0, 1, 2, 3, 4, 5, 6, 7, 8, 9, 10, 11] (by decide) rfl rfl ?_
      obtain ⟨hg5, h⟩ := h
      refine v_if_eq (tgt := 44) gC d_Mo_corner_31 (by decide) hg5 (fun hc => ?_) (fun hc => ?_)
      · replace h := h.1 hc
        refine v_iconst gC d_Mo_corner_44 ?_
        exact gret _ _ _ _ d_Mo_corner_45 ⟨(-1), (mkMo 0 (gMo_corners s0) (gMo_px s0) (gMo_py s0) (gMo_pz s0) (gMo_triangles s0) (gMo_named s0) (gMo_joined s0) (gMo_dropped s0) (gMo_closed s0) (gMo_layers s0) (gMo_thickness s0) (gMo_cuts s0) (gMo_cx s0) (gMo_cy s0) (gMo_cz s0) (gMo_solids s0) (gMo_shell s0) (gMo_skin s0) (gMo_period s0) (gMo_reach s0) (gMo_gap s0) (gMo_bytes s0) (gMo_played s0) (gMo_at s0) (gMo_program s0) (gMo_beads s0) (gMo_ring s0)), rfl, rfl, h⟩
      · replace h := h.2 hc
        refine v_iload_n gC d_Mo_corner_34 rfl 3 rfl ?_
        refine v_iconst gC d_Mo_corner_35 ?_
        refine v_bipush gC d_Mo_corner_36 (by decide) ?_
        refine v_callS (rest := []) gC (k_Mo_in l D K x3 0 120 _ h) wS_Mo_66 rfl ⟨by omega, by omega, Nat.zero_le _, Nat.zero_le _⟩ [] [0, 1, 2, 3, 4, 5, 6, 7, 8, 9, 10, 11] rfl (by decide) rfl (by decide) (by decide) rfl (Nat.le_of_ble_eq_true rfl) d_Mo_corner_38 (fun v w1 hp => ?_)
        obtain ⟨r6, rfl, rfl, h⟩ := hp
        refine v_after (ws' := (w_Mo K d0 (mkMo 0 (gMo_corners s0) (gMo_px s0) (gMo_py s0) (gMo_pz s0) (gMo_triangles s0) (gMo_named s0) (gMo_joined s0) (gMo_dropped s0) (gMo_closed s0) (gMo_layers s0) (gMo_thickness s0) (gMo_cuts s0) (gMo_cx s0) (gMo_cy s0) (gMo_cz s0) (gMo_solids s0) (gMo_shell s0) (gMo_skin s0) (gMo_period s0) (gMo_reach s0) (gMo_gap s0) (gMo_bytes s0) (gMo_played s0) (gMo_at s0) (gMo_program s0) (gMo_beads s0) (gMo_ring s0)))) (st' := [.int (zI r6)]) [0, 1, 2, 3, 4, 5, 6, 7, 8, 9, 10, 11] (by decide) rfl rfl ?_
        obtain ⟨hg7, h⟩ := h
        refine v_if_ne (tgt := 46) gC d_Mo_corner_41 (by decide) hg7 (fun hc => ?_) (fun hc => ?_)
        · replace h := h.1 hc
          refine v_aload_n gC d_Mo_corner_46 rfl 0 rfl ?_
          refine v_get (v := .ref (d0 1)) gC in_Mo 0 rfl rfl 2 (by decide) fl_Mo_7 rfl d_Mo_corner_47 ?_
          refine v_aload_n gC d_Mo_corner_50 rfl 0 rfl ?_
          refine v_get (v := .int (zI (gMo_corners s0))) gC in_Mo 0 rfl rfl 1 (by decide) fl_Mo_63 rfl d_Mo_corner_51 ?_
          refine v_iload_n gC d_Mo_corner_54 rfl 1 rfl ?_
          obtain ⟨hg8, h⟩ := h
          refine v_iast (g := (gMo_px s0)) (ws' := (w_Mo K d0 (mkMo 0 (gMo_corners s0) (iset (gMo_px s0) (gMo_corners s0) x1) (gMo_py s0) (gMo_pz s0) (gMo_triangles s0) (gMo_named s0) (gMo_joined s0) (gMo_dropped s0) (gMo_closed s0) (gMo_layers s0) (gMo_thickness s0) (gMo_cuts s0) (gMo_cx s0) (gMo_cy s0) (gMo_cz s0) (gMo_solids s0) (gMo_shell s0) (gMo_skin s0) (gMo_period s0) (gMo_reach s0) (gMo_gap s0) (gMo_bytes s0) (gMo_played s0) (gMo_at s0) (gMo_program s0) (gMo_beads s0) (gMo_ring s0)))) gC 1 0 rfl rfl hg8 rfl (by decide) rfl d_Mo_corner_55 ?_
          refine v_aload_n gC d_Mo_corner_56 rfl 0 rfl ?_
          refine v_get (v := .ref (d0 2)) gC in_Mo 0 rfl rfl 3 (by decide) fl_Mo_13 rfl d_Mo_corner_57 ?_
          refine v_aload_n gC d_Mo_corner_60 rfl 0 rfl ?_
          refine v_get (v := .int (zI (gMo_corners s0))) gC in_Mo 0 rfl rfl 1 (by decide) fl_Mo_63 rfl d_Mo_corner_61 ?_
          refine v_iload_n gC d_Mo_corner_64 rfl 2 rfl ?_
          refine v_iast (g := (gMo_py s0)) (ws' := (w_Mo K d0 (mkMo 0 (gMo_corners s0) (iset (gMo_px s0) (gMo_corners s0) x1) (iset (gMo_py s0) (gMo_corners s0) x2) (gMo_pz s0) (gMo_triangles s0) (gMo_named s0) (gMo_joined s0) (gMo_dropped s0) (gMo_closed s0) (gMo_layers s0) (gMo_thickness s0) (gMo_cuts s0) (gMo_cx s0) (gMo_cy s0) (gMo_cz s0) (gMo_solids s0) (gMo_shell s0) (gMo_skin s0) (gMo_period s0) (gMo_reach s0) (gMo_gap s0) (gMo_bytes s0) (gMo_played s0) (gMo_at s0) (gMo_program s0) (gMo_beads s0) (gMo_ring s0)))) gC 2 0 rfl rfl hg8 rfl (by decide) rfl d_Mo_corner_65 ?_
          refine v_aload_n gC d_Mo_corner_66 rfl 0 rfl ?_
          refine v_get (v := .ref (d0 3)) gC in_Mo 0 rfl rfl 4 (by decide) fl_Mo_16 rfl d_Mo_corner_67 ?_
          refine v_aload_n gC d_Mo_corner_70 rfl 0 rfl ?_
          refine v_get (v := .int (zI (gMo_corners s0))) gC in_Mo 0 rfl rfl 1 (by decide) fl_Mo_63 rfl d_Mo_corner_71 ?_
          refine v_iload_n gC d_Mo_corner_74 rfl 3 rfl ?_
          refine v_iast (g := (gMo_pz s0)) (ws' := (w_Mo K d0 (mkMo 0 (gMo_corners s0) (iset (gMo_px s0) (gMo_corners s0) x1) (iset (gMo_py s0) (gMo_corners s0) x2) (iset (gMo_pz s0) (gMo_corners s0) x3) (gMo_triangles s0) (gMo_named s0) (gMo_joined s0) (gMo_dropped s0) (gMo_closed s0) (gMo_layers s0) (gMo_thickness s0) (gMo_cuts s0) (gMo_cx s0) (gMo_cy s0) (gMo_cz s0) (gMo_solids s0) (gMo_shell s0) (gMo_skin s0) (gMo_period s0) (gMo_reach s0) (gMo_gap s0) (gMo_bytes s0) (gMo_played s0) (gMo_at s0) (gMo_program s0) (gMo_beads s0) (gMo_ring s0)))) gC 3 0 rfl rfl hg8 rfl (by decide) rfl d_Mo_corner_75 ?_
          refine v_aload_n gC d_Mo_corner_76 rfl 0 rfl ?_
          refine v_dup gC d_Mo_corner_77 rfl ?_
          refine v_get (v := .int (zI (gMo_corners s0))) gC in_Mo 0 rfl rfl 1 (by decide) fl_Mo_63 rfl d_Mo_corner_78 ?_
          refine v_iconst gC d_Mo_corner_81 ?_
          refine v_iadd gC d_Mo_corner_82 ((gMo_corners s0) + 1) rfl ?_
          refine v_puti (ws' := (w_Mo K d0 (mkMo 0 ((gMo_corners s0) + 1) (iset (gMo_px s0) (gMo_corners s0) x1) (iset (gMo_py s0) (gMo_corners s0) x2) (iset (gMo_pz s0) (gMo_corners s0) x3) (gMo_triangles s0) (gMo_named s0) (gMo_joined s0) (gMo_dropped s0) (gMo_closed s0) (gMo_layers s0) (gMo_thickness s0) (gMo_cuts s0) (gMo_cx s0) (gMo_cy s0) (gMo_cz s0) (gMo_solids s0) (gMo_shell s0) (gMo_skin s0) (gMo_period s0) (gMo_reach s0) (gMo_gap s0) (gMo_bytes s0) (gMo_played s0) (gMo_at s0) (gMo_program s0) (gMo_beads s0) (gMo_ring s0)))) gC in_Mo t_Mo ok_Mo n_Mo 0 rfl rfl 1 (by decide) fl_Mo_63 rfl (by decide +kernel) (Nat.le_of_ble_eq_true rfl) rfl d_Mo_corner_83 ?_
          refine v_aload_n gC d_Mo_corner_86 rfl 0 rfl ?_
          refine v_get (v := .int (zI ((gMo_corners s0) + 1))) gC in_Mo 0 rfl rfl 1 (by decide) fl_Mo_63 rfl d_Mo_corner_87 ?_
          refine v_iconst gC d_Mo_corner_90 ?_
          refine v_isub gC d_Mo_corner_91 (((gMo_corners s0) + 1) - 1) rfl ?_
          exact gret _ _ _ _ d_Mo_corner_92 ⟨((gMo_corners s0) + 1) - 1, (mkMo 0 ((gMo_corners s0) + 1) (iset (gMo_px s0) (gMo_corners s0) x1) (iset (gMo_py s0) (gMo_corners s0) x2) (iset (gMo_pz s0) (gMo_corners s0) x3) (gMo_triangles s0) (gMo_named s0) (gMo_joined s0) (gMo_dropped s0) (gMo_closed s0) (gMo_layers s0) (gMo_thickness s0) (gMo_cuts s0) (gMo_cx s0) (gMo_cy s0) (gMo_cz s0) (gMo_solids s0) (gMo_shell s0) (gMo_skin s0) (gMo_period s0) (gMo_reach s0) (gMo_gap s0) (gMo_bytes s0) (gMo_played s0) (gMo_at s0) (gMo_program s0) (gMo_beads s0) (gMo_ring s0)), rfl, rfl, h⟩
        · replace h := h.2 hc
          refine v_iconst gC d_Mo_corner_44 ?_
          exact gret _ _ _ _ d_Mo_corner_45 ⟨(-1), (mkMo 0 (gMo_corners s0) (gMo_px s0) (gMo_py s0) (gMo_pz s0) (gMo_triangles s0) (gMo_named s0) (gMo_joined s0) (gMo_dropped s0) (gMo_closed s0) (gMo_layers s0) (gMo_thickness s0) (gMo_cuts s0) (gMo_cx s0) (gMo_cy s0) (gMo_cz s0) (gMo_solids s0) (gMo_shell s0) (gMo_skin s0) (gMo_period s0) (gMo_reach s0) (gMo_gap s0) (gMo_bytes s0) (gMo_played s0) (gMo_at s0) (gMo_program s0) (gMo_beads s0) (gMo_ring s0)), rfl, rfl, h⟩

set_option maxHeartbeats 4000000 in
set_option maxRecDepth 100000 in
theorem k_Mo_add (l : Launch) (D : va_G) (K : Nat → ClassId) (d0 : Nat → Nat) (x1 : Int) (x2 : Int) (x3 : Int) (s0 : s_Mo) (Q : Int → s_Mo → Prop) (h : wp_Mo_add x1 x2 x3 s0 Q) : Kt l D K y_Mo_add b_Mo_add 4 (some .int) 0 0 [.ref (d0 0), .int (zI x1), .int (zI x2), .int (zI x3)] (w_Mo K d0 s0) (fun v w1 => ∃ (r : Int), ∃ (u0 : s_Mo), v = some (.int (zI r)) ∧ w1 = (w_Mo K d0 u0) ∧ Q r u0) := by
  refine Kt.ofI (by decide +kernel) (Nat.le_of_ble_eq_true rfl) (lv0 := [(0, .ref (d0 0)), (1, .int (zI x1)), (2, .int (zI x2)), (3, .int (zI x3))]) rfl ?_
  intro gp ge gR gs gm ga gb gh gc gA gQ gRf gRl gC gret
  unfold wp_Mo_add at h
  refine v_aload_n gC d_Mo_add_0 rfl 0 rfl ?_
  refine v_get (v := .ref (d0 4)) gC in_Mo 0 rfl rfl 6 (by decide) fl_Mo_19 rfl d_Mo_add_1 ?_
  refine v_iconst gC d_Mo_add_4 ?_
  refine v_aload_n gC d_Mo_add_5 rfl 0 rfl ?_
  refine v_get (v := .int (zI (gMo_triangles s0))) gC in_Mo 0 rfl rfl 5 (by decide) fl_Mo_70 rfl d_Mo_add_6 ?_
  refine v_imul gC d_Mo_add_9 (3 * (gMo_triangles s0)) rfl ?_
  refine v_iload_n gC d_Mo_add_10 rfl 1 rfl ?_
  obtain ⟨hg1, h⟩ := h
  refine v_iast (g := (gMo_named s0)) (ws' := (w_Mo K d0 (mkMo (gMo_thrown s0) (gMo_corners s0) (gMo_px s0) (gMo_py s0) (gMo_pz s0) (gMo_triangles s0) (iset (gMo_named s0) (3 * (gMo_triangles s0)) x1) (gMo_joined s0) (gMo_dropped s0) (gMo_closed s0) (gMo_layers s0) (gMo_thickness s0) (gMo_cuts s0) (gMo_cx s0) (gMo_cy s0) (gMo_cz s0) (gMo_solids s0) (gMo_shell s0) (gMo_skin s0) (gMo_period s0) (gMo_reach s0) (gMo_gap s0) (gMo_bytes s0) (gMo_played s0) (gMo_at s0) (gMo_program s0) (gMo_beads s0) (gMo_ring s0)))) gC 4 0 rfl rfl hg1 rfl (by decide) rfl d_Mo_add_11 ?_
  refine v_aload_n gC d_Mo_add_12 rfl 0 rfl ?_
  refine v_get (v := .ref (d0 4)) gC in_Mo 0 rfl rfl 6 (by decide) fl_Mo_19 rfl d_Mo_add_13 ?_
  refine v_iconst gC d_Mo_add_16 ?_
  refine v_aload_n gC d_Mo_add_17 rfl 0 rfl ?_
  refine v_get (v := .int (zI (gMo_triangles s0))) gC in_Mo 0 rfl rfl 5 (by decide) fl_Mo_70 rfl d_Mo_add_18 ?_
  refine v_imul gC d_Mo_add_21 (3 * (gMo_triangles s0)) rfl ?_
  refine v_iconst gC d_Mo_add_22 ?_
  refine v_iadd gC d_Mo_add_23 ((3 * (gMo_triangles s0)) + 1) rfl ?_
  refine v_iload_n gC d_Mo_add_24 rfl 2 rfl ?_
  obtain ⟨hg2, h⟩ := h
  refine v_iast (g := (iset (gMo_named s0) (3 * (gMo_triangles s0)) x1)) (ws' := (w_Mo K d0 (mkMo (gMo_thrown s0) (gMo_corners s0) (gMo_px s0) (gMo_py s0) (gMo_pz s0) (gMo_triangles s0) (iset (iset (gMo_named s0) (3 * (gMo_triangles s0)) x1) ((3 * (gMo_triangles s0)) + 1) x2) (gMo_joined s0) (gMo_dropped s0) (gMo_closed s0) (gMo_layers s0) (gMo_thickness s0) (gMo_cuts s0) (gMo_cx s0) (gMo_cy s0) (gMo_cz s0) (gMo_solids s0) (gMo_shell s0) (gMo_skin s0) (gMo_period s0) (gMo_reach s0) (gMo_gap s0) (gMo_bytes s0) (gMo_played s0) (gMo_at s0) (gMo_program s0) (gMo_beads s0) (gMo_ring s0)))) gC 4 0 rfl rfl hg2 rfl (by decide) rfl d_Mo_add_25 ?_
  refine v_aload_n gC d_Mo_add_26 rfl 0 rfl ?_
  refine v_get (v := .ref (d0 4)) gC in_Mo 0 rfl rfl 6 (by decide) fl_Mo_19 rfl d_Mo_add_27 ?_
  refine v_iconst gC d_Mo_add_30 ?_
  refine v_aload_n gC d_Mo_add_31 rfl 0 rfl ?_
  refine v_get (v := .int (zI (gMo_triangles s0))) gC in_Mo 0 rfl rfl 5 (by decide) fl_Mo_70 rfl d_Mo_add_32 ?_
  refine v_imul gC d_Mo_add_35 (3 * (gMo_triangles s0)) rfl ?_
  refine v_iconst gC d_Mo_add_36 ?_
  refine v_iadd gC d_Mo_add_37 ((3 * (gMo_triangles s0)) + 2) rfl ?_
  refine v_iload_n gC d_Mo_add_38 rfl 3 rfl ?_
  obtain ⟨hg3, h⟩ := h
  refine v_iast (g := (iset (iset (gMo_named s0) (3 * (gMo_triangles s0)) x1) ((3 * (gMo_triangles s0)) + 1) x2)) (ws' := (w_Mo K d0 (mkMo (gMo_thrown s0) (gMo_corners s0) (gMo_px s0) (gMo_py s0) (gMo_pz s0) (gMo_triangles s0) (iset (iset (iset (gMo_named s0) (3 * (gMo_triangles s0)) x1) ((3 * (gMo_triangles s0)) + 1) x2) ((3 * (gMo_triangles s0)) + 2) x3) (gMo_joined s0) (gMo_dropped s0) (gMo_closed s0) (gMo_layers s0) (gMo_thickness s0) (gMo_cuts s0) (gMo_cx s0) (gMo_cy s0) (gMo_cz s0) (gMo_solids s0) (gMo_shell s0) (gMo_skin s0) (gMo_period s0) (gMo_reach s0) (gMo_gap s0) (gMo_bytes s0) (gMo_played s0) (gMo_at s0) (gMo_program s0) (gMo_beads s0) (gMo_ring s0)))) gC 4 0 rfl rfl hg3 rfl (by decide) rfl d_Mo_add_39 ?_
  refine v_aload_n gC d_Mo_add_40 rfl 0 rfl ?_
  refine v_dup gC d_Mo_add_41 rfl ?_
  refine v_get (v := .int (zI (gMo_triangles s0))) gC in_Mo 0 rfl rfl 5 (by decide) fl_Mo_70 rfl d_Mo_add_42 ?_
  refine v_iconst gC d_Mo_add_45 ?_
  refine v_iadd gC d_Mo_add_46 ((gMo_triangles s0) + 1) rfl ?_
  refine v_puti (ws' := (w_Mo K d0 (mkMo (gMo_thrown s0) (gMo_corners s0) (gMo_px s0) (gMo_py s0) (gMo_pz s0) ((gMo_triangles s0) + 1) (iset (iset (iset (gMo_named s0) (3 * (gMo_triangles s0)) x1) ((3 * (gMo_triangles s0)) + 1) x2) ((3 * (gMo_triangles s0)) + 2) x3) (gMo_joined s0) (gMo_dropped s0) (gMo_closed s0) (gMo_layers s0) (gMo_thickness s0) (gMo_cuts s0) (gMo_cx s0) (gMo_cy s0) (gMo_cz s0) (gMo_solids s0) (gMo_shell s0) (gMo_skin s0) (gMo_period s0) (gMo_reach s0) (gMo_gap s0) (gMo_bytes s0) (gMo_played s0) (gMo_at s0) (gMo_program s0) (gMo_beads s0) (gMo_ring s0)))) gC in_Mo t_Mo ok_Mo n_Mo 0 rfl rfl 5 (by decide) fl_Mo_70 rfl (by decide +kernel) (Nat.le_of_ble_eq_true rfl) rfl d_Mo_add_47 ?_
  refine v_aload_n gC d_Mo_add_50 rfl 0 rfl ?_
  refine v_get (v := .int (zI ((gMo_triangles s0) + 1))) gC in_Mo 0 rfl rfl 5 (by decide) fl_Mo_70 rfl d_Mo_add_51 ?_
  refine v_iconst gC d_Mo_add_54 ?_
  refine v_isub gC d_Mo_add_55 (((gMo_triangles s0) + 1) - 1) rfl ?_
  exact gret _ _ _ _ d_Mo_add_56 ⟨((gMo_triangles s0) + 1) - 1, (mkMo (gMo_thrown s0) (gMo_corners s0) (gMo_px s0) (gMo_py s0) (gMo_pz s0) ((gMo_triangles s0) + 1) (iset (iset (iset (gMo_named s0) (3 * (gMo_triangles s0)) x1) ((3 * (gMo_triangles s0)) + 1) x2) ((3 * (gMo_triangles s0)) + 2) x3) (gMo_joined s0) (gMo_dropped s0) (gMo_closed s0) (gMo_layers s0) (gMo_thickness s0) (gMo_cuts s0) (gMo_cx s0) (gMo_cy s0) (gMo_cz s0) (gMo_solids s0) (gMo_shell s0) (gMo_skin s0) (gMo_period s0) (gMo_reach s0) (gMo_gap s0) (gMo_bytes s0) (gMo_played s0) (gMo_at s0) (gMo_program s0) (gMo_beads s0) (gMo_ring s0)), rfl, rfl, h⟩

set_option maxHeartbeats 4000000 in
set_option maxRecDepth 100000 in
theorem k_Mo_tri (l : Launch) (D : va_G) (K : Nat → ClassId) (d0 : Nat → Nat) (x1 : Int) (x2 : Int) (x3 : Int) (s0 : s_Mo) (Q : Int → s_Mo → Prop) (h : wp_Mo_tri x1 x2 x3 s0 Q) : Kt l D K y_Mo_tri b_Mo_tri 4 (some .int) 1 23 [.ref (d0 0), .int (zI x1), .int (zI x2), .int (zI x3)] (w_Mo K d0 s0) (fun v w1 => ∃ (r : Int), ∃ (u0 : s_Mo), v = some (.int (zI r)) ∧ w1 = (w_Mo K d0 u0) ∧ Q r u0) := by
  refine Kt.ofI (by decide +kernel) (Nat.le_of_ble_eq_true rfl) (lv0 := [(0, .ref (d0 0)), (1, .int (zI x1)), (2, .int (zI x2)), (3, .int (zI x3))]) rfl ?_
  intro gp ge gR gs gm ga gb gh gc gA gQ gRf gRl gC gret
  unfold wp_Mo_tri at h
  refine v_aload_n gC d_Mo_tri_0 rfl 0 rfl ?_
  refine v_iconst gC d_Mo_tri_1 ?_
  refine v_puti (ws' := (w_Mo K d0 (mkMo 0 (gMo_corners s0) (gMo_px s0) (gMo_py s0) (gMo_pz s0) (gMo_triangles s0) (gMo_named s0) (gMo_joined s0) (gMo_dropped s0) (gMo_closed s0) (gMo_layers s0) (gMo_thickness s0) (gMo_cuts s0) (gMo_cx s0) (gMo_cy s0) (gMo_cz s0) (gMo_solids s0) (gMo_shell s0) (gMo_skin s0) (gMo_period s0) (gMo_reach s0) (gMo_gap s0) (gMo_bytes s0) (gMo_played s0) (gMo_at s0) (gMo_program s0) (gMo_beads s0) (gMo_ring s0)))) gC in_Mo t_Mo ok_Mo n_Mo 0 rfl rfl 0 (by decide) fl_Mo_60 rfl (by decide +kernel) (Nat.le_of_ble_eq_true rfl) rfl d_Mo_tri_2 ?_
  refine v_aload_n gC d_Mo_tri_5 rfl 0 rfl ?_
  refine v_get (v := .int (zI (gMo_triangles s0))) gC in_Mo 0 rfl rfl 5 (by decide) fl_Mo_70 rfl d_Mo_tri_6 ?_
  refine v_bipush gC d_Mo_tri_9 (by decide) ?_
  obtain ⟨hg1, h⟩ := h
  refine v_icmp_eq (tgt := 56) gC d_Mo_tri_11 (by decide) hg1 (by decide) (fun hc => ?_) (fun hc => ?_)
  · replace h := h.1 hc
    refine v_iconst gC d_Mo_tri_56 ?_
    exact gret _ _ _ _ d_Mo_tri_57 ⟨(-1), (mkMo 0 (gMo_corners s0) (gMo_px s0) (gMo_py s0) (gMo_pz s0) (gMo_triangles s0) (gMo_named s0) (gMo_joined s0) (gMo_dropped s0) (gMo_closed s0) (gMo_layers s0) (gMo_thickness s0) (gMo_cuts s0) (gMo_cx s0) (gMo_cy s0) (gMo_cz s0) (gMo_solids s0) (gMo_shell s0) (gMo_skin s0) (gMo_period s0) (gMo_reach s0) (gMo_gap s0) (gMo_bytes s0) (gMo_played s0) (gMo_at s0) (gMo_program s0) (gMo_beads s0) (gMo_ring s0)), rfl, rfl, h⟩
  · replace h := h.2 hc
    refine v_iload_n gC d_Mo_tri_14 rfl 1 rfl ?_
    refine v_iconst gC d_Mo_tri_15 ?_
    refine v_aload_n gC d_Mo_tri_16 rfl 0 rfl ?_
    refine v_get (v := .int (zI (gMo_corners s0))) gC in_Mo 0 rfl rfl 1 (by decide) fl_Mo_63 rfl d_Mo_tri_17 ?_
    refine v_iconst gC d_Mo_tri_20 ?_
    refine v_isub gC d_Mo_tri_21 ((gMo_corners s0) - 1) rfl ?_
    refine v_callS (rest := []) gC (k_Mo_in l D K x1 0 ((gMo_corners s0) - 1) _ h) wS_Mo_66 rfl ⟨by omega, by omega, Nat.zero_le _, Nat.zero_le _⟩ [] [0, 1, 2, 3, 4, 5, 6, 7, 8, 9, 10, 11] rfl (by decide) rfl (by decide) (by decide) rfl (Nat.le_of_ble_eq_true rfl) d_Mo_tri_22 (fun v w1 hp => ?_)
    obtain ⟨r2, rfl, rfl, h⟩ := hp
    refine v_after (ws' := (w_Mo K d0 (mkMo 0 (gMo_corners s0) (gMo_px s0) (gMo_py s0) (gMo_pz s0) (gMo_triangles s0) (gMo_named s0) (gMo_joined s0) (gMo_dropped s0) (gMo_closed s0) (gMo_layers s0) (gMo_thickness s0) (gMo_cuts s0) (gMo_cx s0) (gMo_cy s0) (gMo_cz s0) (gMo_solids s0) (gMo_shell s0) (gMo_skin s0) (gMo_period s0) (gMo_reach s0) (gMo_gap s0) (gMo_bytes s0) (gMo_played s0) (gMo_at s0) (gMo_program s0) (gMo_beads s0) (gMo_ring s0)))) (st' := [.int (zI r2)]) [0, 1, 2, 3, 4, 5, 6, 7, 8, 9, 10, 11] (by decide) rfl rfl ?_
    obtain ⟨hg3, h⟩ := h
    refine v_if_eq (tgt := 56) gC d_Mo_tri_25 (by decide) hg3 (fun hc => ?_) (fun hc => ?_)
    · replace h := h.1 hc
      refine v_iconst gC d_Mo_tri_56 ?_
      exact gret _ _ _ _ d_Mo_tri_57 ⟨(-1), (mkMo 0 (gMo_corners s0) (gMo_px s0) (gMo_py s0) (gMo_pz s0) (gMo_triangles s0) (gMo_named s0) (gMo_joined s0) (gMo_dropped s0) (gMo_closed s0) (gMo_layers s0) (gMo_thickness s0) (gMo_cuts s0) (gMo_cx s0) (gMo_cy s0) (gMo_cz s0) (gMo_solids s0) (gMo_shell s0) (gMo_skin s0) (gMo_period s0) (gMo_reach s0) (gMo_gap s0) (gMo_bytes s0) (gMo_played s0) (gMo_at s0) (gMo_program s0) (gMo_beads s0) (gMo_ring s0)), rfl, rfl, h⟩
    · replace h := h.2 hc
      refine v_iload_n gC d_Mo_tri_28 rfl 2 rfl ?_
      refine v_iconst gC d_Mo_tri_29 ?_
      refine v_aload_n gC d_Mo_tri_30 rfl 0 rfl ?_
      refine v_get (v := .int (zI (gMo_corners s0))) gC in_Mo 0 rfl rfl 1 (by decide) fl_Mo_63 rfl d_Mo_tri_31 ?_
      refine v_iconst gC d_Mo_tri_34 ?_
      refine v_isub gC d_Mo_tri_35 ((gMo_corners s0) - 1) rfl ?_
      refine v_callS (rest := []) gC (k_Mo_in l D K x2 0 ((gMo_corners s0) - 1) _ h) wS_Mo_66 rfl ⟨by omega, by omega, Nat.zero_le _, Nat.zero_le _⟩ [] [0, 1, 2, 3, 4, 5, 6, 7, 8, 9, 10, 11] rfl (by decide) rfl (by decide) (by decide) rfl (Nat.le_of_ble_eq_true rfl) d_Mo_tri_36 (fun v w1 hp => ?_)
      obtain ⟨r4, rfl, rfl, h⟩ := hp
      refine v_after (ws' := (w_Mo K d0 (mkMo 0 (gMo_corners s0) (gMo_px s0) (gMo_py s0) (gMo_pz s0) (gMo_triangles s0) (gMo_named s0) (gMo_joined s0) (gMo_dropped s0) (gMo_closed s0) (gMo_layers s0) (gMo_thickness s0) (gMo_cuts s0) (gMo_cx s0) (gMo_cy s0) (gMo_cz s0) (gMo_solids s0) (gMo_shell s0) (gMo_skin s0) (gMo_period s0) (gMo_reach s0) (gMo_gap s0) (gMo_bytes s0) (gMo_played s0) (gMo_at s0) (gMo_program s0) (gMo_beads s0) (gMo_ring s0)))) (st' := [.int (zI r4)]) [0, 1, 2, 3, 4, 5, 6, 7, 8, 9, 10, 11] (by decide) rfl rfl ?_
      obtain ⟨hg5, h⟩ := h
      refine v_if_eq (tgt := 56) gC d_Mo_tri_39 (by decide) hg5 (fun hc => ?_) (fun hc => ?_)
      · replace h := h.1 hc
        refine v_iconst gC d_Mo_tri_56 ?_
        exact gret _ _ _ _ d_Mo_tri_57 ⟨(-1), (mkMo 0 (gMo_corners s0) (gMo_px s0) (gMo_py s0) (gMo_pz s0) (gMo_triangles s0) (gMo_named s0) (gMo_joined s0) (gMo_dropped s0) (gMo_closed s0) (gMo_layers s0) (gMo_thickness s0) (gMo_cuts s0) (gMo_cx s0) (gMo_cy s0) (gMo_cz s0) (gMo_solids s0) (gMo_shell s0) (gMo_skin s0) (gMo_period s0) (gMo_reach s0) (gMo_gap s0) (gMo_bytes s0) (gMo_played s0) (gMo_at s0) (gMo_program s0) (gMo_beads s0) (gMo_ring s0)), rfl, rfl, h⟩
      · replace h := h.2 hc
        refine v_iload_n gC d_Mo_tri_42 rfl 3 rfl ?_
        refine v_iconst gC d_Mo_tri_43 ?_
        refine v_aload_n gC d_Mo_tri_44 rfl 0 rfl ?_
        refine v_get (v := .int (zI (gMo_corners s0))) gC in_Mo 0 rfl rfl 1 (by decide) fl_Mo_63 rfl d_Mo_tri_45 ?_
        refine v_iconst gC d_Mo_tri_48 ?_
        refine v_isub gC d_Mo_tri_49 ((gMo_corners s0) - 1) rfl ?_
        refine v_callS (rest := []) gC (k_Mo_in l D K x3 0 ((gMo_corners s0) - 1) _ h) wS_Mo_66 rfl ⟨by omega, by omega, Nat.zero_le _, Nat.zero_le _⟩ [] [0, 1, 2, 3, 4, 5, 6, 7, 8, 9, 10, 11] rfl (by decide) rfl (by decide) (by decide) rfl (Nat.le_of_ble_eq_true rfl) d_Mo_tri_50 (fun v w1 hp => ?_)
        obtain ⟨r6, rfl, rfl, h⟩ := hp
        refine v_after (ws' := (w_Mo K d0 (mkMo 0 (gMo_corners s0) (gMo_px s0) (gMo_py s0) (gMo_pz s0) (gMo_triangles s0) (gMo_named s0) (gMo_joined s0) (gMo_dropped s0) (gMo_closed s0) (gMo_layers s0) (gMo_thickness s0) (gMo_cuts s0) (gMo_cx s0) (gMo_cy s0) (gMo_cz s0) (gMo_solids s0) (gMo_shell s0) (gMo_skin s0) (gMo_period s0) (gMo_reach s0) (gMo_gap s0) (gMo_bytes s0) (gMo_played s0) (gMo_at s0) (gMo_program s0) (gMo_beads s0) (gMo_ring s0)))) (st' := [.int (zI r6)]) [0, 1, 2, 3, 4, 5, 6, 7, 8, 9, 10, 11] (by decide) rfl rfl ?_
        obtain ⟨hg7, h⟩ := h
        refine v_if_ne (tgt := 58) gC d_Mo_tri_53 (by decide) hg7 (fun hc => ?_) (fun hc => ?_)
        · replace h := h.1 hc
          refine v_aload_n gC d_Mo_tri_58 rfl 0 rfl ?_
          refine v_iload_n gC d_Mo_tri_59 rfl 1 rfl ?_
          refine v_iload_n gC d_Mo_tri_60 rfl 2 rfl ?_
          refine v_iload_n gC d_Mo_tri_61 rfl 3 rfl ?_
          refine v_callV (rest := []) gC (k_Mo_add l D K d0 x1 x2 x3 (mkMo 0 (gMo_corners s0) (gMo_px s0) (gMo_py s0) (gMo_pz s0) (gMo_triangles s0) (gMo_named s0) (gMo_joined s0) (gMo_dropped s0) (gMo_closed s0) (gMo_layers s0) (gMo_thickness s0) (gMo_cuts s0) (gMo_cx s0) (gMo_cy s0) (gMo_cz s0) (gMo_solids s0) (gMo_shell s0) (gMo_skin s0) (gMo_period s0) (gMo_reach s0) (gMo_gap s0) (gMo_bytes s0) (gMo_played s0) (gMo_at s0) (gMo_program s0) (gMo_beads s0) (gMo_ring s0)) _ h) wV_Mo_73 rfl ⟨by omega, by omega, Nat.zero_le _, Nat.zero_le _⟩ 0 rfl rfl [0, 1, 2, 3, 4, 5, 6, 7, 8, 9, 10, 11] [] rfl (by decide) rfl (by decide) (by decide) rfl (Nat.le_of_ble_eq_true rfl) d_Mo_tri_62 (fun v w1 hp => ?_)
          obtain ⟨r8, u9, rfl, rfl, h⟩ := hp
          refine v_after (ws' := (w_Mo K d0 u9)) (st' := [.int (zI r8)]) [0, 1, 2, 3, 4, 5, 6, 7, 8, 9, 10, 11] (by decide) rfl rfl ?_
          exact gret _ _ _ _ d_Mo_tri_65 ⟨r8, u9, rfl, rfl, h⟩
        · replace h := h.2 hc
          refine v_iconst gC d_Mo_tri_56 ?_
          exact gret _ _ _ _ d_Mo_tri_57 ⟨(-1), (mkMo 0 (gMo_corners s0) (gMo_px s0) (gMo_py s0) (gMo_pz s0) (gMo_triangles s0) (gMo_named s0) (gMo_joined s0) (gMo_dropped s0) (gMo_closed s0) (gMo_layers s0) (gMo_thickness s0) (gMo_cuts s0) (gMo_cx s0) (gMo_cy s0) (gMo_cz s0) (gMo_solids s0) (gMo_shell s0) (gMo_skin s0) (gMo_period s0) (gMo_reach s0) (gMo_gap s0) (gMo_bytes s0) (gMo_played s0) (gMo_at s0) (gMo_program s0) (gMo_beads s0) (gMo_ring s0)), rfl, rfl, h⟩

set_option maxHeartbeats 4000000 in
set_option maxRecDepth 100000 in
theorem k_Mo_lowestAt (l : Launch) (D : va_G) (K : Nat → ClassId) (d0 : Nat → Nat) (x1 : Int) (s0 : s_Mo) (Q : Int → Prop) (h : wp_Mo_lowestAt x1 s0 Q) : Kt l D K y_Mo_lowestAt b_Mo_lowestAt 3 (some .int) 0 0 [.ref (d0 0), .int (zI x1)] (w_Mo K d0 s0) (fun v w1 => ∃ (r : Int), v = some (.int (zI r)) ∧ w1 = (w_Mo K d0 s0) ∧ Q r) := by
  refine Kt.ofI (by decide +kernel) (Nat.le_of_ble_eq_true rfl) (lv0 := [(0, .ref (d0 0)), (1, .int (zI x1))]) rfl ?_
  intro gp ge gR gs gm ga gb gh gc gA gQ gRf gRl gC gret
  unfold wp_Mo_lowestAt at h
  replace h := h
    (fun (v2 : Int) => V gp l ge gR gs gm ga gb gh gc D gA 3 0 0 gQ (w_Mo K d0 s0) 2 [(0, .ref (d0 0)), (1, .int (zI x1)), (2, .int (zI v2))] [])
    (by
      intro v2 h
      refine v_aload_n gC d_Mo_lowestAt_2 rfl 0 rfl ?_
      refine v_get (v := .ref (d0 1)) gC in_Mo 0 rfl rfl 2 (by decide) fl_Mo_7 rfl d_Mo_lowestAt_3 ?_
      refine v_iload_n gC d_Mo_lowestAt_6 rfl 2 rfl ?_
      obtain ⟨hg1, h⟩ := h
      refine v_iald (g := (gMo_px s0)) gC 1 0 rfl rfl hg1 rfl (by decide) d_Mo_lowestAt_7 ?_
      refine v_aload_n gC d_Mo_lowestAt_8 rfl 0 rfl ?_
      refine v_get (v := .ref (d0 1)) gC in_Mo 0 rfl rfl 2 (by decide) fl_Mo_7 rfl d_Mo_lowestAt_9 ?_
      refine v_iload_n gC d_Mo_lowestAt_12 rfl 1 rfl ?_
      obtain ⟨hg2, h⟩ := h
      refine v_iald (g := (gMo_px s0)) gC 1 0 rfl rfl hg2 rfl (by decide) d_Mo_lowestAt_13 ?_
      obtain ⟨hg3, hg4, h⟩ := h
      refine v_icmp_ne (tgt := 47) gC d_Mo_lowestAt_14 (by decide) hg3 hg4 (fun hc => ?_) (fun hc => ?_)
      · replace h := h.1 hc
        refine v_iinc (lv' := [(0, .ref (d0 0)), (1, .int (zI x1)), (2, .int (zI (v2 + 1)))]) gC d_Mo_lowestAt_47 2 rfl (by decide) (v2 + 1) rfl [1, 2, 0] rfl ?_
        refine v_goto (tgt := 2) gC d_Mo_lowestAt_50 (by decide) ?_
        refine v_loc (lv' := [(0, .ref (d0 0)), (1, .int (zI x1)), (2, .int (zI (v2 + 1)))]) [0, 1, 2] rfl ?_
        exact h
      · replace h := h.2 hc
        refine v_aload_n gC d_Mo_lowestAt_17 rfl 0 rfl ?_
        refine v_get (v := .ref (d0 2)) gC in_Mo 0 rfl rfl 3 (by decide) fl_Mo_13 rfl d_Mo_lowestAt_18 ?_
        refine v_iload_n gC d_Mo_lowestAt_21 rfl 2 rfl ?_
        refine v_iald (g := (gMo_py s0)) gC 2 0 rfl rfl hg1 rfl (by decide) d_Mo_lowestAt_22 ?_
        refine v_aload_n gC d_Mo_lowestAt_23 rfl 0 rfl ?_
        refine v_get (v := .ref (d0 2)) gC in_Mo 0 rfl rfl 3 (by decide) fl_Mo_13 rfl d_Mo_lowestAt_24 ?_
        refine v_iload_n gC d_Mo_lowestAt_27 rfl 1 rfl ?_
        refine v_iald (g := (gMo_py s0)) gC 2 0 rfl rfl hg2 rfl (by decide) d_Mo_lowestAt_28 ?_
        obtain ⟨hg5, hg6, h⟩ := h
        refine v_icmp_ne (tgt := 47) gC d_Mo_lowestAt_29 (by decide) hg5 hg6 (fun hc => ?_) (fun hc => ?_)
        · replace h := h.1 hc
          refine v_iinc (lv' := [(0, .ref (d0 0)), (1, .int (zI x1)), (2, .int (zI (v2 + 1)))]) gC d_Mo_lowestAt_47 2 rfl (by decide) (v2 + 1) rfl [1, 2, 0] rfl ?_
          refine v_goto (tgt := 2) gC d_Mo_lowestAt_50 (by decide) ?_
          refine v_loc (lv' := [(0, .ref (d0 0)), (1, .int (zI x1)), (2, .int (zI (v2 + 1)))]) [0, 1, 2] rfl ?_
          exact h
        · replace h := h.2 hc
          refine v_aload_n gC d_Mo_lowestAt_32 rfl 0 rfl ?_
          refine v_get (v := .ref (d0 3)) gC in_Mo 0 rfl rfl 4 (by decide) fl_Mo_16 rfl d_Mo_lowestAt_33 ?_
          refine v_iload_n gC d_Mo_lowestAt_36 rfl 2 rfl ?_
          refine v_iald (g := (gMo_pz s0)) gC 3 0 rfl rfl hg1 rfl (by decide) d_Mo_lowestAt_37 ?_
          refine v_aload_n gC d_Mo_lowestAt_38 rfl 0 rfl ?_
          refine v_get (v := .ref (d0 3)) gC in_Mo 0 rfl rfl 4 (by decide) fl_Mo_16 rfl d_Mo_lowestAt_39 ?_
          refine v_iload_n gC d_Mo_lowestAt_42 rfl 1 rfl ?_
          refine v_iald (g := (gMo_pz s0)) gC 3 0 rfl rfl hg2 rfl (by decide) d_Mo_lowestAt_43 ?_
          obtain ⟨hg7, hg8, h⟩ := h
          refine v_icmp_eq (tgt := 53) gC d_Mo_lowestAt_44 (by decide) hg7 hg8 (fun hc => ?_) (fun hc => ?_)
          · replace h := h.1 hc
            refine v_iload_n gC d_Mo_lowestAt_53 rfl 2 rfl ?_
            exact gret _ _ _ _ d_Mo_lowestAt_54 ⟨v2, rfl, rfl, h⟩
          · replace h := h.2 hc
            refine v_iinc (lv' := [(0, .ref (d0 0)), (1, .int (zI x1)), (2, .int (zI (v2 + 1)))]) gC d_Mo_lowestAt_47 2 rfl (by decide) (v2 + 1) rfl [1, 2, 0] rfl ?_
            refine v_goto (tgt := 2) gC d_Mo_lowestAt_50 (by decide) ?_
            refine v_loc (lv' := [(0, .ref (d0 0)), (1, .int (zI x1)), (2, .int (zI (v2 + 1)))]) [0, 1, 2] rfl ?_
            exact h)
  refine v_iconst gC d_Mo_lowestAt_0 ?_
  refine v_istore_n (lv' := [(0, .ref (d0 0)), (1, .int (zI x1)), (2, .int (zI 0))]) gC d_Mo_lowestAt_1 rfl (by decide) [1, 2, 0] rfl ?_
  refine v_loc (lv' := [(0, .ref (d0 0)), (1, .int (zI x1)), (2, .int (zI 0))]) [0, 1, 2] rfl ?_
  exact h

set_option maxHeartbeats 4000000 in
set_option maxRecDepth 100000 in
theorem k_Mo_join (l : Launch) (D : va_G) (K : Nat → ClassId) (d0 : Nat → Nat) (s0 : s_Mo) (Q : s_Mo → Prop) (h : wp_Mo_join s0 Q) : Kt l D K y_Mo_join b_Mo_join 5 none 1 22 [.ref (d0 0)] (w_Mo K d0 s0) (fun v w1 => ∃ (u0 : s_Mo), v = none ∧ w1 = (w_Mo K d0 u0) ∧ Q u0) := by
  refine Kt.ofV (by decide +kernel) (Nat.le_of_ble_eq_true rfl) (lv0 := [(0, .ref (d0 0))]) rfl ?_
  intro gp ge gR gs gm ga gb gh gc gA gQ gRf gRl gC gret
  unfold wp_Mo_join at h
  replace h := h
    (fun (v1 : Int) (s0 : s_Mo) => V gp l ge gR gs gm ga gb gh gc D gA 5 0 0 gQ (w_Mo K d0 s0) 2 [(0, .ref (d0 0)), (1, .int (zI v1))] [])
    (fun (v1 : Int) (v2 : Int) (v3 : Int) (v4 : Int) (s0 : s_Mo) => V gp l ge gR gs gm ga gb gh gc D gA 5 0 0 gQ (w_Mo K d0 s0) 29 [(0, .ref (d0 0)), (1, .int (zI v1)), (2, .int (zI v2)), (3, .int (zI v3)), (4, .int (zI v4))] [])
    (by
      intro v1 s0 h
      refine v_iload_n gC d_Mo_join_2 rfl 1 rfl ?_
      refine v_aload_n gC d_Mo_join_3 rfl 0 rfl ?_
      refine v_get (v := .int (zI (gMo_corners s0))) gC in_Mo 0 rfl rfl 1 (by decide) fl_Mo_63 rfl d_Mo_join_4 ?_
      obtain ⟨hg1, hg2, h⟩ := h
      refine v_icmp_ge (tgt := 94) gC d_Mo_join_7 (by decide) hg1 hg2 (fun hc => ?_) (fun hc => ?_)
      · replace h := h.1 hc
        exact gret _ _ _ d_Mo_join_94 ⟨s0, rfl, rfl, h⟩
      · replace h := h.2 hc
        refine v_aload_n gC d_Mo_join_10 rfl 0 rfl ?_
        refine v_iload_n gC d_Mo_join_11 rfl 1 rfl ?_
        refine v_callV (rest := []) gC (k_Mo_lowestAt l D K d0 v1 s0 _ h) wV_Mo_77 rfl ⟨by omega, by omega, Nat.zero_le _, Nat.zero_le _⟩ 0 rfl rfl [0, 1, 2, 3, 4, 5, 6, 7, 8, 9, 10, 11] [] rfl (by decide) rfl (by decide) (by decide) rfl (Nat.le_of_ble_eq_true rfl) d_Mo_join_12 (fun v w1 hp => ?_)
        obtain ⟨r3, rfl, rfl, h⟩ := hp
        refine v_after (ws' := (w_Mo K d0 s0)) (st' := [.int (zI r3)]) [0, 1, 2, 3, 4, 5, 6, 7, 8, 9, 10, 11] (by decide) rfl rfl ?_
        refine v_istore_n (lv' := [(0, .ref (d0 0)), (1, .int (zI v1)), (2, .int (zI r3))]) gC d_Mo_join_15 rfl (by decide) [1, 2, 0] rfl ?_
        refine v_iload_n gC d_Mo_join_16 rfl 2 rfl ?_
        refine v_iload_n gC d_Mo_join_17 rfl 1 rfl ?_
        obtain ⟨hg4, h⟩ := h
        refine v_icmp_ne (tgt := 24) gC d_Mo_join_18 (by decide) hg4 hg1 (fun hc => ?_) (fun hc => ?_)
        · replace h := h.1 hc
          refine v_iconst gC d_Mo_join_24 ?_
          refine v_istore_n (lv' := [(0, .ref (d0 0)), (1, .int (zI v1)), (2, .int (zI r3)), (3, .int (zI 0))]) gC d_Mo_join_25 rfl (by decide) [1, 2, 3, 0] rfl ?_
          refine v_iconst gC d_Mo_join_26 ?_
          refine v_istore (lv' := [(0, .ref (d0 0)), (1, .int (zI v1)), (2, .int (zI r3)), (3, .int (zI 0)), (4, .int (zI 0))]) gC d_Mo_join_27 (by decide) [1, 2, 3, 4, 0] rfl ?_
          refine v_loc (lv' := [(0, .ref (d0 0)), (1, .int (zI v1)), (2, .int (zI r3)), (3, .int (zI 0)), (4, .int (zI 0))]) [0, 1, 2, 3, 4] rfl ?_
          exact h
        · replace h := h.2 hc
          refine v_goto (tgt := 88) gC d_Mo_join_21 (by decide) ?_
          refine v_iinc (lv' := [(0, .ref (d0 0)), (1, .int (zI (v1 + 1))), (2, .int (zI r3))]) gC d_Mo_join_88 1 rfl (by decide) (v1 + 1) rfl [1, 0, 2] rfl ?_
          refine v_goto (tgt := 2) gC d_Mo_join_91 (by decide) ?_
          refine v_loc (lv' := [(0, .ref (d0 0)), (1, .int (zI (v1 + 1)))]) [0, 1] rfl ?_
          exact h)
    (by
      intro v1 v2 v3 v4 s0 h
      refine v_iload gC d_Mo_join_29 4 rfl ?_
      refine v_iconst gC d_Mo_join_31 ?_
      refine v_aload_n gC d_Mo_join_32 rfl 0 rfl ?_
      refine v_get (v := .int (zI (gMo_triangles s0))) gC in_Mo 0 rfl rfl 5 (by decide) fl_Mo_70 rfl d_Mo_join_33 ?_
      refine v_imul gC d_Mo_join_36 (3 * (gMo_triangles s0)) rfl ?_
      obtain ⟨hg5, hg6, h⟩ := h
      refine v_icmp_ge (tgt := 70) gC d_Mo_join_37 (by decide) hg5 hg6 (fun hc => ?_) (fun hc => ?_)
      · replace h := h.1 hc
        refine v_aload_n gC d_Mo_join_70 rfl 0 rfl ?_
        refine v_dup gC d_Mo_join_71 rfl ?_
        refine v_get (v := .int (zI (gMo_joined s0))) gC in_Mo 0 rfl rfl 7 (by decide) fl_Mo_81 rfl d_Mo_join_72 ?_
        refine v_iload_n gC d_Mo_join_75 rfl 3 rfl ?_
        obtain ⟨hg7, h⟩ := h
        refine v_if_eq (tgt := 83) gC d_Mo_join_76 (by decide) hg7 (fun hc => ?_) (fun hc => ?_)
        · replace h := h.1 hc
          refine v_iconst gC d_Mo_join_83 ?_
          refine v_iadd gC d_Mo_join_84 ((gMo_joined s0) + 0) rfl ?_
          refine v_puti (ws' := (w_Mo K d0 (mkMo (gMo_thrown s0) (gMo_corners s0) (gMo_px s0) (gMo_py s0) (gMo_pz s0) (gMo_triangles s0) (gMo_named s0) ((gMo_joined s0) + 0) (gMo_dropped s0) (gMo_closed s0) (gMo_layers s0) (gMo_thickness s0) (gMo_cuts s0) (gMo_cx s0) (gMo_cy s0) (gMo_cz s0) (gMo_solids s0) (gMo_shell s0) (gMo_skin s0) (gMo_period s0) (gMo_reach s0) (gMo_gap s0) (gMo_bytes s0) (gMo_played s0) (gMo_at s0) (gMo_program s0) (gMo_beads s0) (gMo_ring s0)))) gC in_Mo t_Mo ok_Mo n_Mo 0 rfl rfl 7 (by decide) fl_Mo_81 rfl (by decide +kernel) (Nat.le_of_ble_eq_true rfl) rfl d_Mo_join_85 ?_
          refine v_iinc (lv' := [(0, .ref (d0 0)), (1, .int (zI (v1 + 1))), (2, .int (zI v2)), (3, .int (zI v3)), (4, .int (zI v4))]) gC d_Mo_join_88 1 rfl (by decide) (v1 + 1) rfl [1, 0, 2, 3, 4] rfl ?_
          refine v_goto (tgt := 2) gC d_Mo_join_91 (by decide) ?_
          refine v_loc (lv' := [(0, .ref (d0 0)), (1, .int (zI (v1 + 1)))]) [0, 1] rfl ?_
          exact h
        · replace h := h.2 hc
          refine v_iconst gC d_Mo_join_79 ?_
          refine v_goto (tgt := 84) gC d_Mo_join_80 (by decide) ?_
          refine v_iadd gC d_Mo_join_84 ((gMo_joined s0) + 1) rfl ?_
          refine v_puti (ws' := (w_Mo K d0 (mkMo (gMo_thrown s0) (gMo_corners s0) (gMo_px s0) (gMo_py s0) (gMo_pz s0) (gMo_triangles s0) (gMo_named s0) ((gMo_joined s0) + 1) (gMo_dropped s0) (gMo_closed s0) (gMo_layers s0) (gMo_thickness s0) (gMo_cuts s0) (gMo_cx s0) (gMo_cy s0) (gMo_cz s0) (gMo_solids s0) (gMo_shell s0) (gMo_skin s0) (gMo_period s0) (gMo_reach s0) (gMo_gap s0) (gMo_bytes s0) (gMo_played s0) (gMo_at s0) (gMo_program s0) (gMo_beads s0) (gMo_ring s0)))) gC in_Mo t_Mo ok_Mo n_Mo 0 rfl rfl 7 (by decide) fl_Mo_81 rfl (by decide +kernel) (Nat.le_of_ble_eq_true rfl) rfl d_Mo_join_85 ?_
          refine v_iinc (lv' := [(0, .ref (d0 0)), (1, .int (zI (v1 + 1))), (2, .int (zI v2)), (3, .int (zI v3)), (4, .int (zI v4))]) gC d_Mo_join_88 1 rfl (by decide) (v1 + 1) rfl [1, 0, 2, 3, 4] rfl ?_
          refine v_goto (tgt := 2) gC d_Mo_join_91 (by decide) ?_
          refine v_loc (lv' := [(0, .ref (d0 0)), (1, .int (zI (v1 + 1)))]) [0, 1] rfl ?_
          exact h
      · replace h := h.2 hc
        refine v_aload_n gC d_Mo_join_40 rfl 0 rfl ?_
        refine v_get (v := .ref (d0 4)) gC in_Mo 0 rfl rfl 6 (by decide) fl_Mo_19 rfl d_Mo_join_41 ?_
        refine v_iload gC d_Mo_join_44 4 rfl ?_
        obtain ⟨hg8, h⟩ := h
        refine v_iald (g := (gMo_named s0)) gC 4 0 rfl rfl hg8 rfl (by decide) d_Mo_join_46 ?_
        refine v_iload_n gC d_Mo_join_47 rfl 1 rfl ?_
        obtain ⟨hg9, hg10, h⟩ := h
        refine v_icmp_eq (tgt := 54) gC d_Mo_join_48 (by decide) hg9 hg10 (fun hc => ?_) (fun hc => ?_)
        · replace h := h.1 hc
          refine v_aload_n gC d_Mo_join_54 rfl 0 rfl ?_
          refine v_get (v := .ref (d0 4)) gC in_Mo 0 rfl rfl 6 (by decide) fl_Mo_19 rfl d_Mo_join_55 ?_
          refine v_iload gC d_Mo_join_58 4 rfl ?_
          refine v_iload_n gC d_Mo_join_60 rfl 2 rfl ?_
          refine v_iast (g := (gMo_named s0)) (ws' := (w_Mo K d0 (mkMo (gMo_thrown s0) (gMo_corners s0) (gMo_px s0) (gMo_py s0) (gMo_pz s0) (gMo_triangles s0) (iset (gMo_named s0) v4 v2) (gMo_joined s0) (gMo_dropped s0) (gMo_closed s0) (gMo_layers s0) (gMo_thickness s0) (gMo_cuts s0) (gMo_cx s0) (gMo_cy s0) (gMo_cz s0) (gMo_solids s0) (gMo_shell s0) (gMo_skin s0) (gMo_period s0) (gMo_reach s0) (gMo_gap s0) (gMo_bytes s0) (gMo_played s0) (gMo_at s0) (gMo_program s0) (gMo_beads s0) (gMo_ring s0)))) gC 4 0 rfl rfl hg8 rfl (by decide) rfl d_Mo_join_61 ?_
          refine v_iconst gC d_Mo_join_62 ?_
          refine v_istore_n (lv' := [(0, .ref (d0 0)), (1, .int (zI v1)), (2, .int (zI v2)), (3, .int (zI 1)), (4, .int (zI v4))]) gC d_Mo_join_63 rfl (by decide) [1, 2, 3, 0, 4] rfl ?_
          refine v_iinc (lv' := [(0, .ref (d0 0)), (1, .int (zI v1)), (2, .int (zI v2)), (3, .int (zI 1)), (4, .int (zI (v4 + 1)))]) gC d_Mo_join_64 4 rfl (by decide) (v4 + 1) rfl [1, 2, 3, 4, 0] rfl ?_
          refine v_goto (tgt := 29) gC d_Mo_join_67 (by decide) ?_
          refine v_loc (lv' := [(0, .ref (d0 0)), (1, .int (zI v1)), (2, .int (zI v2)), (3, .int (zI 1)), (4, .int (zI (v4 + 1)))]) [0, 1, 2, 3, 4] rfl ?_
          exact h
        · replace h := h.2 hc
          refine v_goto (tgt := 64) gC d_Mo_join_51 (by decide) ?_
          refine v_iinc (lv' := [(0, .ref (d0 0)), (1, .int (zI v1)), (2, .int (zI v2)), (3, .int (zI v3)), (4, .int (zI (v4 + 1)))]) gC d_Mo_join_64 4 rfl (by decide) (v4 + 1) rfl [1, 2, 3, 4, 0] rfl ?_
          refine v_goto (tgt := 29) gC d_Mo_join_67 (by decide) ?_
          refine v_loc (lv' := [(0, .ref (d0 0)), (1, .int (zI v1)), (2, .int (zI v2)), (3, .int (zI v3)), (4, .int (zI (v4 + 1)))]) [0, 1, 2, 3, 4] rfl ?_
          exact h)
  refine v_iconst gC d_Mo_join_0 ?_
  refine v_istore_n (lv' := [(0, .ref (d0 0)), (1, .int (zI 0))]) gC d_Mo_join_1 rfl (by decide) [1, 0] rfl ?_
  refine v_loc (lv' := [(0, .ref (d0 0)), (1, .int (zI 0))]) [0, 1] rfl ?_
  exact h

set_option maxHeartbeats 4000000 in
set_option maxRecDepth 100000 in
theorem k_Mo_isFlat (l : Launch) (D : va_G) (K : Nat → ClassId) (d0 : Nat → Nat) (x1 : Int) (s0 : s_Mo) (Q : Int → Prop) (h : wp_Mo_isFlat x1 s0 Q) : Kt l D K y_Mo_isFlat b_Mo_isFlat 11 (some .boolean) 0 0 [.ref (d0 0), .int (zI x1)] (w_Mo K d0 s0) (fun v w1 => ∃ (r : Int), v = some (.int (zI r)) ∧ w1 = (w_Mo K d0 s0) ∧ Q r) := by
  refine Kt.ofZ (by decide +kernel) (Nat.le_of_ble_eq_true rfl) (lv0 := [(0, .ref (d0 0)), (1, .int (zI x1))]) rfl ?_
  intro gp ge gR gs gm ga gb gh gc gA gQ gRf gRl gC gret
  unfold wp_Mo_isFlat at h
  refine v_aload_n gC d_Mo_isFlat_0 rfl 0 rfl ?_
  refine v_get (v := .ref (d0 4)) gC in_Mo 0 rfl rfl 6 (by decide) fl_Mo_19 rfl d_Mo_isFlat_1 ?_
  refine v_iconst gC d_Mo_isFlat_4 ?_
  refine v_iload_n gC d_Mo_isFlat_5 rfl 1 rfl ?_
  refine v_imul gC d_Mo_isFlat_6 (3 * x1) rfl ?_
  obtain ⟨hg1, h⟩ := h
  refine v_iald (g := (gMo_named s0)) gC 4 0 rfl rfl hg1 rfl (by decide) d_Mo_isFlat_7 ?_
  refine v_istore_n (lv' := [(0, .ref (d0 0)), (1, .int (zI x1)), (2, .int (zI ((gMo_named s0) (3 * x1))))]) gC d_Mo_isFlat_8 rfl (by decide) [1, 2, 0] rfl ?_
  refine v_aload_n gC d_Mo_isFlat_9 rfl 0 rfl ?_
  refine v_get (v := .ref (d0 4)) gC in_Mo 0 rfl rfl 6 (by decide) fl_Mo_19 rfl d_Mo_isFlat_10 ?_
  refine v_iconst gC d_Mo_isFlat_13 ?_
  refine v_iload_n gC d_Mo_isFlat_14 rfl 1 rfl ?_
  refine v_imul gC d_Mo_isFlat_15 (3 * x1) rfl ?_
  refine v_iconst gC d_Mo_isFlat_16 ?_
  refine v_iadd gC d_Mo_isFlat_17 ((3 * x1) + 1) rfl ?_
  obtain ⟨hg2, h⟩ := h
  refine v_iald (g := (gMo_named s0)) gC 4 0 rfl rfl hg2 rfl (by decide) d_Mo_isFlat_18 ?_
  refine v_istore_n (lv' := [(0, .ref (d0 0)), (1, .int (zI x1)), (2, .int (zI ((gMo_named s0) (3 * x1)))), (3, .int (zI ((gMo_named s0) ((3 * x1) + 1))))]) gC d_Mo_isFlat_19 rfl (by decide) [1, 2, 3, 0] rfl ?_
  refine v_aload_n gC d_Mo_isFlat_20 rfl 0 rfl ?_
  refine v_get (v := .ref (d0 4)) gC in_Mo 0 rfl rfl 6 (by decide) fl_Mo_19 rfl d_Mo_isFlat_21 ?_
  refine v_iconst gC d_Mo_isFlat_24 ?_
  refine v_iload_n gC d_Mo_isFlat_25 rfl 1 rfl ?_
  refine v_imul gC d_Mo_isFlat_26 (3 * x1) rfl ?_
  refine v_iconst gC d_Mo_isFlat_27 ?_
  refine v_iadd gC d_Mo_isFlat_28 ((3 * x1) + 2) rfl ?_
  obtain ⟨hg3, h⟩ := h
  refine v_iald (g := (gMo_named s0)) gC 4 0 rfl rfl hg3 rfl (by decide) d_Mo_isFlat_29 ?_
  refine v_istore (lv' := [(0, .ref (d0 0)), (1, .int (zI x1)), (2, .int (zI ((gMo_named s0) (3 * x1)))), (3, .int (zI ((gMo_named s0) ((3 * x1) + 1)))), (4, .int (zI ((gMo_named s0) ((3 * x1) + 2))))]) gC d_Mo_isFlat_30 (by decide) [1, 2, 3, 4, 0] rfl ?_
  refine v_aload_n gC d_Mo_isFlat_32 rfl 0 rfl ?_
  refine v_get (v := .ref (d0 1)) gC in_Mo 0 rfl rfl 2 (by decide) fl_Mo_7 rfl d_Mo_isFlat_33 ?_
  refine v_iload_n gC d_Mo_isFlat_36 rfl 3 rfl ?_
  obtain ⟨hg4, h⟩ := h
  refine v_iald (g := (gMo_px s0)) gC 1 0 rfl rfl hg4 rfl (by decide) d_Mo_isFlat_37 ?_
  refine v_aload_n gC d_Mo_isFlat_38 rfl 0 rfl ?_
  refine v_get (v := .ref (d0 1)) gC in_Mo 0 rfl rfl 2 (by decide) fl_Mo_7 rfl d_Mo_isFlat_39 ?_
  refine v_iload_n gC d_Mo_isFlat_42 rfl 2 rfl ?_
  obtain ⟨hg5, h⟩ := h
  refine v_iald (g := (gMo_px s0)) gC 1 0 rfl rfl hg5 rfl (by decide) d_Mo_isFlat_43 ?_
  refine v_isub gC d_Mo_isFlat_44 (((gMo_px s0) ((gMo_named s0) ((3 * x1) + 1))) - ((gMo_px s0) ((gMo_named s0) (3 * x1)))) rfl ?_
  refine v_istore (lv' := [(0, .ref (d0 0)), (1, .int (zI x1)), (2, .int (zI ((gMo_named s0) (3 * x1)))), (3, .int (zI ((gMo_named s0) ((3 * x1) + 1)))), (4, .int (zI ((gMo_named s0) ((3 * x1) + 2)))), (5, .int (zI (((gMo_px s0) ((gMo_named s0) ((3 * x1) + 1))) - ((gMo_px s0) ((gMo_named s0) (3 * x1))))))]) gC d_Mo_isFlat_45 (by decide) [1, 2, 3, 4, 5, 0] rfl ?_
  refine v_aload_n gC d_Mo_isFlat_47 rfl 0 rfl ?_
  refine v_get (v := .ref (d0 2)) gC in_Mo 0 rfl rfl 3 (by decide) fl_Mo_13 rfl d_Mo_isFlat_48 ?_
  refine v_iload_n gC d_Mo_isFlat_51 rfl 3 rfl ?_
  refine v_iald (g := (gMo_py s0)) gC 2 0 rfl rfl hg4 rfl (by decide) d_Mo_isFlat_52 ?_
  refine v_aload_n gC d_Mo_isFlat_53 rfl 0 rfl ?_
  refine v_get (v := .ref (d0 2)) gC in_Mo 0 rfl rfl 3 (by decide) fl_Mo_13 rfl d_Mo_isFlat_54 ?_
  refine v_iload_n gC d_Mo_isFlat_57 rfl 2 rfl ?_
  refine v_iald (g := (gMo_py s0)) gC 2 0 rfl rfl hg5 rfl (by decide) d_Mo_isFlat_58 ?_
  refine v_isub gC d_Mo_isFlat_59 (((gMo_py s0) ((gMo_named s0) ((3 * x1) + 1))) - ((gMo_py s0) ((gMo_named s0) (3 * x1)))) rfl ?_
  refine v_istore (lv' := [(0, .ref (d0 0)), (1, .int (zI x1)), (2, .int (zI ((gMo_named s0) (3 * x1)))), (3, .int (zI ((gMo_named s0) ((3 * x1) + 1)))), (4, .int (zI ((gMo_named s0) ((3 * x1) + 2)))), (5, .int (zI (((gMo_px s0) ((gMo_named s0) ((3 * x1) + 1))) - ((gMo_px s0) ((gMo_named s0) (3 * x1)))))), (6, .int (zI (((gMo_py s0) ((gMo_named s0) ((3 * x1) + 1))) - ((gMo_py s0) ((gMo_named s0) (3 * x1))))))]) gC d_Mo_isFlat_60 (by decide) [1, 2, 3, 4, 5, 6, 0] rfl ?_
  refine v_aload_n gC d_Mo_isFlat_62 rfl 0 rfl ?_
  refine v_get (v := .ref (d0 3)) gC in_Mo 0 rfl rfl 4 (by decide) fl_Mo_16 rfl d_Mo_isFlat_63 ?_
  refine v_iload_n gC d_Mo_isFlat_66 rfl 3 rfl ?_
  refine v_iald (g := (gMo_pz s0)) gC 3 0 rfl rfl hg4 rfl (by decide) d_Mo_isFlat_67 ?_
  refine v_aload_n gC d_Mo_isFlat_68 rfl 0 rfl ?_
  refine v_get (v := .ref (d0 3)) gC in_Mo 0 rfl rfl 4 (by decide) fl_Mo_16 rfl d_Mo_isFlat_69 ?_
  refine v_iload_n gC d_Mo_isFlat_72 rfl 2 rfl ?_
  refine v_iald (g := (gMo_pz s0)) gC 3 0 rfl rfl hg5 rfl (by decide) d_Mo_isFlat_73 ?_
  refine v_isub gC d_Mo_isFlat_74 (((gMo_pz s0) ((gMo_named s0) ((3 * x1) + 1))) - ((gMo_pz s0) ((gMo_named s0) (3 * x1)))) rfl ?_
  refine v_istore (lv' := [(0, .ref (d0 0)), (1, .int (zI x1)), (2, .int (zI ((gMo_named s0) (3 * x1)))), (3, .int (zI ((gMo_named s0) ((3 * x1) + 1)))), (4, .int (zI ((gMo_named s0) ((3 * x1) + 2)))), (5, .int (zI (((gMo_px s0) ((gMo_named s0) ((3 * x1) + 1))) - ((gMo_px s0) ((gMo_named s0) (3 * x1)))))), (6, .int (zI (((gMo_py s0) ((gMo_named s0) ((3 * x1) + 1))) - ((gMo_py s0) ((gMo_named s0) (3 * x1)))))), (7, .int (zI (((gMo_pz s0) ((gMo_named s0) ((3 * x1) + 1))) - ((gMo_pz s0) ((gMo_named s0) (3 * x1))))))]) gC d_Mo_isFlat_75 (by decide) [1, 2, 3, 4, 5, 6, 7, 0] rfl ?_
  refine v_aload_n gC d_Mo_isFlat_77 rfl 0 rfl ?_
  refine v_get (v := .ref (d0 1)) gC in_Mo 0 rfl rfl 2 (by decide) fl_Mo_7 rfl d_Mo_isFlat_78 ?_
  refine v_iload gC d_Mo_isFlat_81 4 rfl ?_
  obtain ⟨hg6, h⟩ := h
  refine v_iald (g := (gMo_px s0)) gC 1 0 rfl rfl hg6 rfl (by decide) d_Mo_isFlat_83 ?_
  refine v_aload_n gC d_Mo_isFlat_84 rfl 0 rfl ?_
  refine v_get (v := .ref (d0 1)) gC in_Mo 0 rfl rfl 2 (by decide) fl_Mo_7 rfl d_Mo_isFlat_85 ?_
  refine v_iload_n gC d_Mo_isFlat_88 rfl 2 rfl ?_
  refine v_iald (g := (gMo_px s0)) gC 1 0 rfl rfl hg5 rfl (by decide) d_Mo_isFlat_89 ?_
  refine v_isub gC d_Mo_isFlat_90 (((gMo_px s0) ((gMo_named s0) ((3 * x1) + 2))) - ((gMo_px s0) ((gMo_named s0) (3 * x1)))) rfl ?_
  refine v_istore (lv' := [(0, .ref (d0 0)), (1, .int (zI x1)), (2, .int (zI ((gMo_named s0) (3 * x1)))), (3, .int (zI ((gMo_named s0) ((3 * x1) + 1)))), (4, .int (zI ((gMo_named s0) ((3 * x1) + 2)))), (5, .int (zI (((gMo_px s0) ((gMo_named s0) ((3 * x1) + 1))) - ((gMo_px s0) ((gMo_named s0) (3 * x1)))))), (6, .int (zI (((gMo_py s0) ((gMo_named s0) ((3 * x1) + 1))) - ((gMo_py s0) ((gMo_named s0) (3 * x1)))))), (7, .int (zI (((gMo_pz s0) ((gMo_named s0) ((3 * x1) + 1))) - ((gMo_pz s0) ((gMo_named s0) (3 * x1)))))), (8, .int (zI (((gMo_px s0) ((gMo_named s0) ((3 * x1) + 2))) - ((gMo_px s0) ((gMo_named s0) (3 * x1))))))]) gC d_Mo_isFlat_91 (by decide) [1, 2, 3, 4, 5, 6, 7, 8, 0] rfl ?_
  refine v_aload_n gC d_Mo_isFlat_93 rfl 0 rfl ?_
  refine v_get (v := .ref (d0 2)) gC in_Mo 0 rfl rfl 3 (by decide) fl_Mo_13 rfl d_Mo_isFlat_94 ?_
  refine v_iload gC d_Mo_isFlat_97 4 rfl ?_
  refine v_iald (g := (gMo_py s0)) gC 2 0 rfl rfl hg6 rfl (by decide) d_Mo_isFlat_99 ?_
  refine v_aload_n gC d_Mo_isFlat_100 rfl 0 rfl ?_
  refine v_get (v := .ref (d0 2)) gC in_Mo 0 rfl rfl 3 (by decide) fl_Mo_13 rfl d_Mo_isFlat_101 ?_
  refine v_iload_n gC d_Mo_isFlat_104 rfl 2 rfl ?_
  refine v_iald (g := (gMo_py s0)) gC 2 0 rfl rfl hg5 rfl (by decide) d_Mo_isFlat_105 ?_
  refine v_isub gC d_Mo_isFlat_106 (((gMo_py s0) ((gMo_named s0) ((3 * x1) + 2))) - ((gMo_py s0) ((gMo_named s0) (3 * x1)))) rfl ?_
  refine v_istore (lv' := [(0, .ref (d0 0)), (1, .int (zI x1)), (2, .int (zI ((gMo_named s0) (3 * x1)))), (3, .int (zI ((gMo_named s0) ((3 * x1) + 1)))), (4, .int (zI ((gMo_named s0) ((3 * x1) + 2)))), (5, .int (zI (((gMo_px s0) ((gMo_named s0) ((3 * x1) + 1))) - ((gMo_px s0) ((gMo_named s0) (3 * x1)))))), (6, .int (zI (((gMo_py s0) ((gMo_named s0) ((3 * x1) + 1))) - ((gMo_py s0) ((gMo_named s0) (3 * x1)))))), (7, .int (zI (((gMo_pz s0) ((gMo_named s0) ((3 * x1) + 1))) - ((gMo_pz s0) ((gMo_named s0) (3 * x1)))))), (8, .int (zI (((gMo_px s0) ((gMo_named s0) ((3 * x1) + 2))) - ((gMo_px s0) ((gMo_named s0) (3 * x1)))))), (9, .int (zI (((gMo_py s0) ((gMo_named s0) ((3 * x1) + 2))) - ((gMo_py s0) ((gMo_named s0) (3 * x1))))))]) gC d_Mo_isFlat_107 (by decide) [1, 2, 3, 4, 5, 6, 7, 8, 9, 0] rfl ?_
  refine v_aload_n gC d_Mo_isFlat_109 rfl 0 rfl ?_
  refine v_get (v := .ref (d0 3)) gC in_Mo 0 rfl rfl 4 (by decide) fl_Mo_16 rfl d_Mo_isFlat_110 ?_
  refine v_iload gC d_Mo_isFlat_113 4 rfl ?_
  refine v_iald (g := (gMo_pz s0)) gC 3 0 rfl rfl hg6 rfl (by decide) d_Mo_isFlat_115 ?_
  refine v_aload_n gC d_Mo_isFlat_116 rfl 0 rfl ?_
  refine v_get (v := .ref (d0 3)) gC in_Mo 0 rfl rfl 4 (by decide) fl_Mo_16 rfl d_Mo_isFlat_117 ?_
  refine v_iload_n gC d_Mo_isFlat_120 rfl 2 rfl ?_
  refine v_iald (g := (gMo_pz s0)) gC 3 0 rfl rfl hg5 rfl (by decide) d_Mo_isFlat_121 ?_
  refine v_isub gC d_Mo_isFlat_122 (((gMo_pz s0) ((gMo_named s0) ((3 * x1) + 2))) - ((gMo_pz s0) ((gMo_named s0) (3 * x1)))) rfl ?_
  refine v_istore (lv' := [(0, .ref (d0 0)), (1, .int (zI x1)), (2, .int (zI ((gMo_named s0) (3 * x1)))), (3, .int (zI ((gMo_named s0) ((3 * x1) + 1)))), (4, .int (zI ((gMo_named s0) ((3 * x1) + 2)))), (5, .int (zI (((gMo_px s0) ((gMo_named s0) ((3 * x1) + 1))) - ((gMo_px s0) ((gMo_named s0) (3 * x1)))))), (6, .int (zI (((gMo_py s0) ((gMo_named s0) ((3 * x1) + 1))) - ((gMo_py s0) ((gMo_named s0) (3 * x1)))))), (7, .int (zI (((gMo_pz s0) ((gMo_named s0) ((3 * x1) + 1))) - ((gMo_pz s0) ((gMo_named s0) (3 * x1)))))), (8, .int (zI (((gMo_px s0) ((gMo_named s0) ((3 * x1) + 2))) - ((gMo_px s0) ((gMo_named s0) (3 * x1)))))), (9, .int (zI (((gMo_py s0) ((gMo_named s0) ((3 * x1) + 2))) - ((gMo_py s0) ((gMo_named s0) (3 * x1)))))), (10, .int (zI (((gMo_pz s0) ((gMo_named s0) ((3 * x1) + 2))) - ((gMo_pz s0) ((gMo_named s0) (3 * x1))))))]) gC d_Mo_isFlat_123 (by decide) [1, 2, 3, 4, 5, 6, 7, 8, 9, 10, 0] rfl ?_
  refine v_iload gC d_Mo_isFlat_125 6 rfl ?_
  refine v_iload gC d_Mo_isFlat_127 10 rfl ?_
  refine v_imul gC d_Mo_isFlat_129 ((((gMo_py s0) ((gMo_named s0) ((3 * x1) + 1))) - ((gMo_py s0) ((gMo_named s0) (3 * x1)))) * (((gMo_pz s0) ((gMo_named s0) ((3 * x1) + 2))) - ((gMo_pz s0) ((gMo_named s0) (3 * x1))))) rfl ?_
  refine v_iload gC d_Mo_isFlat_130 7 rfl ?_
  refine v_iload gC d_Mo_isFlat_132 9 rfl ?_
  refine v_imul gC d_Mo_isFlat_134 ((((gMo_pz s0) ((gMo_named s0) ((3 * x1) + 1))) - ((gMo_pz s0) ((gMo_named s0) (3 * x1)))) * (((gMo_py s0) ((gMo_named s0) ((3 * x1) + 2))) - ((gMo_py s0) ((gMo_named s0) (3 * x1))))) rfl ?_
  obtain ⟨hg7, hg8, h⟩ := h
  refine v_icmp_ne (tgt := 168) gC d_Mo_isFlat_135 (by decide) hg7 hg8 (fun hc => ?_) (fun hc => ?_)
  · replace h := h.1 hc
    refine v_iconst gC d_Mo_isFlat_168 ?_
    exact gret _ _ _ _ d_Mo_isFlat_169 rfl ⟨0, rfl, rfl, h⟩
  · replace h := h.2 hc
    refine v_iload gC d_Mo_isFlat_138 7 rfl ?_
    refine v_iload gC d_Mo_isFlat_140 8 rfl ?_
    refine v_imul gC d_Mo_isFlat_142 ((((gMo_pz s0) ((gMo_named s0) ((3 * x1) + 1))) - ((gMo_pz s0) ((gMo_named s0) (3 * x1)))) * (((gMo_px s0) ((gMo_named s0) ((3 * x1) + 2))) - ((gMo_px s0) ((gMo_named s0) (3 * x1))))) rfl ?_
    refine v_iload gC d_Mo_isFlat_143 5 rfl ?_
    refine v_iload gC d_Mo_isFlat_145 10 rfl ?_
    refine v_imul gC d_Mo_isFlat_147 ((((gMo_px s0) ((gMo_named s0) ((3 * x1) + 1))) - ((gMo_px s0) ((gMo_named s0) (3 * x1)))) * (((gMo_pz s0) ((gMo_named s0) ((3 * x1) + 2))) - ((gMo_pz s0) ((gMo_named s0) (3 * x1))))) rfl ?_
    obtain ⟨hg9, hg10, h⟩ := h
    refine v_icmp_ne (tgt := 168) gC d_Mo_isFlat_148 (by decide) hg9 hg10 (fun hc => ?_) (fun hc => ?_)
    · replace h := h.1 hc
      refine v_iconst gC d_Mo_isFlat_168 ?_
      exact gret _ _ _ _ d_Mo_isFlat_169 rfl ⟨0, rfl, rfl, h⟩
    · replace h := h.2 hc
      refine v_iload gC d_Mo_isFlat_151 5 rfl ?_
      refine v_iload gC d_Mo_isFlat_153 9 rfl ?_
      refine v_imul gC d_Mo_isFlat_155 ((((gMo_px s0) ((gMo_named s0) ((3 * x1) + 1))) - ((gMo_px s0) ((gMo_named s0) (3 * x1)))) * (((gMo_py s0) ((gMo_named s0) ((3 * x1) + 2))) - ((gMo_py s0) ((gMo_named s0) (3 * x1))))) rfl ?_
      refine v_iload gC d_Mo_isFlat_156 6 rfl ?_
      refine v_iload gC d_Mo_isFlat_158 8 rfl ?_
      refine v_imul gC d_Mo_isFlat_160 ((((gMo_py s0) ((gMo_named s0) ((3 * x1) + 1))) - ((gMo_py s0) ((gMo_named s0) (3 * x1)))) * (((gMo_px s0) ((gMo_named s0) ((3 * x1) + 2))) - ((gMo_px s0) ((gMo_named s0) (3 * x1))))) rfl ?_
      obtain ⟨hg11, hg12, h⟩ := h
      refine v_icmp_ne (tgt := 168) gC d_Mo_isFlat_161 (by decide) hg11 hg12 (fun hc => ?_) (fun hc => ?_)
      · replace h := h.1 hc
        refine v_iconst gC d_Mo_isFlat_168 ?_
        exact gret _ _ _ _ d_Mo_isFlat_169 rfl ⟨0, rfl, rfl, h⟩
      · replace h := h.2 hc
        refine v_iconst gC d_Mo_isFlat_164 ?_
        refine v_goto (tgt := 169) gC d_Mo_isFlat_165 (by decide) ?_
        exact gret _ _ _ _ d_Mo_isFlat_169 rfl ⟨1, rfl, rfl, h⟩

set_option maxHeartbeats 4000000 in
set_option maxRecDepth 100000 in
theorem k_Mo_drop (l : Launch) (D : va_G) (K : Nat → ClassId) (d0 : Nat → Nat) (s0 : s_Mo) (Q : s_Mo → Prop) (h : wp_Mo_drop s0 Q) : Kt l D K y_Mo_drop b_Mo_drop 4 none 1 30 [.ref (d0 0)] (w_Mo K d0 s0) (fun v w1 => ∃ (u0 : s_Mo), v = none ∧ w1 = (w_Mo K d0 u0) ∧ Q u0) := by
  refine Kt.ofV (by decide +kernel) (Nat.le_of_ble_eq_true rfl) (lv0 := [(0, .ref (d0 0))]) rfl ?_
  intro gp ge gR gs gm ga gb gh gc gA gQ gRf gRl gC gret
  unfold wp_Mo_drop at h
  replace h := h
    (fun (v1 : Int) (v2 : Int) (s0 : s_Mo) => V gp l ge gR gs gm ga gb gh gc D gA 4 0 0 gQ (w_Mo K d0 s0) 4 [(0, .ref (d0 0)), (1, .int (zI v1)), (2, .int (zI v2))] [])
    (fun (v1 : Int) (v2 : Int) (v3 : Int) (s0 : s_Mo) => V gp l ge gR gs gm ga gb gh gc D gA 4 0 0 gQ (w_Mo K d0 s0) 25 [(0, .ref (d0 0)), (1, .int (zI v1)), (2, .int (zI v2)), (3, .int (zI v3))] [])
    (by
      intro v1 v2 s0 h
      refine v_iload_n gC d_Mo_drop_4 rfl 2 rfl ?_
      refine v_aload_n gC d_Mo_drop_5 rfl 0 rfl ?_
      refine v_get (v := .int (zI (gMo_triangles s0))) gC in_Mo 0 rfl rfl 5 (by decide) fl_Mo_70 rfl d_Mo_drop_6 ?_
      obtain ⟨hg1, hg2, h⟩ := h
      refine v_icmp_ge (tgt := 65) gC d_Mo_drop_9 (by decide) hg1 hg2 (fun hc => ?_) (fun hc => ?_)
      · replace h := h.1 hc
        refine v_aload_n gC d_Mo_drop_65 rfl 0 rfl ?_
        refine v_dup gC d_Mo_drop_66 rfl ?_
        refine v_get (v := .int (zI (gMo_dropped s0))) gC in_Mo 0 rfl rfl 8 (by decide) fl_Mo_88 rfl d_Mo_drop_67 ?_
        refine v_aload_n gC d_Mo_drop_70 rfl 0 rfl ?_
        refine v_get (v := .int (zI (gMo_triangles s0))) gC in_Mo 0 rfl rfl 5 (by decide) fl_Mo_70 rfl d_Mo_drop_71 ?_
        refine v_iload_n gC d_Mo_drop_74 rfl 1 rfl ?_
        refine v_isub gC d_Mo_drop_75 ((gMo_triangles s0) - v1) rfl ?_
        refine v_iadd gC d_Mo_drop_76 ((gMo_dropped s0) + ((gMo_triangles s0) - v1)) rfl ?_
        refine v_puti (ws' := (w_Mo K d0 (mkMo (gMo_thrown s0) (gMo_corners s0) (gMo_px s0) (gMo_py s0) (gMo_pz s0) (gMo_triangles s0) (gMo_named s0) (gMo_joined s0) ((gMo_dropped s0) + ((gMo_triangles s0) - v1)) (gMo_closed s0) (gMo_layers s0) (gMo_thickness s0) (gMo_cuts s0) (gMo_cx s0) (gMo_cy s0) (gMo_cz s0) (gMo_solids s0) (gMo_shell s0) (gMo_skin s0) (gMo_period s0) (gMo_reach s0) (gMo_gap s0) (gMo_bytes s0) (gMo_played s0) (gMo_at s0) (gMo_program s0) (gMo_beads s0) (gMo_ring s0)))) gC in_Mo t_Mo ok_Mo n_Mo 0 rfl rfl 8 (by decide) fl_Mo_88 rfl (by decide +kernel) (Nat.le_of_ble_eq_true rfl) rfl d_Mo_drop_77 ?_
        refine v_aload_n gC d_Mo_drop_80 rfl 0 rfl ?_
        refine v_iload_n gC d_Mo_drop_81 rfl 1 rfl ?_
        refine v_puti (ws' := (w_Mo K d0 (mkMo (gMo_thrown s0) (gMo_corners s0) (gMo_px s0) (gMo_py s0) (gMo_pz s0) v1 (gMo_named s0) (gMo_joined s0) ((gMo_dropped s0) + ((gMo_triangles s0) - v1)) (gMo_closed s0) (gMo_layers s0) (gMo_thickness s0) (gMo_cuts s0) (gMo_cx s0) (gMo_cy s0) (gMo_cz s0) (gMo_solids s0) (gMo_shell s0) (gMo_skin s0) (gMo_period s0) (gMo_reach s0) (gMo_gap s0) (gMo_bytes s0) (gMo_played s0) (gMo_at s0) (gMo_program s0) (gMo_beads s0) (gMo_ring s0)))) gC in_Mo t_Mo ok_Mo n_Mo 0 rfl rfl 5 (by decide) fl_Mo_70 rfl (by decide +kernel) (Nat.le_of_ble_eq_true rfl) rfl d_Mo_drop_82 ?_
        exact gret _ _ _ d_Mo_drop_85 ⟨(mkMo (gMo_thrown s0) (gMo_corners s0) (gMo_px s0) (gMo_py s0) (gMo_pz s0) v1 (gMo_named s0) (gMo_joined s0) ((gMo_dropped s0) + ((gMo_triangles s0) - v1)) (gMo_closed s0) (gMo_layers s0) (gMo_thickness s0) (gMo_cuts s0) (gMo_cx s0) (gMo_cy s0) (gMo_cz s0) (gMo_solids s0) (gMo_shell s0) (gMo_skin s0) (gMo_period s0) (gMo_reach s0) (gMo_gap s0) (gMo_bytes s0) (gMo_played s0) (gMo_at s0) (gMo_program s0) (gMo_beads s0) (gMo_ring s0)), rfl, rfl, h⟩
      · replace h := h.2 hc
        refine v_aload_n gC d_Mo_drop_12 rfl 0 rfl ?_
        refine v_iload_n gC d_Mo_drop_13 rfl 2 rfl ?_
        refine v_callV (rest := []) gC (k_Mo_isFlat l D K d0 v2 s0 _ h) wV_Mo_84 rfl ⟨by omega, by omega, Nat.zero_le _, Nat.zero_le _⟩ 0 rfl rfl [0, 1, 2, 3, 4, 5, 6, 7, 8, 9, 10, 11] [] rfl (by decide) rfl (by decide) (by decide) rfl (Nat.le_of_ble_eq_true rfl) d_Mo_drop_14 (fun v w1 hp => ?_)
        obtain ⟨r3, rfl, rfl, h⟩ := hp
        refine v_after (ws' := (w_Mo K d0 s0)) (st' := [.int (zI r3)]) [0, 1, 2, 3, 4, 5, 6, 7, 8, 9, 10, 11] (by decide) rfl rfl ?_
        obtain ⟨hg4, h⟩ := h
        refine v_if_eq (tgt := 23) gC d_Mo_drop_17 (by decide) hg4 (fun hc => ?_) (fun hc => ?_)
        · replace h := h.1 hc
          refine v_iconst gC d_Mo_drop_23 ?_
          refine v_istore_n (lv' := [(0, .ref (d0 0)), (1, .int (zI v1)), (2, .int (zI v2)), (3, .int (zI 0))]) gC d_Mo_drop_24 rfl (by decide) [1, 2, 3, 0] rfl ?_
          refine v_loc (lv' := [(0, .ref (d0 0)), (1, .int (zI v1)), (2, .int (zI v2)), (3, .int (zI 0))]) [0, 1, 2, 3] rfl ?_
          exact h
        · replace h := h.2 hc
          refine v_goto (tgt := 59) gC d_Mo_drop_20 (by decide) ?_
          refine v_iinc (lv' := [(0, .ref (d0 0)), (1, .int (zI v1)), (2, .int (zI (v2 + 1)))]) gC d_Mo_drop_59 2 rfl (by decide) (v2 + 1) rfl [1, 2, 0] rfl ?_
          refine v_goto (tgt := 4) gC d_Mo_drop_62 (by decide) ?_
          refine v_loc (lv' := [(0, .ref (d0 0)), (1, .int (zI v1)), (2, .int (zI (v2 + 1)))]) [0, 1, 2] rfl ?_
          exact h)
    (by
      intro v1 v2 v3 s0 h
      refine v_iload_n gC d_Mo_drop_25 rfl 3 rfl ?_
      refine v_iconst gC d_Mo_drop_26 ?_
      obtain ⟨hg5, h⟩ := h
      refine v_icmp_ge (tgt := 56) gC d_Mo_drop_27 (by decide) hg5 (by decide) (fun hc => ?_) (fun hc => ?_)
      · replace h := h.1 hc
        refine v_iinc (lv' := [(0, .ref (d0 0)), (1, .int (zI (v1 + 1))), (2, .int (zI v2)), (3, .int (zI v3))]) gC d_Mo_drop_56 1 rfl (by decide) (v1 + 1) rfl [1, 0, 2, 3] rfl ?_
        refine v_iinc (lv' := [(0, .ref (d0 0)), (1, .int (zI (v1 + 1))), (2, .int (zI (v2 + 1))), (3, .int (zI v3))]) gC d_Mo_drop_59 2 rfl (by decide) (v2 + 1) rfl [1, 2, 0, 3] rfl ?_
        refine v_goto (tgt := 4) gC d_Mo_drop_62 (by decide) ?_
        refine v_loc (lv' := [(0, .ref (d0 0)), (1, .int (zI (v1 + 1))), (2, .int (zI (v2 + 1)))]) [0, 1, 2] rfl ?_
        exact h
      · replace h := h.2 hc
        refine v_aload_n gC d_Mo_drop_30 rfl 0 rfl ?_
        refine v_get (v := .ref (d0 4)) gC in_Mo 0 rfl rfl 6 (by decide) fl_Mo_19 rfl d_Mo_drop_31 ?_
        refine v_iconst gC d_Mo_drop_34 ?_
        refine v_iload_n gC d_Mo_drop_35 rfl 1 rfl ?_
        refine v_imul gC d_Mo_drop_36 (3 * v1) rfl ?_
        refine v_iload_n gC d_Mo_drop_37 rfl 3 rfl ?_
        refine v_iadd gC d_Mo_drop_38 ((3 * v1) + v3) rfl ?_
        refine v_aload_n gC d_Mo_drop_39 rfl 0 rfl ?_
        refine v_get (v := .ref (d0 4)) gC in_Mo 0 rfl rfl 6 (by decide) fl_Mo_19 rfl d_Mo_drop_40 ?_
        refine v_iconst gC d_Mo_drop_43 ?_
        refine v_iload_n gC d_Mo_drop_44 rfl 2 rfl ?_
        refine v_imul gC d_Mo_drop_45 (3 * v2) rfl ?_
        refine v_iload_n gC d_Mo_drop_46 rfl 3 rfl ?_
        refine v_iadd gC d_Mo_drop_47 ((3 * v2) + v3) rfl ?_
        obtain ⟨hg6, h⟩ := h
        refine v_iald (g := (gMo_named s0)) gC 4 0 rfl rfl hg6 rfl (by decide) d_Mo_drop_48 ?_
        obtain ⟨hg7, h⟩ := h
        refine v_iast (g := (gMo_named s0)) (ws' := (w_Mo K d0 (mkMo (gMo_thrown s0) (gMo_corners s0) (gMo_px s0) (gMo_py s0) (gMo_pz s0) (gMo_triangles s0) (iset (gMo_named s0) ((3 * v1) + v3) ((gMo_named s0) ((3 * v2) + v3))) (gMo_joined s0) (gMo_dropped s0) (gMo_closed s0) (gMo_layers s0) (gMo_thickness s0) (gMo_cuts s0) (gMo_cx s0) (gMo_cy s0) (gMo_cz s0) (gMo_solids s0) (gMo_shell s0) (gMo_skin s0) (gMo_period s0) (gMo_reach s0) (gMo_gap s0) (gMo_bytes s0) (gMo_played s0) (gMo_at s0) (gMo_program s0) (gMo_beads s0) (gMo_ring s0)))) gC 4 0 rfl rfl hg7 rfl (by decide) rfl d_Mo_drop_49 ?_
        refine v_iinc (lv' := [(0, .ref (d0 0)), (1, .int (zI v1)), (2, .int (zI v2)), (3, .int (zI (v3 + 1)))]) gC d_Mo_drop_50 3 rfl (by decide) (v3 + 1) rfl [1, 2, 3, 0] rfl ?_
        refine v_goto (tgt := 25) gC d_Mo_drop_53 (by decide) ?_
        refine v_loc (lv' := [(0, .ref (d0 0)), (1, .int (zI v1)), (2, .int (zI v2)), (3, .int (zI (v3 + 1)))]) [0, 1, 2, 3] rfl ?_
        exact h)
  refine v_iconst gC d_Mo_drop_0 ?_
  refine v_istore_n (lv' := [(0, .ref (d0 0)), (1, .int (zI 0))]) gC d_Mo_drop_1 rfl (by decide) [1, 0] rfl ?_
  refine v_iconst gC d_Mo_drop_2 ?_
  refine v_istore_n (lv' := [(0, .ref (d0 0)), (1, .int (zI 0)), (2, .int (zI 0))]) gC d_Mo_drop_3 rfl (by decide) [1, 2, 0] rfl ?_
  refine v_loc (lv' := [(0, .ref (d0 0)), (1, .int (zI 0)), (2, .int (zI 0))]) [0, 1, 2] rfl ?_
  exact h
