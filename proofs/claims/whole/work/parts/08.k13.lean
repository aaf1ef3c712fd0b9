set_option maxHeartbeats 4000000 in
set_option maxRecDepth 100000 in
theorem k_Mo_longAt (l : Launch) (D : va_G) (K : Nat → ClassId) (d0 : Nat → Nat) (x1 : Int) (x2 : Int) (s0 : s_Mo) (Q : Int → Prop) (h : wp_Mo_longAt x1 x2 s0 Q) : Kt l D K y_Mo_longAt b_Mo_longAt 4 (some .int) 5 120 [.ref (d0 0), .int (zI x1), .int (zI x2)] (w_Mo K d0 s0) (fun v w1 => ∃ (r : Int), v = some (.int (zI r)) ∧ w1 = (w_Mo K d0 s0) ∧ Q r) := by
  refine Kt.ofI (by decide +kernel) (Nat.le_of_ble_eq_true rfl) (lv0 := [(0, .ref (d0 0)), (1, .int (zI x1)), (2, .int (zI x2))]) rfl ?_
  intro gp ge gR gs gm ga gb gh gc gA gQ gRf gRl gC gret
  unfold wp_Mo_longAt at h
  replace h := h
    (fun (v3 : Int) => V gp l ge gR gs gm ga gb gh gc D gA 4 0 0 gQ (w_Mo K d0 s0) 2 [(0, .ref (d0 0)), (1, .int (zI x1)), (2, .int (zI x2)), (3, .int (zI v3))] [])
    (by
      intro v3 h
      refine v_iload_n gC d_Mo_longAt_2 rfl 2 rfl ?_
      refine v_bipush gC d_Mo_longAt_3 (by decide) ?_
      obtain ⟨hg1, h⟩ := h
      refine v_irem gC d_Mo_longAt_5 hg1 (by decide) (by decide) ?_
      refine v_iload_n gC d_Mo_longAt_6 rfl 3 rfl ?_
      refine v_iadd gC d_Mo_longAt_7 ((Int.tmod x2 12) + v3) rfl ?_
      refine v_bipush gC d_Mo_longAt_8 (by decide) ?_
      obtain ⟨hg2, h⟩ := h
      refine v_icmp_ge (tgt := 50) gC d_Mo_longAt_10 (by decide) hg2 (by decide) (fun hc => ?_) (fun hc => ?_)
      · replace h := h.1 hc
        refine v_iload_n gC d_Mo_longAt_50 rfl 3 rfl ?_
        exact gret _ _ _ _ d_Mo_longAt_51 ⟨v3, rfl, rfl, h⟩
      · replace h := h.2 hc
        refine v_aload_n gC d_Mo_longAt_13 rfl 0 rfl ?_
        refine v_iload_n gC d_Mo_longAt_14 rfl 1 rfl ?_
        refine v_iload_n gC d_Mo_longAt_15 rfl 2 rfl ?_
        refine v_bipush gC d_Mo_longAt_16 (by decide) ?_
        refine v_irem gC d_Mo_longAt_18 hg1 (by decide) (by decide) ?_
        refine v_iload_n gC d_Mo_longAt_19 rfl 3 rfl ?_
        refine v_iadd gC d_Mo_longAt_20 ((Int.tmod x2 12) + v3) rfl ?_
        refine v_iload_n gC d_Mo_longAt_21 rfl 2 rfl ?_
        refine v_bipush gC d_Mo_longAt_22 (by decide) ?_
        refine v_idiv gC d_Mo_longAt_24 hg1 (by decide) (by decide) ?_
        refine v_callV (rest := []) gC (k_Mo_kindOf l D K d0 x1 ((Int.tmod x2 12) + v3) (Int.tdiv x2 12) s0 _ h) wV_Mo_167 rfl ⟨by omega, by omega, Nat.zero_le _, Nat.zero_le _⟩ 0 rfl rfl [0, 1, 2, 3, 4, 5, 6, 7, 8, 9, 10, 11] [] rfl (by decide) rfl (by decide) (by decide) rfl (Nat.le_of_ble_eq_true rfl) d_Mo_longAt_25 (fun v w1 hp => ?_)
        obtain ⟨r3, rfl, rfl, h⟩ := hp
        refine v_after (ws' := (w_Mo K d0 s0)) (st' := [.int (zI r3)]) [0, 1, 2, 3, 4, 5, 6, 7, 8, 9, 10, 11] (by decide) rfl rfl ?_
        refine v_aload_n gC d_Mo_longAt_28 rfl 0 rfl ?_
        refine v_iload_n gC d_Mo_longAt_29 rfl 1 rfl ?_
        refine v_iload_n gC d_Mo_longAt_30 rfl 2 rfl ?_
        refine v_bipush gC d_Mo_longAt_31 (by decide) ?_
        refine v_irem gC d_Mo_longAt_33 hg1 (by decide) (by decide) ?_
        refine v_iload_n gC d_Mo_longAt_34 rfl 2 rfl ?_
        refine v_bipush gC d_Mo_longAt_35 (by decide) ?_
        refine v_idiv gC d_Mo_longAt_37 hg1 (by decide) (by decide) ?_
        refine v_callV (rest := [.int (zI r3)]) gC (k_Mo_kindOf l D K d0 x1 (Int.tmod x2 12) (Int.tdiv x2 12) s0 _ h) wV_Mo_167 rfl ⟨by omega, by omega, Nat.zero_le _, Nat.zero_le _⟩ 0 rfl rfl [0, 1, 2, 3, 4, 5, 6, 7, 8, 9, 10, 11] [] rfl (by decide) rfl (by decide) (by decide) rfl (Nat.le_of_ble_eq_true rfl) d_Mo_longAt_38 (fun v w1 hp => ?_)
        obtain ⟨r4, rfl, rfl, h⟩ := hp
        refine v_after (ws' := (w_Mo K d0 s0)) (st' := [.int (zI r4), .int (zI r3)]) [0, 1, 2, 3, 4, 5, 6, 7, 8, 9, 10, 11] (by decide) rfl rfl ?_
        obtain ⟨hg5, hg6, h⟩ := h
        refine v_icmp_ne (tgt := 50) gC d_Mo_longAt_41 (by decide) hg5 hg6 (fun hc => ?_) (fun hc => ?_)
        · replace h := h.1 hc
          refine v_iload_n gC d_Mo_longAt_50 rfl 3 rfl ?_
          exact gret _ _ _ _ d_Mo_longAt_51 ⟨v3, rfl, rfl, h⟩
        · replace h := h.2 hc
          refine v_iinc (lv' := [(0, .ref (d0 0)), (1, .int (zI x1)), (2, .int (zI x2)), (3, .int (zI (v3 + 1)))]) gC d_Mo_longAt_44 3 rfl (by decide) (v3 + 1) rfl [1, 2, 3, 0] rfl ?_
          refine v_goto (tgt := 2) gC d_Mo_longAt_47 (by decide) ?_
          refine v_loc (lv' := [(0, .ref (d0 0)), (1, .int (zI x1)), (2, .int (zI x2)), (3, .int (zI (v3 + 1)))]) [0, 1, 2, 3] rfl ?_
          exact h)
  refine v_iconst gC d_Mo_longAt_0 ?_
  refine v_istore_n (lv' := [(0, .ref (d0 0)), (1, .int (zI x1)), (2, .int (zI x2)), (3, .int (zI 1))]) gC d_Mo_longAt_1 rfl (by decide) [1, 2, 3, 0] rfl ?_
  refine v_loc (lv' := [(0, .ref (d0 0)), (1, .int (zI x1)), (2, .int (zI x2)), (3, .int (zI 1))]) [0, 1, 2, 3] rfl ?_
  exact h

set_option maxHeartbeats 4000000 in
set_option maxRecDepth 100000 in
theorem k_Mo_pathsOf (l : Launch) (D : va_G) (K : Nat → ClassId) (d0 : Nat → Nat) (x1 : Int) (s0 : s_Mo) (Q : Int → Prop) (h : wp_Mo_pathsOf x1 s0 Q) : Kt l D K y_Mo_pathsOf b_Mo_pathsOf 3 (some .int) 6 145 [.ref (d0 0), .int (zI x1)] (w_Mo K d0 s0) (fun v w1 => ∃ (r : Int), v = some (.int (zI r)) ∧ w1 = (w_Mo K d0 s0) ∧ Q r) := by
  refine Kt.ofI (by decide +kernel) (Nat.le_of_ble_eq_true rfl) (lv0 := [(0, .ref (d0 0)), (1, .int (zI x1))]) rfl ?_
  intro gp ge gR gs gm ga gb gh gc gA gQ gRf gRl gC gret
  unfold wp_Mo_pathsOf at h
  replace h := h
    (fun (v2 : Int) => V gp l ge gR gs gm ga gb gh gc D gA 3 0 0 gQ (w_Mo K d0 s0) 2 [(0, .ref (d0 0)), (1, .int (zI x1)), (2, .int (zI v2))] [])
    (by
      intro v2 h
      refine v_iload_n gC d_Mo_pathsOf_2 rfl 1 rfl ?_
      refine v_iconst gC d_Mo_pathsOf_3 ?_
      refine v_aload_n gC d_Mo_pathsOf_4 rfl 0 rfl ?_
      refine v_get (v := .int (zI (gMo_layers s0))) gC in_Mo 0 rfl rfl 10 (by decide) fl_Mo_116 rfl d_Mo_pathsOf_5 ?_
      refine v_iconst gC d_Mo_pathsOf_8 ?_
      refine v_isub gC d_Mo_pathsOf_9 ((gMo_layers s0) - 1) rfl ?_
      refine v_callS (rest := []) gC (k_Mo_in l D K x1 0 ((gMo_layers s0) - 1) _ h) wS_Mo_66 rfl ⟨by omega, by omega, Nat.zero_le _, Nat.zero_le _⟩ [] [0, 1, 2, 3, 4, 5, 6, 7, 8, 9, 10, 11] rfl (by decide) rfl (by decide) (by decide) rfl (Nat.le_of_ble_eq_true rfl) d_Mo_pathsOf_10 (fun v w1 hp => ?_)
      obtain ⟨r1, rfl, rfl, h⟩ := hp
      refine v_after (ws' := (w_Mo K d0 s0)) (st' := [.int (zI r1)]) [0, 1, 2, 3, 4, 5, 6, 7, 8, 9, 10, 11] (by decide) rfl rfl ?_
      obtain ⟨hg2, h⟩ := h
      refine v_if_eq (tgt := 31) gC d_Mo_pathsOf_13 (by decide) hg2 (fun hc => ?_) (fun hc => ?_)
      · replace h := h.1 hc
        refine v_iload_n gC d_Mo_pathsOf_31 rfl 2 rfl ?_
        exact gret _ _ _ _ d_Mo_pathsOf_32 ⟨v2, rfl, rfl, h⟩
      · replace h := h.2 hc
        refine v_aload_n gC d_Mo_pathsOf_16 rfl 0 rfl ?_
        refine v_iload_n gC d_Mo_pathsOf_17 rfl 1 rfl ?_
        refine v_iload_n gC d_Mo_pathsOf_18 rfl 2 rfl ?_
        refine v_callV (rest := []) gC (k_Mo_begins l D K d0 x1 v2 s0 _ h) wV_Mo_173 rfl ⟨by omega, by omega, Nat.zero_le _, Nat.zero_le _⟩ 0 rfl rfl [0, 1, 2, 3, 4, 5, 6, 7, 8, 9, 10, 11] [] rfl (by decide) rfl (by decide) (by decide) rfl (Nat.le_of_ble_eq_true rfl) d_Mo_pathsOf_19 (fun v w1 hp => ?_)
        obtain ⟨r3, rfl, rfl, h⟩ := hp
        refine v_after (ws' := (w_Mo K d0 s0)) (st' := [.int (zI r3)]) [0, 1, 2, 3, 4, 5, 6, 7, 8, 9, 10, 11] (by decide) rfl rfl ?_
        obtain ⟨hg4, h⟩ := h
        refine v_if_lt (tgt := 31) gC d_Mo_pathsOf_22 (by decide) hg4 (fun hc => ?_) (fun hc => ?_)
        · replace h := h.1 hc
          refine v_iload_n gC d_Mo_pathsOf_31 rfl 2 rfl ?_
          exact gret _ _ _ _ d_Mo_pathsOf_32 ⟨v2, rfl, rfl, h⟩
        · replace h := h.2 hc
          refine v_iinc (lv' := [(0, .ref (d0 0)), (1, .int (zI x1)), (2, .int (zI (v2 + 1)))]) gC d_Mo_pathsOf_25 2 rfl (by decide) (v2 + 1) rfl [1, 2, 0] rfl ?_
          refine v_goto (tgt := 2) gC d_Mo_pathsOf_28 (by decide) ?_
          refine v_loc (lv' := [(0, .ref (d0 0)), (1, .int (zI x1)), (2, .int (zI (v2 + 1)))]) [0, 1, 2] rfl ?_
          exact h)
  refine v_iconst gC d_Mo_pathsOf_0 ?_
  refine v_istore_n (lv' := [(0, .ref (d0 0)), (1, .int (zI x1)), (2, .int (zI 0))]) gC d_Mo_pathsOf_1 rfl (by decide) [1, 2, 0] rfl ?_
  refine v_loc (lv' := [(0, .ref (d0 0)), (1, .int (zI x1)), (2, .int (zI 0))]) [0, 1, 2] rfl ?_
  exact h

set_option maxHeartbeats 4000000 in
set_option maxRecDepth 100000 in
theorem k_Mo_paths (l : Launch) (D : va_G) (K : Nat → ClassId) (d0 : Nat → Nat) (x1 : Int) (s0 : s_Mo) (Q : Int → s_Mo → Prop) (h : wp_Mo_paths x1 s0 Q) : Kt l D K y_Mo_paths b_Mo_paths 2 (some .int) 7 167 [.ref (d0 0), .int (zI x1)] (w_Mo K d0 s0) (fun v w1 => ∃ (r : Int), ∃ (u0 : s_Mo), v = some (.int (zI r)) ∧ w1 = (w_Mo K d0 u0) ∧ Q r u0) := by
  refine Kt.ofI (by decide +kernel) (Nat.le_of_ble_eq_true rfl) (lv0 := [(0, .ref (d0 0)), (1, .int (zI x1))]) rfl ?_
  intro gp ge gR gs gm ga gb gh gc gA gQ gRf gRl gC gret
  unfold wp_Mo_paths at h
  refine v_aload_n gC d_Mo_paths_0 rfl 0 rfl ?_
  refine v_iconst gC d_Mo_paths_1 ?_
  refine v_puti (ws' := (w_Mo K d0 (mkMo 0 (gMo_corners s0) (gMo_px s0) (gMo_py s0) (gMo_pz s0) (gMo_triangles s0) (gMo_named s0) (gMo_joined s0) (gMo_dropped s0) (gMo_closed s0) (gMo_layers s0) (gMo_thickness s0) (gMo_cuts s0) (gMo_cx s0) (gMo_cy s0) (gMo_cz s0) (gMo_solids s0) (gMo_shell s0) (gMo_skin s0) (gMo_period s0) (gMo_reach s0) (gMo_gap s0) (gMo_bytes s0) (gMo_played s0) (gMo_at s0) (gMo_program s0) (gMo_beads s0) (gMo_ring s0)))) gC in_Mo t_Mo ok_Mo n_Mo 0 rfl rfl 0 (by decide) fl_Mo_60 rfl (by decide +kernel) (Nat.le_of_ble_eq_true rfl) rfl d_Mo_paths_2 ?_
  refine v_aload_n gC d_Mo_paths_5 rfl 0 rfl ?_
  refine v_iload_n gC d_Mo_paths_6 rfl 1 rfl ?_
  refine v_callV (rest := []) gC (k_Mo_pathsOf l D K d0 x1 (mkMo 0 (gMo_corners s0) (gMo_px s0) (gMo_py s0) (gMo_pz s0) (gMo_triangles s0) (gMo_named s0) (gMo_joined s0) (gMo_dropped s0) (gMo_closed s0) (gMo_layers s0) (gMo_thickness s0) (gMo_cuts s0) (gMo_cx s0) (gMo_cy s0) (gMo_cz s0) (gMo_solids s0) (gMo_shell s0) (gMo_skin s0) (gMo_period s0) (gMo_reach s0) (gMo_gap s0) (gMo_bytes s0) (gMo_played s0) (gMo_at s0) (gMo_program s0) (gMo_beads s0) (gMo_ring s0)) _ h) wV_Mo_176 rfl ⟨by omega, by omega, Nat.zero_le _, Nat.zero_le _⟩ 0 rfl rfl [0, 1, 2, 3, 4, 5, 6, 7, 8, 9, 10, 11] [] rfl (by decide) rfl (by decide) (by decide) rfl (Nat.le_of_ble_eq_true rfl) d_Mo_paths_7 (fun v w1 hp => ?_)
  obtain ⟨r1, rfl, rfl, h⟩ := hp
  refine v_after (ws' := (w_Mo K d0 (mkMo 0 (gMo_corners s0) (gMo_px s0) (gMo_py s0) (gMo_pz s0) (gMo_triangles s0) (gMo_named s0) (gMo_joined s0) (gMo_dropped s0) (gMo_closed s0) (gMo_layers s0) (gMo_thickness s0) (gMo_cuts s0) (gMo_cx s0) (gMo_cy s0) (gMo_cz s0) (gMo_solids s0) (gMo_shell s0) (gMo_skin s0) (gMo_period s0) (gMo_reach s0) (gMo_gap s0) (gMo_bytes s0) (gMo_played s0) (gMo_at s0) (gMo_program s0) (gMo_beads s0) (gMo_ring s0)))) (st' := [.int (zI r1)]) [0, 1, 2, 3, 4, 5, 6, 7, 8, 9, 10, 11] (by decide) rfl rfl ?_
  exact gret _ _ _ _ d_Mo_paths_10 ⟨r1, (mkMo 0 (gMo_corners s0) (gMo_px s0) (gMo_py s0) (gMo_pz s0) (gMo_triangles s0) (gMo_named s0) (gMo_joined s0) (gMo_dropped s0) (gMo_closed s0) (gMo_layers s0) (gMo_thickness s0) (gMo_cuts s0) (gMo_cx s0) (gMo_cy s0) (gMo_cz s0) (gMo_solids s0) (gMo_shell s0) (gMo_skin s0) (gMo_period s0) (gMo_reach s0) (gMo_gap s0) (gMo_bytes s0) (gMo_played s0) (gMo_at s0) (gMo_program s0) (gMo_beads s0) (gMo_ring s0)), rfl, rfl, h⟩

set_option maxHeartbeats 4000000 in
set_option maxRecDepth 100000 in
theorem k_Mo_path (l : Launch) (D : va_G) (K : Nat → ClassId) (d0 : Nat → Nat) (x1 : Int) (x2 : Int) (x3 : Int) (s0 : s_Mo) (Q : Int → s_Mo → Prop) (h : wp_Mo_path x1 x2 x3 s0 Q) : Kt l D K y_Mo_path b_Mo_path 5 (some .int) 6 145 [.ref (d0 0), .int (zI x1), .int (zI x2), .int (zI x3)] (w_Mo K d0 s0) (fun v w1 => ∃ (r : Int), ∃ (u0 : s_Mo), v = some (.int (zI r)) ∧ w1 = (w_Mo K d0 u0) ∧ Q r u0) := by
  refine Kt.ofI (by decide +kernel) (Nat.le_of_ble_eq_true rfl) (lv0 := [(0, .ref (d0 0)), (1, .int (zI x1)), (2, .int (zI x2)), (3, .int (zI x3))]) rfl ?_
  intro gp ge gR gs gm ga gb gh gc gA gQ gRf gRl gC gret
  unfold wp_Mo_path at h
  replace h := h
    (fun (v4 : Int) (t0 : Int) (s0 : s_Mo) => V gp l ge gR gs gm ga gb gh gc D gA 5 0 0 gQ (w_Mo K d0 s0) 50 [(0, .ref (d0 0)), (1, .int (zI x1)), (3, .int (zI x3)), (4, .int (zI v4))] [.int (zI t0), .ref (d0 0)])
    (by
      intro v4 t0 s0 h
      refine v_puti (ws' := (w_Mo K d0 (mkMo t0 (gMo_corners s0) (gMo_px s0) (gMo_py s0) (gMo_pz s0) (gMo_triangles s0) (gMo_named s0) (gMo_joined s0) (gMo_dropped s0) (gMo_closed s0) (gMo_layers s0) (gMo_thickness s0) (gMo_cuts s0) (gMo_cx s0) (gMo_cy s0) (gMo_cz s0) (gMo_solids s0) (gMo_shell s0) (gMo_skin s0) (gMo_period s0) (gMo_reach s0) (gMo_gap s0) (gMo_bytes s0) (gMo_played s0) (gMo_at s0) (gMo_program s0) (gMo_beads s0) (gMo_ring s0)))) gC in_Mo t_Mo ok_Mo n_Mo 0 rfl rfl 0 (by decide) fl_Mo_60 rfl (by decide +kernel) (Nat.le_of_ble_eq_true rfl) rfl d_Mo_path_50 ?_
      refine v_iload gC d_Mo_path_53 3 rfl ?_
      obtain ⟨hg8, h⟩ := h
      refine v_if_ge (tgt := 60) gC d_Mo_path_55 (by decide) hg8 (fun hc => ?_) (fun hc => ?_)
      · replace h := h.1 hc
        refine v_iload_n gC d_Mo_path_60 rfl 2 rfl ?_
        obtain ⟨hg9, h⟩ := h
        refine v_if_ne (tgt := 82) gC d_Mo_path_61 (by decide) hg9 (fun hc => ?_) (fun hc => ?_)
        · replace h := h.1 hc
          refine v_iload_n gC d_Mo_path_82 rfl 2 rfl ?_
          refine v_iconst gC d_Mo_path_83 ?_
          refine v_icmp_ne (tgt := 95) gC d_Mo_path_84 (by decide) hg9 (by decide) (fun hc => ?_) (fun hc => ?_)
          · replace h := h.1 hc
            refine v_iload_n gC d_Mo_path_95 rfl 2 rfl ?_
            refine v_iconst gC d_Mo_path_96 ?_
            refine v_icmp_ne (tgt := 108) gC d_Mo_path_97 (by decide) hg9 (by decide) (fun hc => ?_) (fun hc => ?_)
            · replace h := h.1 hc
              refine v_aload_n gC d_Mo_path_108 rfl 0 rfl ?_
              refine v_iload_n gC d_Mo_path_109 rfl 1 rfl ?_
              refine v_iload gC d_Mo_path_110 3 rfl ?_
              refine v_callV (rest := []) gC (k_Mo_longAt l D K d0 x1 v4 (mkMo t0 (gMo_corners s0) (gMo_px s0) (gMo_py s0) (gMo_pz s0) (gMo_triangles s0) (gMo_named s0) (gMo_joined s0) (gMo_dropped s0) (gMo_closed s0) (gMo_layers s0) (gMo_thickness s0) (gMo_cuts s0) (gMo_cx s0) (gMo_cy s0) (gMo_cz s0) (gMo_solids s0) (gMo_shell s0) (gMo_skin s0) (gMo_period s0) (gMo_reach s0) (gMo_gap s0) (gMo_bytes s0) (gMo_played s0) (gMo_at s0) (gMo_program s0) (gMo_beads s0) (gMo_ring s0)) _ h) wV_Mo_179 rfl ⟨by omega, by omega, Nat.zero_le _, Nat.zero_le _⟩ 0 rfl rfl [0, 1, 2, 3, 4, 5, 6, 7, 8, 9, 10, 11] [] rfl (by decide) rfl (by decide) (by decide) rfl (Nat.le_of_ble_eq_true rfl) d_Mo_path_112 (fun v w1 hp => ?_)
              obtain ⟨r10, rfl, rfl, h⟩ := hp
              refine v_after (ws' := (w_Mo K d0 (mkMo t0 (gMo_corners s0) (gMo_px s0) (gMo_py s0) (gMo_pz s0) (gMo_triangles s0) (gMo_named s0) (gMo_joined s0) (gMo_dropped s0) (gMo_closed s0) (gMo_layers s0) (gMo_thickness s0) (gMo_cuts s0) (gMo_cx s0) (gMo_cy s0) (gMo_cz s0) (gMo_solids s0) (gMo_shell s0) (gMo_skin s0) (gMo_period s0) (gMo_reach s0) (gMo_gap s0) (gMo_bytes s0) (gMo_played s0) (gMo_at s0) (gMo_program s0) (gMo_beads s0) (gMo_ring s0)))) (st' := [.int (zI r10)]) [0, 1, 2, 3, 4, 5, 6, 7, 8, 9, 10, 11] (by decide) rfl rfl ?_
              exact gret _ _ _ _ d_Mo_path_115 ⟨r10, (mkMo t0 (gMo_corners s0) (gMo_px s0) (gMo_py s0) (gMo_pz s0) (gMo_triangles s0) (gMo_named s0) (gMo_joined s0) (gMo_dropped s0) (gMo_closed s0) (gMo_layers s0) (gMo_thickness s0) (gMo_cuts s0) (gMo_cx s0) (gMo_cy s0) (gMo_cz s0) (gMo_solids s0) (gMo_shell s0) (gMo_skin s0) (gMo_period s0) (gMo_reach s0) (gMo_gap s0) (gMo_bytes s0) (gMo_played s0) (gMo_at s0) (gMo_program s0) (gMo_beads s0) (gMo_ring s0)), rfl, rfl, h⟩
            · replace h := h.2 hc
              refine v_iload gC d_Mo_path_100 3 rfl ?_
              refine v_bipush gC d_Mo_path_102 (by decide) ?_
              refine v_idiv gC d_Mo_path_104 hg8 (by decide) (by decide) ?_
              refine v_goto (tgt := 115) gC d_Mo_path_105 (by decide) ?_
              exact gret _ _ _ _ d_Mo_path_115 ⟨Int.tdiv v4 12, (mkMo t0 (gMo_corners s0) (gMo_px s0) (gMo_py s0) (gMo_pz s0) (gMo_triangles s0) (gMo_named s0) (gMo_joined s0) (gMo_dropped s0) (gMo_closed s0) (gMo_layers s0) (gMo_thickness s0) (gMo_cuts s0) (gMo_cx s0) (gMo_cy s0) (gMo_cz s0) (gMo_solids s0) (gMo_shell s0) (gMo_skin s0) (gMo_period s0) (gMo_reach s0) (gMo_gap s0) (gMo_bytes s0) (gMo_played s0) (gMo_at s0) (gMo_program s0) (gMo_beads s0) (gMo_ring s0)), rfl, rfl, h⟩
          · replace h := h.2 hc
            refine v_iload gC d_Mo_path_87 3 rfl ?_
            refine v_bipush gC d_Mo_path_89 (by decide) ?_
            refine v_irem gC d_Mo_path_91 hg8 (by decide) (by decide) ?_
            refine v_goto (tgt := 115) gC d_Mo_path_92 (by decide) ?_
            exact gret _ _ _ _ d_Mo_path_115 ⟨Int.tmod v4 12, (mkMo t0 (gMo_corners s0) (gMo_px s0) (gMo_py s0) (gMo_pz s0) (gMo_triangles s0) (gMo_named s0) (gMo_joined s0) (gMo_dropped s0) (gMo_closed s0) (gMo_layers s0) (gMo_thickness s0) (gMo_cuts s0) (gMo_cx s0) (gMo_cy s0) (gMo_cz s0) (gMo_solids s0) (gMo_shell s0) (gMo_skin s0) (gMo_period s0) (gMo_reach s0) (gMo_gap s0) (gMo_bytes s0) (gMo_played s0) (gMo_at s0) (gMo_program s0) (gMo_beads s0) (gMo_ring s0)), rfl, rfl, h⟩
        · replace h := h.2 hc
          refine v_aload_n gC d_Mo_path_64 rfl 0 rfl ?_
          refine v_iload_n gC d_Mo_path_65 rfl 1 rfl ?_
          refine v_iload gC d_Mo_path_66 3 rfl ?_
          refine v_bipush gC d_Mo_path_68 (by decide) ?_
          refine v_irem gC d_Mo_path_70 hg8 (by decide) (by decide) ?_
          refine v_iload gC d_Mo_path_71 3 rfl ?_
          refine v_bipush gC d_Mo_path_73 (by decide) ?_
          refine v_idiv gC d_Mo_path_75 hg8 (by decide) (by decide) ?_
          refine v_callV (rest := []) gC (k_Mo_kindOf l D K d0 x1 (Int.tmod v4 12) (Int.tdiv v4 12) (mkMo t0 (gMo_corners s0) (gMo_px s0) (gMo_py s0) (gMo_pz s0) (gMo_triangles s0) (gMo_named s0) (gMo_joined s0) (gMo_dropped s0) (gMo_closed s0) (gMo_layers s0) (gMo_thickness s0) (gMo_cuts s0) (gMo_cx s0) (gMo_cy s0) (gMo_cz s0) (gMo_solids s0) (gMo_shell s0) (gMo_skin s0) (gMo_period s0) (gMo_reach s0) (gMo_gap s0) (gMo_bytes s0) (gMo_played s0) (gMo_at s0) (gMo_program s0) (gMo_beads s0) (gMo_ring s0)) _ h) wV_Mo_167 rfl ⟨by omega, by omega, Nat.zero_le _, Nat.zero_le _⟩ 0 rfl rfl [0, 1, 2, 3, 4, 5, 6, 7, 8, 9, 10, 11] [] rfl (by decide) rfl (by decide) (by decide) rfl (Nat.le_of_ble_eq_true rfl) d_Mo_path_76 (fun v w1 hp => ?_)
          obtain ⟨r11, rfl, rfl, h⟩ := hp
          refine v_after (ws' := (w_Mo K d0 (mkMo t0 (gMo_corners s0) (gMo_px s0) (gMo_py s0) (gMo_pz s0) (gMo_triangles s0) (gMo_named s0) (gMo_joined s0) (gMo_dropped s0) (gMo_closed s0) (gMo_layers s0) (gMo_thickness s0) (gMo_cuts s0) (gMo_cx s0) (gMo_cy s0) (gMo_cz s0) (gMo_solids s0) (gMo_shell s0) (gMo_skin s0) (gMo_period s0) (gMo_reach s0) (gMo_gap s0) (gMo_bytes s0) (gMo_played s0) (gMo_at s0) (gMo_program s0) (gMo_beads s0) (gMo_ring s0)))) (st' := [.int (zI r11)]) [0, 1, 2, 3, 4, 5, 6, 7, 8, 9, 10, 11] (by decide) rfl rfl ?_
          refine v_goto (tgt := 115) gC d_Mo_path_79 (by decide) ?_
          exact gret _ _ _ _ d_Mo_path_115 ⟨r11, (mkMo t0 (gMo_corners s0) (gMo_px s0) (gMo_py s0) (gMo_pz s0) (gMo_triangles s0) (gMo_named s0) (gMo_joined s0) (gMo_dropped s0) (gMo_closed s0) (gMo_layers s0) (gMo_thickness s0) (gMo_cuts s0) (gMo_cx s0) (gMo_cy s0) (gMo_cz s0) (gMo_solids s0) (gMo_shell s0) (gMo_skin s0) (gMo_period s0) (gMo_reach s0) (gMo_gap s0) (gMo_bytes s0) (gMo_played s0) (gMo_at s0) (gMo_program s0) (gMo_beads s0) (gMo_ring s0)), rfl, rfl, h⟩
      · replace h := h.2 hc
        refine v_iconst gC d_Mo_path_58 ?_
        exact gret _ _ _ _ d_Mo_path_59 ⟨0, (mkMo t0 (gMo_corners s0) (gMo_px s0) (gMo_py s0) (gMo_pz s0) (gMo_triangles s0) (gMo_named s0) (gMo_joined s0) (gMo_dropped s0) (gMo_closed s0) (gMo_layers s0) (gMo_thickness s0) (gMo_cuts s0) (gMo_cx s0) (gMo_cy s0) (gMo_cz s0) (gMo_solids s0) (gMo_shell s0) (gMo_skin s0) (gMo_period s0) (gMo_reach s0) (gMo_gap s0) (gMo_bytes s0) (gMo_played s0) (gMo_at s0) (gMo_program s0) (gMo_beads s0) (gMo_ring s0)), rfl, rfl, h⟩)
  refine v_iload_n gC d_Mo_path_0 rfl 1 rfl ?_
  refine v_iconst gC d_Mo_path_1 ?_
  refine v_aload_n gC d_Mo_path_2 rfl 0 rfl ?_
  refine v_get (v := .int (zI (gMo_layers s0))) gC in_Mo 0 rfl rfl 10 (by decide) fl_Mo_116 rfl d_Mo_path_3 ?_
  refine v_iconst gC d_Mo_path_6 ?_
  refine v_isub gC d_Mo_path_7 ((gMo_layers s0) - 1) rfl ?_
  refine v_callS (rest := []) gC (k_Mo_in l D K x1 0 ((gMo_layers s0) - 1) _ h) wS_Mo_66 rfl ⟨by omega, by omega, Nat.zero_le _, Nat.zero_le _⟩ [] [0, 1, 2, 3, 4, 5, 6, 7, 8, 9, 10, 11] rfl (by decide) rfl (by decide) (by decide) rfl (Nat.le_of_ble_eq_true rfl) d_Mo_path_8 (fun v w1 hp => ?_)
  obtain ⟨r1, rfl, rfl, h⟩ := hp
  refine v_after (ws' := (w_Mo K d0 s0)) (st' := [.int (zI r1)]) [0, 1, 2, 3, 4, 5, 6, 7, 8, 9, 10, 11] (by decide) rfl rfl ?_
  obtain ⟨hg2, h⟩ := h
  refine v_if_eq (tgt := 36) gC d_Mo_path_11 (by decide) hg2 (fun hc => ?_) (fun hc => ?_)
  · replace h := h.1 hc
    refine v_iconst gC d_Mo_path_36 ?_
    refine v_istore (lv' := [(0, .ref (d0 0)), (1, .int (zI x1)), (2, .int (zI x2)), (3, .int (zI x3)), (4, .int (zI (-1)))]) gC d_Mo_path_37 (by decide) [1, 2, 3, 4, 0] rfl ?_
    refine v_aload_n gC d_Mo_path_39 rfl 0 rfl ?_
    refine v_iload gC d_Mo_path_40 4 rfl ?_
    refine v_if_lt (tgt := 49) gC d_Mo_path_42 (by decide) (by decide) (fun hc => ?_) (fun hc => ?_)
    · skip
      refine v_iconst gC d_Mo_path_49 ?_
      refine v_loc (lv' := [(0, .ref (d0 0)), (1, .int (zI x1)), (3, .int (zI x3)), (4, .int (zI (-1)))]) [0, 1, 3, 4] rfl ?_
      exact h
    · exact absurd hc (by decide)
  · replace h := h.2 hc
    refine v_iload_n gC d_Mo_path_14 rfl 2 rfl ?_
    obtain ⟨hg3, h⟩ := h
    refine v_if_lt (tgt := 36) gC d_Mo_path_15 (by decide) hg3 (fun hc => ?_) (fun hc => ?_)
    · replace h := h.1 hc
      refine v_iconst gC d_Mo_path_36 ?_
      refine v_istore (lv' := [(0, .ref (d0 0)), (1, .int (zI x1)), (2, .int (zI x2)), (3, .int (zI x3)), (4, .int (zI (-1)))]) gC d_Mo_path_37 (by decide) [1, 2, 3, 4, 0] rfl ?_
      refine v_aload_n gC d_Mo_path_39 rfl 0 rfl ?_
      refine v_iload gC d_Mo_path_40 4 rfl ?_
      refine v_if_lt (tgt := 49) gC d_Mo_path_42 (by decide) (by decide) (fun hc => ?_) (fun hc => ?_)
      · skip
        refine v_iconst gC d_Mo_path_49 ?_
        refine v_loc (lv' := [(0, .ref (d0 0)), (1, .int (zI x1)), (3, .int (zI x3)), (4, .int (zI (-1)))]) [0, 1, 3, 4] rfl ?_
        exact h
      · exact absurd hc (by decide)
    · replace h := h.2 hc
      refine v_iload_n gC d_Mo_path_18 rfl 3 rfl ?_
      refine v_iconst gC d_Mo_path_19 ?_
      refine v_iconst gC d_Mo_path_20 ?_
      refine v_callS (rest := []) gC (k_Mo_in l D K x3 0 3 _ h) wS_Mo_66 rfl ⟨by omega, by omega, Nat.zero_le _, Nat.zero_le _⟩ [] [0, 1, 2, 3, 4, 5, 6, 7, 8, 9, 10, 11] rfl (by decide) rfl (by decide) (by decide) rfl (Nat.le_of_ble_eq_true rfl) d_Mo_path_21 (fun v w1 hp => ?_)
      obtain ⟨r4, rfl, rfl, h⟩ := hp
      refine v_after (ws' := (w_Mo K d0 s0)) (st' := [.int (zI r4)]) [0, 1, 2, 3, 4, 5, 6, 7, 8, 9, 10, 11] (by decide) rfl rfl ?_
      obtain ⟨hg5, h⟩ := h
      refine v_if_eq (tgt := 36) gC d_Mo_path_24 (by decide) hg5 (fun hc => ?_) (fun hc => ?_)
      · replace h := h.1 hc
        refine v_iconst gC d_Mo_path_36 ?_
        refine v_istore (lv' := [(0, .ref (d0 0)), (1, .int (zI x1)), (2, .int (zI x2)), (3, .int (zI x3)), (4, .int (zI (-1)))]) gC d_Mo_path_37 (by decide) [1, 2, 3, 4, 0] rfl ?_
        refine v_aload_n gC d_Mo_path_39 rfl 0 rfl ?_
        refine v_iload gC d_Mo_path_40 4 rfl ?_
        refine v_if_lt (tgt := 49) gC d_Mo_path_42 (by decide) (by decide) (fun hc => ?_) (fun hc => ?_)
        · skip
          refine v_iconst gC d_Mo_path_49 ?_
          refine v_loc (lv' := [(0, .ref (d0 0)), (1, .int (zI x1)), (3, .int (zI x3)), (4, .int (zI (-1)))]) [0, 1, 3, 4] rfl ?_
          exact h
        · exact absurd hc (by decide)
      · replace h := h.2 hc
        refine v_aload_n gC d_Mo_path_27 rfl 0 rfl ?_
        refine v_iload_n gC d_Mo_path_28 rfl 1 rfl ?_
        refine v_iload_n gC d_Mo_path_29 rfl 2 rfl ?_
        refine v_callV (rest := []) gC (k_Mo_begins l D K d0 x1 x2 s0 _ h) wV_Mo_173 rfl ⟨by omega, by omega, Nat.zero_le _, Nat.zero_le _⟩ 0 rfl rfl [0, 1, 2, 3, 4, 5, 6, 7, 8, 9, 10, 11] [] rfl (by decide) rfl (by decide) (by decide) rfl (Nat.le_of_ble_eq_true rfl) d_Mo_path_30 (fun v w1 hp => ?_)
        obtain ⟨r6, rfl, rfl, h⟩ := hp
        refine v_after (ws' := (w_Mo K d0 s0)) (st' := [.int (zI r6)]) [0, 1, 2, 3, 4, 5, 6, 7, 8, 9, 10, 11] (by decide) rfl rfl ?_
        refine v_goto (tgt := 37) gC d_Mo_path_33 (by decide) ?_
        refine v_istore (lv' := [(0, .ref (d0 0)), (1, .int (zI x1)), (2, .int (zI x2)), (3, .int (zI x3)), (4, .int (zI r6))]) gC d_Mo_path_37 (by decide) [1, 2, 3, 4, 0] rfl ?_
        refine v_aload_n gC d_Mo_path_39 rfl 0 rfl ?_
        refine v_iload gC d_Mo_path_40 4 rfl ?_
        obtain ⟨hg7, h⟩ := h
        refine v_if_lt (tgt := 49) gC d_Mo_path_42 (by decide) hg7 (fun hc => ?_) (fun hc => ?_)
        · replace h := h.1 hc
          refine v_iconst gC d_Mo_path_49 ?_
          refine v_loc (lv' := [(0, .ref (d0 0)), (1, .int (zI x1)), (3, .int (zI x3)), (4, .int (zI r6))]) [0, 1, 3, 4] rfl ?_
          exact h
        · replace h := h.2 hc
          refine v_iconst gC d_Mo_path_45 ?_
          refine v_goto (tgt := 50) gC d_Mo_path_46 (by decide) ?_
          refine v_loc (lv' := [(0, .ref (d0 0)), (1, .int (zI x1)), (3, .int (zI x3)), (4, .int (zI r6))]) [0, 1, 3, 4] rfl ?_
          exact h

set_option maxHeartbeats 4000000 in
set_option maxRecDepth 100000 in
theorem k_Mo_put (l : Launch) (D : va_G) (K : Nat → ClassId) (d0 : Nat → Nat) (x1 : Int) (s0 : s_Mo) (Q : s_Mo → Prop) (h : wp_Mo_put x1 s0 Q) : Kt l D K y_Mo_put b_Mo_put 2 none 0 0 [.ref (d0 0), .int (zI x1)] (w_Mo K d0 s0) (fun v w1 => ∃ (u0 : s_Mo), v = none ∧ w1 = (w_Mo K d0 u0) ∧ Q u0) := by
  refine Kt.ofV (by decide +kernel) (Nat.le_of_ble_eq_true rfl) (lv0 := [(0, .ref (d0 0)), (1, .int (zI x1))]) rfl ?_
  intro gp ge gR gs gm ga gb gh gc gA gQ gRf gRl gC gret
  unfold wp_Mo_put at h
  refine v_aload_n gC d_Mo_put_0 rfl 0 rfl ?_
  refine v_get (v := .ref (d0 9)) gC in_Mo 0 rfl rfl 25 (by decide) fl_Mo_35 rfl d_Mo_put_1 ?_
  refine v_aload_n gC d_Mo_put_4 rfl 0 rfl ?_
  refine v_get (v := .int (zI (gMo_bytes s0))) gC in_Mo 0 rfl rfl 22 (by decide) fl_Mo_125 rfl d_Mo_put_5 ?_
  refine v_iload_n gC d_Mo_put_8 rfl 1 rfl ?_
  obtain ⟨hg1, h⟩ := h
  refine v_iast (g := (gMo_program s0)) (ws' := (w_Mo K d0 (mkMo (gMo_thrown s0) (gMo_corners s0) (gMo_px s0) (gMo_py s0) (gMo_pz s0) (gMo_triangles s0) (gMo_named s0) (gMo_joined s0) (gMo_dropped s0) (gMo_closed s0) (gMo_layers s0) (gMo_thickness s0) (gMo_cuts s0) (gMo_cx s0) (gMo_cy s0) (gMo_cz s0) (gMo_solids s0) (gMo_shell s0) (gMo_skin s0) (gMo_period s0) (gMo_reach s0) (gMo_gap s0) (gMo_bytes s0) (gMo_played s0) (gMo_at s0) (iset (gMo_program s0) (gMo_bytes s0) x1) (gMo_beads s0) (gMo_ring s0)))) gC 9 0 rfl rfl hg1 rfl (by decide) rfl d_Mo_put_9 ?_
  refine v_aload_n gC d_Mo_put_10 rfl 0 rfl ?_
  refine v_dup gC d_Mo_put_11 rfl ?_
  refine v_get (v := .int (zI (gMo_bytes s0))) gC in_Mo 0 rfl rfl 22 (by decide) fl_Mo_125 rfl d_Mo_put_12 ?_
  refine v_iconst gC d_Mo_put_15 ?_
  refine v_iadd gC d_Mo_put_16 ((gMo_bytes s0) + 1) rfl ?_
  refine v_puti (ws' := (w_Mo K d0 (mkMo (gMo_thrown s0) (gMo_corners s0) (gMo_px s0) (gMo_py s0) (gMo_pz s0) (gMo_triangles s0) (gMo_named s0) (gMo_joined s0) (gMo_dropped s0) (gMo_closed s0) (gMo_layers s0) (gMo_thickness s0) (gMo_cuts s0) (gMo_cx s0) (gMo_cy s0) (gMo_cz s0) (gMo_solids s0) (gMo_shell s0) (gMo_skin s0) (gMo_period s0) (gMo_reach s0) (gMo_gap s0) ((gMo_bytes s0) + 1) (gMo_played s0) (gMo_at s0) (iset (gMo_program s0) (gMo_bytes s0) x1) (gMo_beads s0) (gMo_ring s0)))) gC in_Mo t_Mo ok_Mo n_Mo 0 rfl rfl 22 (by decide) fl_Mo_125 rfl (by decide +kernel) (Nat.le_of_ble_eq_true rfl) rfl d_Mo_put_17 ?_
  exact gret _ _ _ d_Mo_put_20 ⟨(mkMo (gMo_thrown s0) (gMo_corners s0) (gMo_px s0) (gMo_py s0) (gMo_pz s0) (gMo_triangles s0) (gMo_named s0) (gMo_joined s0) (gMo_dropped s0) (gMo_closed s0) (gMo_layers s0) (gMo_thickness s0) (gMo_cuts s0) (gMo_cx s0) (gMo_cy s0) (gMo_cz s0) (gMo_solids s0) (gMo_shell s0) (gMo_skin s0) (gMo_period s0) (gMo_reach s0) (gMo_gap s0) ((gMo_bytes s0) + 1) (gMo_played s0) (gMo_at s0) (iset (gMo_program s0) (gMo_bytes s0) x1) (gMo_beads s0) (gMo_ring s0)), rfl, rfl, h⟩

set_option maxHeartbeats 4000000 in
set_option maxRecDepth 100000 in
theorem k_Mo_emit (l : Launch) (D : va_G) (K : Nat → ClassId) (d0 : Nat → Nat) (s0 : s_Mo) (Q : Int → s_Mo → Prop) (h : wp_Mo_emit s0 Q) : Kt l D K y_Mo_emit b_Mo_emit 4 (some .int) 6 143 [.ref (d0 0)] (w_Mo K d0 s0) (fun v w1 => ∃ (r : Int), ∃ (u0 : s_Mo), v = some (.int (zI r)) ∧ w1 = (w_Mo K d0 u0) ∧ Q r u0) := by
  refine Kt.ofI (by decide +kernel) (Nat.le_of_ble_eq_true rfl) (lv0 := [(0, .ref (d0 0))]) rfl ?_
  intro gp ge gR gs gm ga gb gh gc gA gQ gRf gRl gC gret
  unfold wp_Mo_emit at h
  replace h := h
    (fun (v1 : Int) (s0 : s_Mo) => V gp l ge gR gs gm ga gb gh gc D gA 4 0 0 gQ (w_Mo K d0 s0) 16 [(0, .ref (d0 0)), (1, .int (zI v1))] [])
    (fun (v1 : Int) (v2 : Int) (s0 : s_Mo) => V gp l ge gR gs gm ga gb gh gc D gA 4 0 0 gQ (w_Mo K d0 s0) 33 [(0, .ref (d0 0)), (1, .int (zI v1)), (2, .int (zI v2))] [])
    (fun (v1 : Int) (v2 : Int) (v3 : Int) (s0 : s_Mo) => V gp l ge gR gs gm ga gb gh gc D gA 4 0 0 gQ (w_Mo K d0 s0) 90 [(0, .ref (d0 0)), (1, .int (zI v1)), (2, .int (zI v2)), (3, .int (zI v3))] [])
    (by
      intro v1 s0 h
      refine v_iload_n gC d_Mo_emit_16 rfl 1 rfl ?_
      refine v_aload_n gC d_Mo_emit_17 rfl 0 rfl ?_
      refine v_get (v := .int (zI (gMo_layers s0))) gC in_Mo 0 rfl rfl 10 (by decide) fl_Mo_116 rfl d_Mo_emit_18 ?_
      obtain ⟨hg2, hg3, h⟩ := h
      refine v_icmp_ge (tgt := 140) gC d_Mo_emit_21 (by decide) hg2 hg3 (fun hc => ?_) (fun hc => ?_)
      · replace h := h.1 hc
        refine v_aload_n gC d_Mo_emit_140 rfl 0 rfl ?_
        refine v_get (v := .int (zI (gMo_bytes s0))) gC in_Mo 0 rfl rfl 22 (by decide) fl_Mo_125 rfl d_Mo_emit_141 ?_
        exact gret _ _ _ _ d_Mo_emit_144 ⟨(gMo_bytes s0), s0, rfl, rfl, h⟩
      · replace h := h.2 hc
        refine v_aload_n gC d_Mo_emit_24 rfl 0 rfl ?_
        refine v_sipush gC d_Mo_emit_25 (by decide) ?_
        refine v_callV (rest := []) gC (k_Mo_put l D K d0 200 s0 _ h) wV_Mo_185 rfl ⟨by omega, by omega, Nat.zero_le _, Nat.zero_le _⟩ 0 rfl rfl [0, 1, 2, 3, 4, 5, 6, 7, 8, 9, 10, 11] [] rfl (by decide) rfl (by decide) (by decide) rfl (Nat.le_of_ble_eq_true rfl) d_Mo_emit_28 (fun v w1 hp => ?_)
        obtain ⟨u4, rfl, rfl, h⟩ := hp
        refine v_after (ws' := (w_Mo K d0 u4)) (st' := []) [0, 1, 2, 3, 4, 5, 6, 7, 8, 9, 10, 11] (by decide) rfl rfl ?_
        refine v_iconst gC d_Mo_emit_31 ?_
        refine v_istore_n (lv' := [(0, .ref (d0 0)), (1, .int (zI v1)), (2, .int (zI 0))]) gC d_Mo_emit_32 rfl (by decide) [1, 2, 0] rfl ?_
        refine v_loc (lv' := [(0, .ref (d0 0)), (1, .int (zI v1)), (2, .int (zI 0))]) [0, 1, 2] rfl ?_
        exact h)
    (by
      intro v1 v2 s0 h
      refine v_iload_n gC d_Mo_emit_33 rfl 2 rfl ?_
      refine v_sipush gC d_Mo_emit_34 (by decide) ?_
      obtain ⟨hg5, h⟩ := h
      refine v_icmp_ge (tgt := 134) gC d_Mo_emit_37 (by decide) hg5 (by decide) (fun hc => ?_) (fun hc => ?_)
      · replace h := h.1 hc
        refine v_iinc (lv' := [(0, .ref (d0 0)), (1, .int (zI (v1 + 1))), (2, .int (zI v2))]) gC d_Mo_emit_134 1 rfl (by decide) (v1 + 1) rfl [1, 0, 2] rfl ?_
        refine v_goto (tgt := 16) gC d_Mo_emit_137 (by decide) ?_
        refine v_loc (lv' := [(0, .ref (d0 0)), (1, .int (zI (v1 + 1)))]) [0, 1] rfl ?_
        exact h
      · replace h := h.2 hc
        refine v_aload_n gC d_Mo_emit_40 rfl 0 rfl ?_
        refine v_iload_n gC d_Mo_emit_41 rfl 1 rfl ?_
        refine v_iload_n gC d_Mo_emit_42 rfl 2 rfl ?_
        refine v_bipush gC d_Mo_emit_43 (by decide) ?_
        refine v_irem gC d_Mo_emit_45 hg5 (by decide) (by decide) ?_
        refine v_iload_n gC d_Mo_emit_46 rfl 2 rfl ?_
        refine v_bipush gC d_Mo_emit_47 (by decide) ?_
        refine v_idiv gC d_Mo_emit_49 hg5 (by decide) (by decide) ?_
        refine v_callV (rest := []) gC (k_Mo_kindOf l D K d0 v1 (Int.tmod v2 12) (Int.tdiv v2 12) s0 _ h) wV_Mo_167 rfl ⟨by omega, by omega, Nat.zero_le _, Nat.zero_le _⟩ 0 rfl rfl [0, 1, 2, 3, 4, 5, 6, 7, 8, 9, 10, 11] [] rfl (by decide) rfl (by decide) (by decide) rfl (Nat.le_of_ble_eq_true rfl) d_Mo_emit_50 (fun v w1 hp => ?_)
        obtain ⟨r6, rfl, rfl, h⟩ := hp
        refine v_after (ws' := (w_Mo K d0 s0)) (st' := [.int (zI r6)]) [0, 1, 2, 3, 4, 5, 6, 7, 8, 9, 10, 11] (by decide) rfl rfl ?_
        refine v_istore_n (lv' := [(0, .ref (d0 0)), (1, .int (zI v1)), (2, .int (zI v2)), (3, .int (zI r6))]) gC d_Mo_emit_53 rfl (by decide) [1, 2, 3, 0] rfl ?_
        refine v_iload_n gC d_Mo_emit_54 rfl 3 rfl ?_
        refine v_callS (rest := []) gC (k_Mo_isLaid l D K r6 _ h) wS_Mo_170 rfl ⟨by omega, by omega, Nat.zero_le _, Nat.zero_le _⟩ [] [0, 1, 2, 3, 4, 5, 6, 7, 8, 9, 10, 11] rfl (by decide) rfl (by decide) (by decide) rfl (Nat.le_of_ble_eq_true rfl) d_Mo_emit_55 (fun v w1 hp => ?_)
        obtain ⟨r7, rfl, rfl, h⟩ := hp
        refine v_after (ws' := (w_Mo K d0 s0)) (st' := [.int (zI r7)]) [0, 1, 2, 3, 4, 5, 6, 7, 8, 9, 10, 11] (by decide) rfl rfl ?_
        obtain ⟨hg8, h⟩ := h
        refine v_if_eq (tgt := 128) gC d_Mo_emit_58 (by decide) hg8 (fun hc => ?_) (fun hc => ?_)
        · replace h := h.1 hc
          refine v_iinc (lv' := [(0, .ref (d0 0)), (1, .int (zI v1)), (2, .int (zI (v2 + 1))), (3, .int (zI r6))]) gC d_Mo_emit_128 2 rfl (by decide) (v2 + 1) rfl [1, 2, 0, 3] rfl ?_
          refine v_goto (tgt := 33) gC d_Mo_emit_131 (by decide) ?_
          refine v_loc (lv' := [(0, .ref (d0 0)), (1, .int (zI v1)), (2, .int (zI (v2 + 1)))]) [0, 1, 2] rfl ?_
          exact h
        · replace h := h.2 hc
          refine v_iload_n gC d_Mo_emit_61 rfl 2 rfl ?_
          refine v_bipush gC d_Mo_emit_62 (by decide) ?_
          refine v_irem gC d_Mo_emit_64 hg5 (by decide) (by decide) ?_
          obtain ⟨hg9, h⟩ := h
          refine v_if_le (tgt := 90) gC d_Mo_emit_65 (by decide) hg9 (fun hc => ?_) (fun hc => ?_)
          · replace h := h.1 hc
            refine v_loc (lv' := [(0, .ref (d0 0)), (1, .int (zI v1)), (2, .int (zI v2)), (3, .int (zI r6))]) [0, 1, 2, 3] rfl ?_
            exact h
          · replace h := h.2 hc
            refine v_aload_n gC d_Mo_emit_68 rfl 0 rfl ?_
            refine v_iload_n gC d_Mo_emit_69 rfl 1 rfl ?_
            refine v_iload_n gC d_Mo_emit_70 rfl 2 rfl ?_
            refine v_bipush gC d_Mo_emit_71 (by decide) ?_
            refine v_irem gC d_Mo_emit_73 hg5 (by decide) (by decide) ?_
            refine v_iconst gC d_Mo_emit_74 ?_
            refine v_isub gC d_Mo_emit_75 ((Int.tmod v2 12) - 1) rfl ?_
            refine v_iload_n gC d_Mo_emit_76 rfl 2 rfl ?_
            refine v_bipush gC d_Mo_emit_77 (by decide) ?_
            refine v_idiv gC d_Mo_emit_79 hg5 (by decide) (by decide) ?_
            refine v_callV (rest := []) gC (k_Mo_kindOf l D K d0 v1 ((Int.tmod v2 12) - 1) (Int.tdiv v2 12) s0 _ h) wV_Mo_167 rfl ⟨by omega, by omega, Nat.zero_le _, Nat.zero_le _⟩ 0 rfl rfl [0, 1, 2, 3, 4, 5, 6, 7, 8, 9, 10, 11] [] rfl (by decide) rfl (by decide) (by decide) rfl (Nat.le_of_ble_eq_true rfl) d_Mo_emit_80 (fun v w1 hp => ?_)
            obtain ⟨r10, rfl, rfl, h⟩ := hp
            refine v_after (ws' := (w_Mo K d0 s0)) (st' := [.int (zI r10)]) [0, 1, 2, 3, 4, 5, 6, 7, 8, 9, 10, 11] (by decide) rfl rfl ?_
            refine v_iload_n gC d_Mo_emit_83 rfl 3 rfl ?_
            obtain ⟨hg11, hg12, h⟩ := h
            refine v_icmp_ne (tgt := 90) gC d_Mo_emit_84 (by decide) hg11 hg12 (fun hc => ?_) (fun hc => ?_)
            · replace h := h.1 hc
              refine v_loc (lv' := [(0, .ref (d0 0)), (1, .int (zI v1)), (2, .int (zI v2)), (3, .int (zI r6))]) [0, 1, 2, 3] rfl ?_
              exact h
            · replace h := h.2 hc
              refine v_goto (tgt := 128) gC d_Mo_emit_87 (by decide) ?_
              refine v_iinc (lv' := [(0, .ref (d0 0)), (1, .int (zI v1)), (2, .int (zI (v2 + 1))), (3, .int (zI r6))]) gC d_Mo_emit_128 2 rfl (by decide) (v2 + 1) rfl [1, 2, 0, 3] rfl ?_
              refine v_goto (tgt := 33) gC d_Mo_emit_131 (by decide) ?_
              refine v_loc (lv' := [(0, .ref (d0 0)), (1, .int (zI v1)), (2, .int (zI (v2 + 1)))]) [0, 1, 2] rfl ?_
              exact h)
    (by
      intro v1 v2 v3 s0 h
      refine v_aload_n gC d_Mo_emit_90 rfl 0 rfl ?_
      refine v_sipush gC d_Mo_emit_91 (by decide) ?_
      refine v_callV (rest := []) gC (k_Mo_put l D K d0 201 s0 _ h) wV_Mo_185 rfl ⟨by omega, by omega, Nat.zero_le _, Nat.zero_le _⟩ 0 rfl rfl [0, 1, 2, 3, 4, 5, 6, 7, 8, 9, 10, 11] [] rfl (by decide) rfl (by decide) (by decide) rfl (Nat.le_of_ble_eq_true rfl) d_Mo_emit_94 (fun v w1 hp => ?_)
      obtain ⟨u13, rfl, rfl, h⟩ := hp
      refine v_after (ws' := (w_Mo K d0 u13)) (st' := []) [0, 1, 2, 3, 4, 5, 6, 7, 8, 9, 10, 11] (by decide) rfl rfl ?_
      refine v_aload_n gC d_Mo_emit_97 rfl 0 rfl ?_
      refine v_iload_n gC d_Mo_emit_98 rfl 2 rfl ?_
      refine v_bipush gC d_Mo_emit_99 (by decide) ?_
      obtain ⟨hg14, h⟩ := h
      refine v_irem gC d_Mo_emit_101 hg14 (by decide) (by decide) ?_
      refine v_callV (rest := []) gC (k_Mo_put l D K d0 (Int.tmod v2 12) u13 _ h) wV_Mo_185 rfl ⟨by omega, by omega, Nat.zero_le _, Nat.zero_le _⟩ 0 rfl rfl [0, 1, 2, 3, 4, 5, 6, 7, 8, 9, 10, 11] [] rfl (by decide) rfl (by decide) (by decide) rfl (Nat.le_of_ble_eq_true rfl) d_Mo_emit_102 (fun v w1 hp => ?_)
      obtain ⟨u15, rfl, rfl, h⟩ := hp
      refine v_after (ws' := (w_Mo K d0 u15)) (st' := []) [0, 1, 2, 3, 4, 5, 6, 7, 8, 9, 10, 11] (by decide) rfl rfl ?_
      refine v_aload_n gC d_Mo_emit_105 rfl 0 rfl ?_
      refine v_iload_n gC d_Mo_emit_106 rfl 2 rfl ?_
      refine v_bipush gC d_Mo_emit_107 (by decide) ?_
      refine v_idiv gC d_Mo_emit_109 hg14 (by decide) (by decide) ?_
      refine v_callV (rest := []) gC (k_Mo_put l D K d0 (Int.tdiv v2 12) u15 _ h) wV_Mo_185 rfl ⟨by omega, by omega, Nat.zero_le _, Nat.zero_le _⟩ 0 rfl rfl [0, 1, 2, 3, 4, 5, 6, 7, 8, 9, 10, 11] [] rfl (by decide) rfl (by decide) (by decide) rfl (Nat.le_of_ble_eq_true rfl) d_Mo_emit_110 (fun v w1 hp => ?_)
      obtain ⟨u16, rfl, rfl, h⟩ := hp
      refine v_after (ws' := (w_Mo K d0 u16)) (st' := []) [0, 1, 2, 3, 4, 5, 6, 7, 8, 9, 10, 11] (by decide) rfl rfl ?_
      refine v_aload_n gC d_Mo_emit_113 rfl 0 rfl ?_
      refine v_iload_n gC d_Mo_emit_114 rfl 3 rfl ?_
      refine v_callV (rest := []) gC (k_Mo_put l D K d0 v3 u16 _ h) wV_Mo_185 rfl ⟨by omega, by omega, Nat.zero_le _, Nat.zero_le _⟩ 0 rfl rfl [0, 1, 2, 3, 4, 5, 6, 7, 8, 9, 10, 11] [] rfl (by decide) rfl (by decide) (by decide) rfl (Nat.le_of_ble_eq_true rfl) d_Mo_emit_115 (fun v w1 hp => ?_)
      obtain ⟨u17, rfl, rfl, h⟩ := hp
      refine v_after (ws' := (w_Mo K d0 u17)) (st' := []) [0, 1, 2, 3, 4, 5, 6, 7, 8, 9, 10, 11] (by decide) rfl rfl ?_
      refine v_aload_n gC d_Mo_emit_118 rfl 0 rfl ?_
      refine v_aload_n gC d_Mo_emit_119 rfl 0 rfl ?_
      refine v_iload_n gC d_Mo_emit_120 rfl 1 rfl ?_
      refine v_iload_n gC d_Mo_emit_121 rfl 2 rfl ?_
      refine v_callV (rest := [.ref (d0 0)]) gC (k_Mo_longAt l D K d0 v1 v2 u17 _ h) wV_Mo_179 rfl ⟨by omega, by omega, Nat.zero_le _, Nat.zero_le _⟩ 0 rfl rfl [0, 1, 2, 3, 4, 5, 6, 7, 8, 9, 10, 11] [] rfl (by decide) rfl (by decide) (by decide) rfl (Nat.le_of_ble_eq_true rfl) d_Mo_emit_122 (fun v w1 hp => ?_)
      obtain ⟨r18, rfl, rfl, h⟩ := hp
      refine v_after (ws' := (w_Mo K d0 u17)) (st' := [.int (zI r18), .ref (d0 0)]) [0, 1, 2, 3, 4, 5, 6, 7, 8, 9, 10, 11] (by decide) rfl rfl ?_
      refine v_callV (rest := []) gC (k_Mo_put l D K d0 r18 u17 _ h) wV_Mo_185 rfl ⟨by omega, by omega, Nat.zero_le _, Nat.zero_le _⟩ 0 rfl rfl [0, 1, 2, 3, 4, 5, 6, 7, 8, 9, 10, 11] [] rfl (by decide) rfl (by decide) (by decide) rfl (Nat.le_of_ble_eq_true rfl) d_Mo_emit_125 (fun v w1 hp => ?_)
      obtain ⟨u19, rfl, rfl, h⟩ := hp
      refine v_after (ws' := (w_Mo K d0 u19)) (st' := []) [0, 1, 2, 3, 4, 5, 6, 7, 8, 9, 10, 11] (by decide) rfl rfl ?_
      refine v_iinc (lv' := [(0, .ref (d0 0)), (1, .int (zI v1)), (2, .int (zI (v2 + 1))), (3, .int (zI v3))]) gC d_Mo_emit_128 2 rfl (by decide) (v2 + 1) rfl [1, 2, 0, 3] rfl ?_
      refine v_goto (tgt := 33) gC d_Mo_emit_131 (by decide) ?_
      refine v_loc (lv' := [(0, .ref (d0 0)), (1, .int (zI v1)), (2, .int (zI (v2 + 1)))]) [0, 1, 2] rfl ?_
      exact h)
  refine v_aload_n gC d_Mo_emit_0 rfl 0 rfl ?_
  refine v_iconst gC d_Mo_emit_1 ?_
  refine v_puti (ws' := (w_Mo K d0 (mkMo 0 (gMo_corners s0) (gMo_px s0) (gMo_py s0) (gMo_pz s0) (gMo_triangles s0) (gMo_named s0) (gMo_joined s0) (gMo_dropped s0) (gMo_closed s0) (gMo_layers s0) (gMo_thickness s0) (gMo_cuts s0) (gMo_cx s0) (gMo_cy s0) (gMo_cz s0) (gMo_solids s0) (gMo_shell s0) (gMo_skin s0) (gMo_period s0) (gMo_reach s0) (gMo_gap s0) (gMo_bytes s0) (gMo_played s0) (gMo_at s0) (gMo_program s0) (gMo_beads s0) (gMo_ring s0)))) gC in_Mo t_Mo ok_Mo n_Mo 0 rfl rfl 0 (by decide) fl_Mo_60 rfl (by decide +kernel) (Nat.le_of_ble_eq_true rfl) rfl d_Mo_emit_2 ?_
  refine v_aload_n gC d_Mo_emit_5 rfl 0 rfl ?_
  refine v_iconst gC d_Mo_emit_6 ?_
  refine v_puti (ws' := (w_Mo K d0 (mkMo 0 (gMo_corners s0) (gMo_px s0) (gMo_py s0) (gMo_pz s0) (gMo_triangles s0) (gMo_named s0) (gMo_joined s0) (gMo_dropped s0) (gMo_closed s0) (gMo_layers s0) (gMo_thickness s0) (gMo_cuts s0) (gMo_cx s0) (gMo_cy s0) (gMo_cz s0) (gMo_solids s0) (gMo_shell s0) (gMo_skin s0) (gMo_period s0) (gMo_reach s0) (gMo_gap s0) 0 (gMo_played s0) (gMo_at s0) (gMo_program s0) (gMo_beads s0) (gMo_ring s0)))) gC in_Mo t_Mo ok_Mo n_Mo 0 rfl rfl 22 (by decide) fl_Mo_125 rfl (by decide +kernel) (Nat.le_of_ble_eq_true rfl) rfl d_Mo_emit_7 ?_
  refine v_aload_n gC d_Mo_emit_10 rfl 0 rfl ?_
  refine v_callV (rest := []) gC (k_Mo_clear l D K d0 (mkMo 0 (gMo_corners s0) (gMo_px s0) (gMo_py s0) (gMo_pz s0) (gMo_triangles s0) (gMo_named s0) (gMo_joined s0) (gMo_dropped s0) (gMo_closed s0) (gMo_layers s0) (gMo_thickness s0) (gMo_cuts s0) (gMo_cx s0) (gMo_cy s0) (gMo_cz s0) (gMo_solids s0) (gMo_shell s0) (gMo_skin s0) (gMo_period s0) (gMo_reach s0) (gMo_gap s0) 0 (gMo_played s0) (gMo_at s0) (gMo_program s0) (gMo_beads s0) (gMo_ring s0)) _ h) wV_Mo_128 rfl ⟨by omega, by omega, Nat.zero_le _, Nat.zero_le _⟩ 0 rfl rfl [0, 1, 2, 3, 4, 5, 6, 7, 8, 9, 10, 11] [] rfl (by decide) rfl (by decide) (by decide) rfl (Nat.le_of_ble_eq_true rfl) d_Mo_emit_11 (fun v w1 hp => ?_)
  obtain ⟨u1, rfl, rfl, h⟩ := hp
  refine v_after (ws' := (w_Mo K d0 u1)) (st' := []) [0, 1, 2, 3, 4, 5, 6, 7, 8, 9, 10, 11] (by decide) rfl rfl ?_
  refine v_iconst gC d_Mo_emit_14 ?_
  refine v_istore_n (lv' := [(0, .ref (d0 0)), (1, .int (zI 0))]) gC d_Mo_emit_15 rfl (by decide) [1, 0] rfl ?_
  refine v_loc (lv' := [(0, .ref (d0 0)), (1, .int (zI 0))]) [0, 1] rfl ?_
  exact h

set_option maxHeartbeats 4000000 in
set_option maxRecDepth 100000 in
theorem k_Mo_byteOf (l : Launch) (D : va_G) (K : Nat → ClassId) (d0 : Nat → Nat) (x1 : Int) (s0 : s_Mo) (Q : Int → s_Mo → Prop) (h : wp_Mo_byteOf x1 s0 Q) : Kt l D K y_Mo_byteOf b_Mo_byteOf 2 (some .int) 1 22 [.ref (d0 0), .int (zI x1)] (w_Mo K d0 s0) (fun v w1 => ∃ (r : Int), ∃ (u0 : s_Mo), v = some (.int (zI r)) ∧ w1 = (w_Mo K d0 u0) ∧ Q r u0) := by
  refine Kt.ofI (by decide +kernel) (Nat.le_of_ble_eq_true rfl) (lv0 := [(0, .ref (d0 0)), (1, .int (zI x1))]) rfl ?_
  intro gp ge gR gs gm ga gb gh gc gA gQ gRf gRl gC gret
  unfold wp_Mo_byteOf at h
  refine v_aload_n gC d_Mo_byteOf_0 rfl 0 rfl ?_
  refine v_iconst gC d_Mo_byteOf_1 ?_
  refine v_puti (ws' := (w_Mo K d0 (mkMo 0 (gMo_corners s0) (gMo_px s0) (gMo_py s0) (gMo_pz s0) (gMo_triangles s0) (gMo_named s0) (gMo_joined s0) (gMo_dropped s0) (gMo_closed s0) (gMo_layers s0) (gMo_thickness s0) (gMo_cuts s0) (gMo_cx s0) (gMo_cy s0) (gMo_cz s0) (gMo_solids s0) (gMo_shell s0) (gMo_skin s0) (gMo_period s0) (gMo_reach s0) (gMo_gap s0) (gMo_bytes s0) (gMo_played s0) (gMo_at s0) (gMo_program s0) (gMo_beads s0) (gMo_ring s0)))) gC in_Mo t_Mo ok_Mo n_Mo 0 rfl rfl 0 (by decide) fl_Mo_60 rfl (by decide +kernel) (Nat.le_of_ble_eq_true rfl) rfl d_Mo_byteOf_2 ?_
  refine v_iload_n gC d_Mo_byteOf_5 rfl 1 rfl ?_
  refine v_iconst gC d_Mo_byteOf_6 ?_
  refine v_aload_n gC d_Mo_byteOf_7 rfl 0 rfl ?_
  refine v_get (v := .int (zI (gMo_bytes s0))) gC in_Mo 0 rfl rfl 22 (by decide) fl_Mo_125 rfl d_Mo_byteOf_8 ?_
  refine v_iconst gC d_Mo_byteOf_11 ?_
  refine v_isub gC d_Mo_byteOf_12 ((gMo_bytes s0) - 1) rfl ?_
  refine v_callS (rest := []) gC (k_Mo_in l D K x1 0 ((gMo_bytes s0) - 1) _ h) wS_Mo_66 rfl ⟨by omega, by omega, Nat.zero_le _, Nat.zero_le _⟩ [] [0, 1, 2, 3, 4, 5, 6, 7, 8, 9, 10, 11] rfl (by decide) rfl (by decide) (by decide) rfl (Nat.le_of_ble_eq_true rfl) d_Mo_byteOf_13 (fun v w1 hp => ?_)
  obtain ⟨r1, rfl, rfl, h⟩ := hp
  refine v_after (ws' := (w_Mo K d0 (mkMo 0 (gMo_corners s0) (gMo_px s0) (gMo_py s0) (gMo_pz s0) (gMo_triangles s0) (gMo_named s0) (gMo_joined s0) (gMo_dropped s0) (gMo_closed s0) (gMo_layers s0) (gMo_thickness s0) (gMo_cuts s0) (gMo_cx s0) (gMo_cy s0) (gMo_cz s0) (gMo_solids s0) (gMo_shell s0) (gMo_skin s0) (gMo_period s0) (gMo_reach s0) (gMo_gap s0) (gMo_bytes s0) (gMo_played s0) (gMo_at s0) (gMo_program s0) (gMo_beads s0) (gMo_ring s0)))) (st' := [.int (zI r1)]) [0, 1, 2, 3, 4, 5, 6, 7, 8, 9, 10, 11] (by decide) rfl rfl ?_
  obtain ⟨hg2, h⟩ := h
  refine v_if_eq (tgt := 28) gC d_Mo_byteOf_16 (by decide) hg2 (fun hc => ?_) (fun hc => ?_)
  · replace h := h.1 hc
    refine v_iconst gC d_Mo_byteOf_28 ?_
    exact gret _ _ _ _ d_Mo_byteOf_29 ⟨(-1), (mkMo 0 (gMo_corners s0) (gMo_px s0) (gMo_py s0) (gMo_pz s0) (gMo_triangles s0) (gMo_named s0) (gMo_joined s0) (gMo_dropped s0) (gMo_closed s0) (gMo_layers s0) (gMo_thickness s0) (gMo_cuts s0) (gMo_cx s0) (gMo_cy s0) (gMo_cz s0) (gMo_solids s0) (gMo_shell s0) (gMo_skin s0) (gMo_period s0) (gMo_reach s0) (gMo_gap s0) (gMo_bytes s0) (gMo_played s0) (gMo_at s0) (gMo_program s0) (gMo_beads s0) (gMo_ring s0)), rfl, rfl, h⟩
  · replace h := h.2 hc
    refine v_aload_n gC d_Mo_byteOf_19 rfl 0 rfl ?_
    refine v_get (v := .ref (d0 9)) gC in_Mo 0 rfl rfl 25 (by decide) fl_Mo_35 rfl d_Mo_byteOf_20 ?_
    refine v_iload_n gC d_Mo_byteOf_23 rfl 1 rfl ?_
    obtain ⟨hg3, h⟩ := h
    refine v_iald (g := (gMo_program s0)) gC 9 0 rfl rfl hg3 rfl (by decide) d_Mo_byteOf_24 ?_
    refine v_goto (tgt := 29) gC d_Mo_byteOf_25 (by decide) ?_
    exact gret _ _ _ _ d_Mo_byteOf_29 ⟨(gMo_program s0) x1, (mkMo 0 (gMo_corners s0) (gMo_px s0) (gMo_py s0) (gMo_pz s0) (gMo_triangles s0) (gMo_named s0) (gMo_joined s0) (gMo_dropped s0) (gMo_closed s0) (gMo_layers s0) (gMo_thickness s0) (gMo_cuts s0) (gMo_cx s0) (gMo_cy s0) (gMo_cz s0) (gMo_solids s0) (gMo_shell s0) (gMo_skin s0) (gMo_period s0) (gMo_reach s0) (gMo_gap s0) (gMo_bytes s0) (gMo_played s0) (gMo_at s0) (gMo_program s0) (gMo_beads s0) (gMo_ring s0)), rfl, rfl, h⟩

set_option maxHeartbeats 4000000 in
set_option maxRecDepth 100000 in
theorem k_Mo_play (l : Launch) (D : va_G) (K : Nat → ClassId) (d0 : Nat → Nat) (x1 : Int) (s0 : s_Mo) (Q : Int → s_Mo → Prop) (h : wp_Mo_play x1 s0 Q) : Kt l D K y_Mo_play b_Mo_play 4 (some .int) 0 0 [.ref (d0 0), .int (zI x1)] (w_Mo K d0 s0) (fun v w1 => ∃ (r : Int), ∃ (u0 : s_Mo), v = some (.int (zI r)) ∧ w1 = (w_Mo K d0 u0) ∧ Q r u0) := by
  refine Kt.ofI (by decide +kernel) (Nat.le_of_ble_eq_true rfl) (lv0 := [(0, .ref (d0 0)), (1, .int (zI x1))]) rfl ?_
  intro gp ge gR gs gm ga gb gh gc gA gQ gRf gRl gC gret
  unfold wp_Mo_play at h
  replace h := h
    (fun (v2 : Int) (s0 : s_Mo) => V gp l ge gR gs gm ga gb gh gc D gA 4 0 0 gQ (w_Mo K d0 s0) 7 [(0, .ref (d0 0)), (1, .int (zI x1)), (2, .int (zI v2))] [])
    (fun (v2 : Int) (v3 : Int) (s0 : s_Mo) => V gp l ge gR gs gm ga gb gh gc D gA 4 0 0 gQ (w_Mo K d0 s0) 63 [(0, .ref (d0 0)), (1, .int (zI x1)), (2, .int (zI v2)), (3, .int (zI v3))] [])
    (by
      intro v2 s0 h
      refine v_iload_n gC d_Mo_play_7 rfl 2 rfl ?_
      refine v_iload_n gC d_Mo_play_8 rfl 1 rfl ?_
      obtain ⟨hg1, hg2, h⟩ := h
      refine v_icmp_ge (tgt := 146) gC d_Mo_play_9 (by decide) hg1 hg2 (fun hc => ?_) (fun hc => ?_)
      · replace h := h.1 hc
        refine v_iload_n gC d_Mo_play_146 rfl 2 rfl ?_
        exact gret _ _ _ _ d_Mo_play_147 ⟨v2, s0, rfl, rfl, h⟩
      · replace h := h.2 hc
        refine v_aload_n gC d_Mo_play_12 rfl 0 rfl ?_
        refine v_get (v := .int (zI (gMo_played s0))) gC in_Mo 0 rfl rfl 23 (by decide) fl_Mo_182 rfl d_Mo_play_13 ?_
        refine v_aload_n gC d_Mo_play_16 rfl 0 rfl ?_
        refine v_get (v := .int (zI (gMo_bytes s0))) gC in_Mo 0 rfl rfl 22 (by decide) fl_Mo_125 rfl d_Mo_play_17 ?_
        obtain ⟨hg3, hg4, h⟩ := h
        refine v_icmp_ge (tgt := 146) gC d_Mo_play_20 (by decide) hg3 hg4 (fun hc => ?_) (fun hc => ?_)
        · replace h := h.1 hc
          refine v_iload_n gC d_Mo_play_146 rfl 2 rfl ?_
          exact gret _ _ _ _ d_Mo_play_147 ⟨v2, s0, rfl, rfl, h⟩
        · replace h := h.2 hc
          refine v_aload_n gC d_Mo_play_23 rfl 0 rfl ?_
          refine v_get (v := .ref (d0 9)) gC in_Mo 0 rfl rfl 25 (by decide) fl_Mo_35 rfl d_Mo_play_24 ?_
          refine v_aload_n gC d_Mo_play_27 rfl 0 rfl ?_
          refine v_get (v := .int (zI (gMo_played s0))) gC in_Mo 0 rfl rfl 23 (by decide) fl_Mo_182 rfl d_Mo_play_28 ?_
          obtain ⟨hg5, h⟩ := h
          refine v_iald (g := (gMo_program s0)) gC 9 0 rfl rfl hg5 rfl (by decide) d_Mo_play_31 ?_
          refine v_sipush gC d_Mo_play_32 (by decide) ?_
          obtain ⟨hg6, h⟩ := h
          refine v_icmp_ne (tgt := 61) gC d_Mo_play_35 (by decide) hg6 (by decide) (fun hc => ?_) (fun hc => ?_)
          · replace h := h.1 hc
            refine v_iconst gC d_Mo_play_61 ?_
            refine v_istore_n (lv' := [(0, .ref (d0 0)), (1, .int (zI x1)), (2, .int (zI v2)), (3, .int (zI 0))]) gC d_Mo_play_62 rfl (by decide) [1, 2, 3, 0] rfl ?_
            refine v_loc (lv' := [(0, .ref (d0 0)), (1, .int (zI x1)), (2, .int (zI v2)), (3, .int (zI 0))]) [0, 1, 2, 3] rfl ?_
            exact h
          · replace h := h.2 hc
            refine v_aload_n gC d_Mo_play_38 rfl 0 rfl ?_
            refine v_dup gC d_Mo_play_39 rfl ?_
            refine v_get (v := .int (zI (gMo_at s0))) gC in_Mo 0 rfl rfl 24 (by decide) fl_Mo_57 rfl d_Mo_play_40 ?_
            refine v_iconst gC d_Mo_play_43 ?_
            refine v_iadd gC d_Mo_play_44 ((gMo_at s0) + 1) rfl ?_
            refine v_puti (ws' := (w_Mo K d0 (mkMo (gMo_thrown s0) (gMo_corners s0) (gMo_px s0) (gMo_py s0) (gMo_pz s0) (gMo_triangles s0) (gMo_named s0) (gMo_joined s0) (gMo_dropped s0) (gMo_closed s0) (gMo_layers s0) (gMo_thickness s0) (gMo_cuts s0) (gMo_cx s0) (gMo_cy s0) (gMo_cz s0) (gMo_solids s0) (gMo_shell s0) (gMo_skin s0) (gMo_period s0) (gMo_reach s0) (gMo_gap s0) (gMo_bytes s0) (gMo_played s0) ((gMo_at s0) + 1) (gMo_program s0) (gMo_beads s0) (gMo_ring s0)))) gC in_Mo t_Mo ok_Mo n_Mo 0 rfl rfl 24 (by decide) fl_Mo_57 rfl (by decide +kernel) (Nat.le_of_ble_eq_true rfl) rfl d_Mo_play_45 ?_
            refine v_aload_n gC d_Mo_play_48 rfl 0 rfl ?_
            refine v_dup gC d_Mo_play_49 rfl ?_
            refine v_get (v := .int (zI (gMo_played s0))) gC in_Mo 0 rfl rfl 23 (by decide) fl_Mo_182 rfl d_Mo_play_50 ?_
            refine v_iconst gC d_Mo_play_53 ?_
            refine v_iadd gC d_Mo_play_54 ((gMo_played s0) + 1) rfl ?_
            refine v_puti (ws' := (w_Mo K d0 (mkMo (gMo_thrown s0) (gMo_corners s0) (gMo_px s0) (gMo_py s0) (gMo_pz s0) (gMo_triangles s0) (gMo_named s0) (gMo_joined s0) (gMo_dropped s0) (gMo_closed s0) (gMo_layers s0) (gMo_thickness s0) (gMo_cuts s0) (gMo_cx s0) (gMo_cy s0) (gMo_cz s0) (gMo_solids s0) (gMo_shell s0) (gMo_skin s0) (gMo_period s0) (gMo_reach s0) (gMo_gap s0) (gMo_bytes s0) ((gMo_played s0) + 1) ((gMo_at s0) + 1) (gMo_program s0) (gMo_beads s0) (gMo_ring s0)))) gC in_Mo t_Mo ok_Mo n_Mo 0 rfl rfl 23 (by decide) fl_Mo_182 rfl (by decide +kernel) (Nat.le_of_ble_eq_true rfl) rfl d_Mo_play_55 ?_
            refine v_goto (tgt := 140) gC d_Mo_play_58 (by decide) ?_
            refine v_iinc (lv' := [(0, .ref (d0 0)), (1, .int (zI x1)), (2, .int (zI (v2 + 1)))]) gC d_Mo_play_140 2 rfl (by decide) (v2 + 1) rfl [1, 2, 0] rfl ?_
            refine v_goto (tgt := 7) gC d_Mo_play_143 (by decide) ?_
            refine v_loc (lv' := [(0, .ref (d0 0)), (1, .int (zI x1)), (2, .int (zI (v2 + 1)))]) [0, 1, 2] rfl ?_
            exact h)
    (by
      intro v2 v3 s0 h
      refine v_iload_n gC d_Mo_play_63 rfl 3 rfl ?_
      refine v_aload_n gC d_Mo_play_64 rfl 0 rfl ?_
      refine v_get (v := .ref (d0 9)) gC in_Mo 0 rfl rfl 25 (by decide) fl_Mo_35 rfl d_Mo_play_65 ?_
      refine v_aload_n gC d_Mo_play_68 rfl 0 rfl ?_
      refine v_get (v := .int (zI (gMo_played s0))) gC in_Mo 0 rfl rfl 23 (by decide) fl_Mo_182 rfl d_Mo_play_69 ?_
      refine v_iconst gC d_Mo_play_72 ?_
      refine v_iadd gC d_Mo_play_73 ((gMo_played s0) + 4) rfl ?_
      obtain ⟨hg7, h⟩ := h
      refine v_iald (g := (gMo_program s0)) gC 9 0 rfl rfl hg7 rfl (by decide) d_Mo_play_74 ?_
      obtain ⟨hg8, hg9, h⟩ := h
      refine v_icmp_ge (tgt := 130) gC d_Mo_play_75 (by decide) hg8 hg9 (fun hc => ?_) (fun hc => ?_)
      · replace h := h.1 hc
        refine v_aload_n gC d_Mo_play_130 rfl 0 rfl ?_
        refine v_dup gC d_Mo_play_131 rfl ?_
        refine v_get (v := .int (zI (gMo_played s0))) gC in_Mo 0 rfl rfl 23 (by decide) fl_Mo_182 rfl d_Mo_play_132 ?_
        refine v_iconst gC d_Mo_play_135 ?_
        refine v_iadd gC d_Mo_play_136 ((gMo_played s0) + 5) rfl ?_
        refine v_puti (ws' := (w_Mo K d0 (mkMo (gMo_thrown s0) (gMo_corners s0) (gMo_px s0) (gMo_py s0) (gMo_pz s0) (gMo_triangles s0) (gMo_named s0) (gMo_joined s0) (gMo_dropped s0) (gMo_closed s0) (gMo_layers s0) (gMo_thickness s0) (gMo_cuts s0) (gMo_cx s0) (gMo_cy s0) (gMo_cz s0) (gMo_solids s0) (gMo_shell s0) (gMo_skin s0) (gMo_period s0) (gMo_reach s0) (gMo_gap s0) (gMo_bytes s0) ((gMo_played s0) + 5) (gMo_at s0) (gMo_program s0) (gMo_beads s0) (gMo_ring s0)))) gC in_Mo t_Mo ok_Mo n_Mo 0 rfl rfl 23 (by decide) fl_Mo_182 rfl (by decide +kernel) (Nat.le_of_ble_eq_true rfl) rfl d_Mo_play_137 ?_
        refine v_iinc (lv' := [(0, .ref (d0 0)), (1, .int (zI x1)), (2, .int (zI (v2 + 1))), (3, .int (zI v3))]) gC d_Mo_play_140 2 rfl (by decide) (v2 + 1) rfl [1, 2, 0, 3] rfl ?_
        refine v_goto (tgt := 7) gC d_Mo_play_143 (by decide) ?_
        refine v_loc (lv' := [(0, .ref (d0 0)), (1, .int (zI x1)), (2, .int (zI (v2 + 1)))]) [0, 1, 2] rfl ?_
        exact h
      · replace h := h.2 hc
        refine v_aload_n gC d_Mo_play_78 rfl 0 rfl ?_
        refine v_get (v := .ref (d0 10)) gC in_Mo 0 rfl rfl 26 (by decide) fl_Mo_38 rfl d_Mo_play_79 ?_
        refine v_sipush gC d_Mo_play_82 (by decide) ?_
        refine v_aload_n gC d_Mo_play_85 rfl 0 rfl ?_
        refine v_get (v := .int (zI (gMo_at s0))) gC in_Mo 0 rfl rfl 24 (by decide) fl_Mo_57 rfl d_Mo_play_86 ?_
        refine v_imul gC d_Mo_play_89 (144 * (gMo_at s0)) rfl ?_
        refine v_bipush gC d_Mo_play_90 (by decide) ?_
        refine v_aload_n gC d_Mo_play_92 rfl 0 rfl ?_
        refine v_get (v := .ref (d0 9)) gC in_Mo 0 rfl rfl 25 (by decide) fl_Mo_35 rfl d_Mo_play_93 ?_
        refine v_aload_n gC d_Mo_play_96 rfl 0 rfl ?_
        refine v_get (v := .int (zI (gMo_played s0))) gC in_Mo 0 rfl rfl 23 (by decide) fl_Mo_182 rfl d_Mo_play_97 ?_
        refine v_iconst gC d_Mo_play_100 ?_
        refine v_iadd gC d_Mo_play_101 ((gMo_played s0) + 2) rfl ?_
        obtain ⟨hg10, h⟩ := h
        refine v_iald (g := (gMo_program s0)) gC 9 0 rfl rfl hg10 rfl (by decide) d_Mo_play_102 ?_
        refine v_imul gC d_Mo_play_103 (12 * ((gMo_program s0) ((gMo_played s0) + 2))) rfl ?_
        refine v_iadd gC d_Mo_play_104 ((144 * (gMo_at s0)) + (12 * ((gMo_program s0) ((gMo_played s0) + 2)))) rfl ?_
        refine v_aload_n gC d_Mo_play_105 rfl 0 rfl ?_
        refine v_get (v := .ref (d0 9)) gC in_Mo 0 rfl rfl 25 (by decide) fl_Mo_35 rfl d_Mo_play_106 ?_
        refine v_aload_n gC d_Mo_play_109 rfl 0 rfl ?_
        refine v_get (v := .int (zI (gMo_played s0))) gC in_Mo 0 rfl rfl 23 (by decide) fl_Mo_182 rfl d_Mo_play_110 ?_
        refine v_iconst gC d_Mo_play_113 ?_
        refine v_iadd gC d_Mo_play_114 ((gMo_played s0) + 1) rfl ?_
        obtain ⟨hg11, h⟩ := h
        refine v_iald (g := (gMo_program s0)) gC 9 0 rfl rfl hg11 rfl (by decide) d_Mo_play_115 ?_
        refine v_iadd gC d_Mo_play_116 (((144 * (gMo_at s0)) + (12 * ((gMo_program s0) ((gMo_played s0) + 2)))) + ((gMo_program s0) ((gMo_played s0) + 1))) rfl ?_
        refine v_iload_n gC d_Mo_play_117 rfl 3 rfl ?_
        refine v_iadd gC d_Mo_play_118 ((((144 * (gMo_at s0)) + (12 * ((gMo_program s0) ((gMo_played s0) + 2)))) + ((gMo_program s0) ((gMo_played s0) + 1))) + v3) rfl ?_
        refine v_dup2 gC d_Mo_play_119 rfl rfl ?_
        obtain ⟨hg12, h⟩ := h
        refine v_iald (g := (gMo_beads s0)) gC 10 0 rfl rfl hg12 rfl (by decide) d_Mo_play_120 ?_
        refine v_iconst gC d_Mo_play_121 ?_
        refine v_iadd gC d_Mo_play_122 (((gMo_beads s0) ((((144 * (gMo_at s0)) + (12 * ((gMo_program s0) ((gMo_played s0) + 2)))) + ((gMo_program s0) ((gMo_played s0) + 1))) + v3)) + 1) rfl ?_
        refine v_iast (g := (gMo_beads s0)) (ws' := (w_Mo K d0 (mkMo (gMo_thrown s0) (gMo_corners s0) (gMo_px s0) (gMo_py s0) (gMo_pz s0) (gMo_triangles s0) (gMo_named s0) (gMo_joined s0) (gMo_dropped s0) (gMo_closed s0) (gMo_layers s0) (gMo_thickness s0) (gMo_cuts s0) (gMo_cx s0) (gMo_cy s0) (gMo_cz s0) (gMo_solids s0) (gMo_shell s0) (gMo_skin s0) (gMo_period s0) (gMo_reach s0) (gMo_gap s0) (gMo_bytes s0) (gMo_played s0) (gMo_at s0) (gMo_program s0) (iset (gMo_beads s0) ((((144 * (gMo_at s0)) + (12 * ((gMo_program s0) ((gMo_played s0) + 2)))) + ((gMo_program s0) ((gMo_played s0) + 1))) + v3) (((gMo_beads s0) ((((144 * (gMo_at s0)) + (12 * ((gMo_program s0) ((gMo_played s0) + 2)))) + ((gMo_program s0) ((gMo_played s0) + 1))) + v3)) + 1)) (gMo_ring s0)))) gC 10 0 rfl rfl hg12 rfl (by decide) rfl d_Mo_play_123 ?_
        refine v_iinc (lv' := [(0, .ref (d0 0)), (1, .int (zI x1)), (2, .int (zI v2)), (3, .int (zI (v3 + 1)))]) gC d_Mo_play_124 3 rfl (by decide) (v3 + 1) rfl [1, 2, 3, 0] rfl ?_
        refine v_goto (tgt := 63) gC d_Mo_play_127 (by decide) ?_
        refine v_loc (lv' := [(0, .ref (d0 0)), (1, .int (zI x1)), (2, .int (zI v2)), (3, .int (zI (v3 + 1)))]) [0, 1, 2, 3] rfl ?_
        exact h)
  refine v_aload_n gC d_Mo_play_0 rfl 0 rfl ?_
  refine v_iconst gC d_Mo_play_1 ?_
  refine v_puti (ws' := (w_Mo K d0 (mkMo 0 (gMo_corners s0) (gMo_px s0) (gMo_py s0) (gMo_pz s0) (gMo_triangles s0) (gMo_named s0) (gMo_joined s0) (gMo_dropped s0) (gMo_closed s0) (gMo_layers s0) (gMo_thickness s0) (gMo_cuts s0) (gMo_cx s0) (gMo_cy s0) (gMo_cz s0) (gMo_solids s0) (gMo_shell s0) (gMo_skin s0) (gMo_period s0) (gMo_reach s0) (gMo_gap s0) (gMo_bytes s0) (gMo_played s0) (gMo_at s0) (gMo_program s0) (gMo_beads s0) (gMo_ring s0)))) gC in_Mo t_Mo ok_Mo n_Mo 0 rfl rfl 0 (by decide) fl_Mo_60 rfl (by decide +kernel) (Nat.le_of_ble_eq_true rfl) rfl d_Mo_play_2 ?_
  refine v_iconst gC d_Mo_play_5 ?_
  refine v_istore_n (lv' := [(0, .ref (d0 0)), (1, .int (zI x1)), (2, .int (zI 0))]) gC d_Mo_play_6 rfl (by decide) [1, 2, 0] rfl ?_
  refine v_loc (lv' := [(0, .ref (d0 0)), (1, .int (zI x1)), (2, .int (zI 0))]) [0, 1, 2] rfl ?_
  exact h
