set_option maxHeartbeats 4000000 in
set_option maxRecDepth 100000 in
theorem k_Me_onLattice (l : Launch) (D : va_G) (K : Nat → ClassId) (x0 : Int) (Q : Int → Prop) (h : wp_Me_onLattice x0 Q) : Kt l D K y_Me_onLattice b_Me_onLattice 1 (some .boolean) 0 0 [.int (zI x0)] [] (fun v w1 => ∃ (r : Int), v = some (.int (zI r)) ∧ w1 = [] ∧ Q r) := by
  refine Kt.ofZ (by decide +kernel) (Nat.le_of_ble_eq_true rfl) (lv0 := [(0, .int (zI x0))]) rfl ?_
  intro gp ge gR gs gm ga gb gh gc gA gQ gRf gRl gC gret
  unfold wp_Me_onLattice at h
  refine v_iload_n gC d_Me_onLattice_0 rfl 0 rfl ?_
  obtain ⟨hg1, h⟩ := h
  refine v_if_lt (tgt := 14) gC d_Me_onLattice_1 (by decide) hg1 (fun hc => ?_) (fun hc => ?_)
  · replace h := h.1 hc
    refine v_iconst gC d_Me_onLattice_14 ?_
    exact gret _ _ _ _ d_Me_onLattice_15 rfl ⟨0, rfl, rfl, h⟩
  · replace h := h.2 hc
    refine v_iload_n gC d_Me_onLattice_4 rfl 0 rfl ?_
    refine v_bipush gC d_Me_onLattice_5 (by decide) ?_
    refine v_icmp_gt (tgt := 14) gC d_Me_onLattice_7 (by decide) hg1 (by decide) (fun hc => ?_) (fun hc => ?_)
    · replace h := h.1 hc
      refine v_iconst gC d_Me_onLattice_14 ?_
      exact gret _ _ _ _ d_Me_onLattice_15 rfl ⟨0, rfl, rfl, h⟩
    · replace h := h.2 hc
      refine v_iconst gC d_Me_onLattice_10 ?_
      refine v_goto (tgt := 15) gC d_Me_onLattice_11 (by decide) ?_
      exact gret _ _ _ _ d_Me_onLattice_15 rfl ⟨1, rfl, rfl, h⟩

set_option maxHeartbeats 4000000 in
set_option maxRecDepth 100000 in
theorem k_Me_addCorner (l : Launch) (D : va_G) (K : Nat → ClassId) (d0 : Nat → Nat) (x1 : Int) (x2 : Int) (x3 : Int) (s0 : s_Me) (Q : Int → s_Me → Prop) (h : wp_Me_addCorner x1 x2 x3 s0 Q) : Kt l D K y_Me_addCorner b_Me_addCorner 4 (some .int) 1 20 [.ref (d0 0), .int (zI x1), .int (zI x2), .int (zI x3)] (w_Me K d0 s0) (fun v w1 => ∃ (r : Int), ∃ (u0 : s_Me), v = some (.int (zI r)) ∧ w1 = (w_Me K d0 u0) ∧ Q r u0) := by
  refine Kt.ofI (by decide +kernel) (Nat.le_of_ble_eq_true rfl) (lv0 := [(0, .ref (d0 0)), (1, .int (zI x1)), (2, .int (zI x2)), (3, .int (zI x3))]) rfl ?_
  intro gp ge gR gs gm ga gb gh gc gA gQ gRf gRl gC gret
  unfold wp_Me_addCorner at h
  refine v_aload_n gC d_Me_addCorner_0 rfl 0 rfl ?_
  refine v_get (v := .int (zI (gMe_corners s0))) gC in_Me 0 rfl rfl 3 (by decide) fl_Me_24 rfl d_Me_addCorner_1 ?_
  refine v_bipush gC d_Me_addCorner_4 (by decide) ?_
  obtain ⟨hg1, h⟩ := h
  refine v_icmp_eq (tgt := 30) gC d_Me_addCorner_6 (by decide) hg1 (by decide) (fun hc => ?_) (fun hc => ?_)
  · replace h := h.1 hc
    refine v_iconst gC d_Me_addCorner_30 ?_
    exact gret _ _ _ _ d_Me_addCorner_31 ⟨(-1), s0, rfl, rfl, h⟩
  · replace h := h.2 hc
    refine v_iload_n gC d_Me_addCorner_9 rfl 1 rfl ?_
    refine v_callS (rest := []) gC (k_Me_onLattice l D K x1 _ h) wS_Me_28 rfl ⟨by omega, by omega, Nat.zero_le _, Nat.zero_le _⟩ [] [0, 1, 2, 3, 4] rfl (by decide) rfl (by decide) (by decide) rfl (Nat.le_of_ble_eq_true rfl) d_Me_addCorner_10 (fun v w1 hp => ?_)
    obtain ⟨r2, rfl, rfl, h⟩ := hp
    refine v_after (ws' := (w_Me K d0 s0)) (st' := [.int (zI r2)]) [0, 1, 2, 3, 4] (by decide) rfl rfl ?_
    obtain ⟨hg3, h⟩ := h
    refine v_if_eq (tgt := 30) gC d_Me_addCorner_13 (by decide) hg3 (fun hc => ?_) (fun hc => ?_)
    · replace h := h.1 hc
      refine v_iconst gC d_Me_addCorner_30 ?_
      exact gret _ _ _ _ d_Me_addCorner_31 ⟨(-1), s0, rfl, rfl, h⟩
    · replace h := h.2 hc
      refine v_iload_n gC d_Me_addCorner_16 rfl 2 rfl ?_
      refine v_callS (rest := []) gC (k_Me_onLattice l D K x2 _ h) wS_Me_28 rfl ⟨by omega, by omega, Nat.zero_le _, Nat.zero_le _⟩ [] [0, 1, 2, 3, 4] rfl (by decide) rfl (by decide) (by decide) rfl (Nat.le_of_ble_eq_true rfl) d_Me_addCorner_17 (fun v w1 hp => ?_)
      obtain ⟨r4, rfl, rfl, h⟩ := hp
      refine v_after (ws' := (w_Me K d0 s0)) (st' := [.int (zI r4)]) [0, 1, 2, 3, 4] (by decide) rfl rfl ?_
      obtain ⟨hg5, h⟩ := h
      refine v_if_eq (tgt := 30) gC d_Me_addCorner_20 (by decide) hg5 (fun hc => ?_) (fun hc => ?_)
      · replace h := h.1 hc
        refine v_iconst gC d_Me_addCorner_30 ?_
        exact gret _ _ _ _ d_Me_addCorner_31 ⟨(-1), s0, rfl, rfl, h⟩
      · replace h := h.2 hc
        refine v_iload_n gC d_Me_addCorner_23 rfl 3 rfl ?_
        refine v_callS (rest := []) gC (k_Me_onLattice l D K x3 _ h) wS_Me_28 rfl ⟨by omega, by omega, Nat.zero_le _, Nat.zero_le _⟩ [] [0, 1, 2, 3, 4] rfl (by decide) rfl (by decide) (by decide) rfl (Nat.le_of_ble_eq_true rfl) d_Me_addCorner_24 (fun v w1 hp => ?_)
        obtain ⟨r6, rfl, rfl, h⟩ := hp
        refine v_after (ws' := (w_Me K d0 s0)) (st' := [.int (zI r6)]) [0, 1, 2, 3, 4] (by decide) rfl rfl ?_
        obtain ⟨hg7, h⟩ := h
        refine v_if_ne (tgt := 32) gC d_Me_addCorner_27 (by decide) hg7 (fun hc => ?_) (fun hc => ?_)
        · replace h := h.1 hc
          refine v_aload_n gC d_Me_addCorner_32 rfl 0 rfl ?_
          refine v_get (v := .ref (d0 1)) gC in_Me 0 rfl rfl 0 (by decide) fl_Me_9 rfl d_Me_addCorner_33 ?_
          refine v_aload_n gC d_Me_addCorner_36 rfl 0 rfl ?_
          refine v_get (v := .int (zI (gMe_corners s0))) gC in_Me 0 rfl rfl 3 (by decide) fl_Me_24 rfl d_Me_addCorner_37 ?_
          refine v_iload_n gC d_Me_addCorner_40 rfl 1 rfl ?_
          obtain ⟨hg8, h⟩ := h
          refine v_iast (g := (gMe_x s0)) (ws' := (w_Me K d0 (mkMe (iset (gMe_x s0) (gMe_corners s0) x1) (gMe_y s0) (gMe_z s0) (gMe_corners s0) (gMe_named s0) (gMe_triangles s0)))) gC 1 0 rfl rfl hg8 rfl (by decide) rfl d_Me_addCorner_41 ?_
          refine v_aload_n gC d_Me_addCorner_42 rfl 0 rfl ?_
          refine v_get (v := .ref (d0 2)) gC in_Me 0 rfl rfl 1 (by decide) fl_Me_15 rfl d_Me_addCorner_43 ?_
          refine v_aload_n gC d_Me_addCorner_46 rfl 0 rfl ?_
          refine v_get (v := .int (zI (gMe_corners s0))) gC in_Me 0 rfl rfl 3 (by decide) fl_Me_24 rfl d_Me_addCorner_47 ?_
          refine v_iload_n gC d_Me_addCorner_50 rfl 2 rfl ?_
          refine v_iast (g := (gMe_y s0)) (ws' := (w_Me K d0 (mkMe (iset (gMe_x s0) (gMe_corners s0) x1) (iset (gMe_y s0) (gMe_corners s0) x2) (gMe_z s0) (gMe_corners s0) (gMe_named s0) (gMe_triangles s0)))) gC 2 0 rfl rfl hg8 rfl (by decide) rfl d_Me_addCorner_51 ?_
          refine v_aload_n gC d_Me_addCorner_52 rfl 0 rfl ?_
          refine v_get (v := .ref (d0 3)) gC in_Me 0 rfl rfl 2 (by decide) fl_Me_18 rfl d_Me_addCorner_53 ?_
          refine v_aload_n gC d_Me_addCorner_56 rfl 0 rfl ?_
          refine v_get (v := .int (zI (gMe_corners s0))) gC in_Me 0 rfl rfl 3 (by decide) fl_Me_24 rfl d_Me_addCorner_57 ?_
          refine v_iload_n gC d_Me_addCorner_60 rfl 3 rfl ?_
          refine v_iast (g := (gMe_z s0)) (ws' := (w_Me K d0 (mkMe (iset (gMe_x s0) (gMe_corners s0) x1) (iset (gMe_y s0) (gMe_corners s0) x2) (iset (gMe_z s0) (gMe_corners s0) x3) (gMe_corners s0) (gMe_named s0) (gMe_triangles s0)))) gC 3 0 rfl rfl hg8 rfl (by decide) rfl d_Me_addCorner_61 ?_
          refine v_aload_n gC d_Me_addCorner_62 rfl 0 rfl ?_
          refine v_dup gC d_Me_addCorner_63 rfl ?_
          refine v_get (v := .int (zI (gMe_corners s0))) gC in_Me 0 rfl rfl 3 (by decide) fl_Me_24 rfl d_Me_addCorner_64 ?_
          refine v_iconst gC d_Me_addCorner_67 ?_
          refine v_iadd gC d_Me_addCorner_68 ((gMe_corners s0) + 1) rfl ?_
          refine v_puti (ws' := (w_Me K d0 (mkMe (iset (gMe_x s0) (gMe_corners s0) x1) (iset (gMe_y s0) (gMe_corners s0) x2) (iset (gMe_z s0) (gMe_corners s0) x3) ((gMe_corners s0) + 1) (gMe_named s0) (gMe_triangles s0)))) gC in_Me t_Me ok_Me n_Me 0 rfl rfl 3 (by decide) fl_Me_24 rfl (by decide +kernel) (Nat.le_of_ble_eq_true rfl) rfl d_Me_addCorner_69 ?_
          refine v_aload_n gC d_Me_addCorner_72 rfl 0 rfl ?_
          refine v_get (v := .int (zI ((gMe_corners s0) + 1))) gC in_Me 0 rfl rfl 3 (by decide) fl_Me_24 rfl d_Me_addCorner_73 ?_
          refine v_iconst gC d_Me_addCorner_76 ?_
          refine v_isub gC d_Me_addCorner_77 (((gMe_corners s0) + 1) - 1) rfl ?_
          exact gret _ _ _ _ d_Me_addCorner_78 ⟨((gMe_corners s0) + 1) - 1, (mkMe (iset (gMe_x s0) (gMe_corners s0) x1) (iset (gMe_y s0) (gMe_corners s0) x2) (iset (gMe_z s0) (gMe_corners s0) x3) ((gMe_corners s0) + 1) (gMe_named s0) (gMe_triangles s0)), rfl, rfl, h⟩
        · replace h := h.2 hc
          refine v_iconst gC d_Me_addCorner_30 ?_
          exact gret _ _ _ _ d_Me_addCorner_31 ⟨(-1), s0, rfl, rfl, h⟩

set_option maxHeartbeats 4000000 in
set_option maxRecDepth 100000 in
theorem k_LS_corner (l : Launch) (D : va_G) (K : Nat → ClassId) (d0 : Nat → Nat) (x1 : Int) (x2 : Int) (x3 : Int) (s0 : s_LS) (Q : Int → s_LS → Prop) (h : wp_LS_corner x1 x2 x3 s0 Q) : Kt l D K y_LS_corner b_LS_corner 4 (some .int) 2 43 [.ref (d0 0), .int (zI x1), .int (zI x2), .int (zI x3)] (w_LS K d0 s0) (fun v w1 => ∃ (r : Int), ∃ (u0 : s_LS), v = some (.int (zI r)) ∧ w1 = (w_LS K d0 u0) ∧ Q r u0) := by
  refine Kt.ofI (by decide +kernel) (Nat.le_of_ble_eq_true rfl) (lv0 := [(0, .ref (d0 0)), (1, .int (zI x1)), (2, .int (zI x2)), (3, .int (zI x3))]) rfl ?_
  intro gp ge gR gs gm ga gb gh gc gA gQ gRf gRl gC gret
  unfold wp_LS_corner at h
  refine v_aload_n gC d_LS_corner_0 rfl 0 rfl ?_
  refine v_get (v := .ref (d0 1)) gC in_LS 0 rfl rfl 0 (by decide) fl_LS_12 rfl d_LS_corner_1 ?_
  refine v_iload_n gC d_LS_corner_4 rfl 1 rfl ?_
  refine v_iload_n gC d_LS_corner_5 rfl 2 rfl ?_
  refine v_iload_n gC d_LS_corner_6 rfl 3 rfl ?_
  refine v_callV (rest := []) gC (k_Me_addCorner l D K (fun i => d0 (i + 1)) x1 x2 x3 (gLS_mesh s0) _ h) wV_LS_51 rfl ⟨by omega, by omega, Nat.zero_le _, Nat.zero_le _⟩ 0 rfl rfl [1, 2, 3, 4, 5] [0, 6, 7, 8, 9, 10, 11, 12, 13, 14, 15, 16, 17, 18, 19, 20, 21, 22, 23, 24, 25, 26, 27, 28, 29, 30, 31, 32, 33, 34] rfl (by decide) rfl (by decide) (by decide) rfl (Nat.le_of_ble_eq_true rfl) d_LS_corner_7 (fun v w1 hp => ?_)
  obtain ⟨r1, u2, rfl, rfl, h⟩ := hp
  refine v_after (ws' := (w_LS K d0 (mkLS u2 (gLS_mender s0) (gLS_slices s0) (gLS_sorter s0) (gLS_router s0) (gLS_printer s0)))) (st' := [.int (zI r1)]) [0, 30, 31, 32, 33, 34, 1, 2, 3, 4, 5, 6, 7, 8, 9, 10, 11, 12, 13, 14, 15, 16, 17, 18, 19, 20, 21, 22, 23, 24, 25, 26, 27, 28, 29] (by decide) rfl rfl ?_
  exact gret _ _ _ _ d_LS_corner_10 ⟨r1, (mkLS u2 (gLS_mender s0) (gLS_slices s0) (gLS_sorter s0) (gLS_router s0) (gLS_printer s0)), rfl, rfl, h⟩

set_option maxHeartbeats 4000000 in
set_option maxRecDepth 100000 in
theorem k_Me_hasCorner (l : Launch) (D : va_G) (K : Nat → ClassId) (d0 : Nat → Nat) (x1 : Int) (s0 : s_Me) (Q : Int → Prop) (h : wp_Me_hasCorner x1 s0 Q) : Kt l D K y_Me_hasCorner b_Me_hasCorner 2 (some .boolean) 0 0 [.ref (d0 0), .int (zI x1)] (w_Me K d0 s0) (fun v w1 => ∃ (r : Int), v = some (.int (zI r)) ∧ w1 = (w_Me K d0 s0) ∧ Q r) := by
  refine Kt.ofZ (by decide +kernel) (Nat.le_of_ble_eq_true rfl) (lv0 := [(0, .ref (d0 0)), (1, .int (zI x1))]) rfl ?_
  intro gp ge gR gs gm ga gb gh gc gA gQ gRf gRl gC gret
  unfold wp_Me_hasCorner at h
  refine v_iload_n gC d_Me_hasCorner_0 rfl 1 rfl ?_
  obtain ⟨hg1, h⟩ := h
  refine v_if_lt (tgt := 16) gC d_Me_hasCorner_1 (by decide) hg1 (fun hc => ?_) (fun hc => ?_)
  · replace h := h.1 hc
    refine v_iconst gC d_Me_hasCorner_16 ?_
    exact gret _ _ _ _ d_Me_hasCorner_17 rfl ⟨0, rfl, rfl, h⟩
  · replace h := h.2 hc
    refine v_iload_n gC d_Me_hasCorner_4 rfl 1 rfl ?_
    refine v_aload_n gC d_Me_hasCorner_5 rfl 0 rfl ?_
    refine v_get (v := .int (zI (gMe_corners s0))) gC in_Me 0 rfl rfl 3 (by decide) fl_Me_24 rfl d_Me_hasCorner_6 ?_
    obtain ⟨hg2, h⟩ := h
    refine v_icmp_ge (tgt := 16) gC d_Me_hasCorner_9 (by decide) hg1 hg2 (fun hc => ?_) (fun hc => ?_)
    · replace h := h.1 hc
      refine v_iconst gC d_Me_hasCorner_16 ?_
      exact gret _ _ _ _ d_Me_hasCorner_17 rfl ⟨0, rfl, rfl, h⟩
    · replace h := h.2 hc
      refine v_iconst gC d_Me_hasCorner_12 ?_
      refine v_goto (tgt := 17) gC d_Me_hasCorner_13 (by decide) ?_
      exact gret _ _ _ _ d_Me_hasCorner_17 rfl ⟨1, rfl, rfl, h⟩

set_option maxHeartbeats 4000000 in
set_option maxRecDepth 100000 in
theorem k_Me_name (l : Launch) (D : va_G) (K : Nat → ClassId) (d0 : Nat → Nat) (x1 : Int) (x2 : Int) (x3 : Int) (x4 : Int) (s0 : s_Me) (Q : s_Me → Prop) (h : wp_Me_name x1 x2 x3 x4 s0 Q) : Kt l D K y_Me_name b_Me_name 5 none 0 0 [.ref (d0 0), .int (zI x1), .int (zI x2), .int (zI x3), .int (zI x4)] (w_Me K d0 s0) (fun v w1 => ∃ (u0 : s_Me), v = none ∧ w1 = (w_Me K d0 u0) ∧ Q u0) := by
  refine Kt.ofV (by decide +kernel) (Nat.le_of_ble_eq_true rfl) (lv0 := [(0, .ref (d0 0)), (1, .int (zI x1)), (2, .int (zI x2)), (3, .int (zI x3)), (4, .int (zI x4))]) rfl ?_
  intro gp ge gR gs gm ga gb gh gc gA gQ gRf gRl gC gret
  unfold wp_Me_name at h
  refine v_aload_n gC d_Me_name_0 rfl 0 rfl ?_
  refine v_get (v := .ref (d0 4)) gC in_Me 0 rfl rfl 4 (by decide) fl_Me_21 rfl d_Me_name_1 ?_
  refine v_iconst gC d_Me_name_4 ?_
  refine v_iload_n gC d_Me_name_5 rfl 1 rfl ?_
  refine v_imul gC d_Me_name_6 (3 * x1) rfl ?_
  refine v_iload_n gC d_Me_name_7 rfl 2 rfl ?_
  obtain ⟨hg1, h⟩ := h
  refine v_iast (g := (gMe_named s0)) (ws' := (w_Me K d0 (mkMe (gMe_x s0) (gMe_y s0) (gMe_z s0) (gMe_corners s0) (iset (gMe_named s0) (3 * x1) x2) (gMe_triangles s0)))) gC 4 0 rfl rfl hg1 rfl (by decide) rfl d_Me_name_8 ?_
  refine v_aload_n gC d_Me_name_9 rfl 0 rfl ?_
  refine v_get (v := .ref (d0 4)) gC in_Me 0 rfl rfl 4 (by decide) fl_Me_21 rfl d_Me_name_10 ?_
  refine v_iconst gC d_Me_name_13 ?_
  refine v_iload_n gC d_Me_name_14 rfl 1 rfl ?_
  refine v_imul gC d_Me_name_15 (3 * x1) rfl ?_
  refine v_iconst gC d_Me_name_16 ?_
  refine v_iadd gC d_Me_name_17 ((3 * x1) + 1) rfl ?_
  refine v_iload_n gC d_Me_name_18 rfl 3 rfl ?_
  obtain ⟨hg2, h⟩ := h
  refine v_iast (g := (iset (gMe_named s0) (3 * x1) x2)) (ws' := (w_Me K d0 (mkMe (gMe_x s0) (gMe_y s0) (gMe_z s0) (gMe_corners s0) (iset (iset (gMe_named s0) (3 * x1) x2) ((3 * x1) + 1) x3) (gMe_triangles s0)))) gC 4 0 rfl rfl hg2 rfl (by decide) rfl d_Me_name_19 ?_
  refine v_aload_n gC d_Me_name_20 rfl 0 rfl ?_
  refine v_get (v := .ref (d0 4)) gC in_Me 0 rfl rfl 4 (by decide) fl_Me_21 rfl d_Me_name_21 ?_
  refine v_iconst gC d_Me_name_24 ?_
  refine v_iload_n gC d_Me_name_25 rfl 1 rfl ?_
  refine v_imul gC d_Me_name_26 (3 * x1) rfl ?_
  refine v_iconst gC d_Me_name_27 ?_
  refine v_iadd gC d_Me_name_28 ((3 * x1) + 2) rfl ?_
  refine v_iload gC d_Me_name_29 4 rfl ?_
  obtain ⟨hg3, h⟩ := h
  refine v_iast (g := (iset (iset (gMe_named s0) (3 * x1) x2) ((3 * x1) + 1) x3)) (ws' := (w_Me K d0 (mkMe (gMe_x s0) (gMe_y s0) (gMe_z s0) (gMe_corners s0) (iset (iset (iset (gMe_named s0) (3 * x1) x2) ((3 * x1) + 1) x3) ((3 * x1) + 2) x4) (gMe_triangles s0)))) gC 4 0 rfl rfl hg3 rfl (by decide) rfl d_Me_name_31 ?_
  exact gret _ _ _ d_Me_name_32 ⟨(mkMe (gMe_x s0) (gMe_y s0) (gMe_z s0) (gMe_corners s0) (iset (iset (iset (gMe_named s0) (3 * x1) x2) ((3 * x1) + 1) x3) ((3 * x1) + 2) x4) (gMe_triangles s0)), rfl, rfl, h⟩

set_option maxHeartbeats 4000000 in
set_option maxRecDepth 100000 in
theorem k_Me_addTriangle (l : Launch) (D : va_G) (K : Nat → ClassId) (d0 : Nat → Nat) (x1 : Int) (x2 : Int) (x3 : Int) (s0 : s_Me) (Q : Int → s_Me → Prop) (h : wp_Me_addTriangle x1 x2 x3 s0 Q) : Kt l D K y_Me_addTriangle b_Me_addTriangle 4 (some .int) 1 24 [.ref (d0 0), .int (zI x1), .int (zI x2), .int (zI x3)] (w_Me K d0 s0) (fun v w1 => ∃ (r : Int), ∃ (u0 : s_Me), v = some (.int (zI r)) ∧ w1 = (w_Me K d0 u0) ∧ Q r u0) := by
  refine Kt.ofI (by decide +kernel) (Nat.le_of_ble_eq_true rfl) (lv0 := [(0, .ref (d0 0)), (1, .int (zI x1)), (2, .int (zI x2)), (3, .int (zI x3))]) rfl ?_
  intro gp ge gR gs gm ga gb gh gc gA gQ gRf gRl gC gret
  unfold wp_Me_addTriangle at h
  refine v_aload_n gC d_Me_addTriangle_0 rfl 0 rfl ?_
  refine v_get (v := .int (zI (gMe_triangles s0))) gC in_Me 0 rfl rfl 5 (by decide) fl_Me_32 rfl d_Me_addTriangle_1 ?_
  refine v_bipush gC d_Me_addTriangle_4 (by decide) ?_
  obtain ⟨hg1, h⟩ := h
  refine v_icmp_eq (tgt := 33) gC d_Me_addTriangle_6 (by decide) hg1 (by decide) (fun hc => ?_) (fun hc => ?_)
  · replace h := h.1 hc
    refine v_iconst gC d_Me_addTriangle_33 ?_
    exact gret _ _ _ _ d_Me_addTriangle_34 ⟨(-1), s0, rfl, rfl, h⟩
  · replace h := h.2 hc
    refine v_aload_n gC d_Me_addTriangle_9 rfl 0 rfl ?_
    refine v_iload_n gC d_Me_addTriangle_10 rfl 1 rfl ?_
    refine v_callV (rest := []) gC (k_Me_hasCorner l D K d0 x1 s0 _ h) wV_Me_35 rfl ⟨by omega, by omega, Nat.zero_le _, Nat.zero_le _⟩ 0 rfl rfl [0, 1, 2, 3, 4] [] rfl (by decide) rfl (by decide) (by decide) rfl (Nat.le_of_ble_eq_true rfl) d_Me_addTriangle_11 (fun v w1 hp => ?_)
    obtain ⟨r2, rfl, rfl, h⟩ := hp
    refine v_after (ws' := (w_Me K d0 s0)) (st' := [.int (zI r2)]) [0, 1, 2, 3, 4] (by decide) rfl rfl ?_
    obtain ⟨hg3, h⟩ := h
    refine v_if_eq (tgt := 33) gC d_Me_addTriangle_14 (by decide) hg3 (fun hc => ?_) (fun hc => ?_)
    · replace h := h.1 hc
      refine v_iconst gC d_Me_addTriangle_33 ?_
      exact gret _ _ _ _ d_Me_addTriangle_34 ⟨(-1), s0, rfl, rfl, h⟩
    · replace h := h.2 hc
      refine v_aload_n gC d_Me_addTriangle_17 rfl 0 rfl ?_
      refine v_iload_n gC d_Me_addTriangle_18 rfl 2 rfl ?_
      refine v_callV (rest := []) gC (k_Me_hasCorner l D K d0 x2 s0 _ h) wV_Me_35 rfl ⟨by omega, by omega, Nat.zero_le _, Nat.zero_le _⟩ 0 rfl rfl [0, 1, 2, 3, 4] [] rfl (by decide) rfl (by decide) (by decide) rfl (Nat.le_of_ble_eq_true rfl) d_Me_addTriangle_19 (fun v w1 hp => ?_)
      obtain ⟨r4, rfl, rfl, h⟩ := hp
      refine v_after (ws' := (w_Me K d0 s0)) (st' := [.int (zI r4)]) [0, 1, 2, 3, 4] (by decide) rfl rfl ?_
      obtain ⟨hg5, h⟩ := h
      refine v_if_eq (tgt := 33) gC d_Me_addTriangle_22 (by decide) hg5 (fun hc => ?_) (fun hc => ?_)
      · replace h := h.1 hc
        refine v_iconst gC d_Me_addTriangle_33 ?_
        exact gret _ _ _ _ d_Me_addTriangle_34 ⟨(-1), s0, rfl, rfl, h⟩
      · replace h := h.2 hc
        refine v_aload_n gC d_Me_addTriangle_25 rfl 0 rfl ?_
        refine v_iload_n gC d_Me_addTriangle_26 rfl 3 rfl ?_
        refine v_callV (rest := []) gC (k_Me_hasCorner l D K d0 x3 s0 _ h) wV_Me_35 rfl ⟨by omega, by omega, Nat.zero_le _, Nat.zero_le _⟩ 0 rfl rfl [0, 1, 2, 3, 4] [] rfl (by decide) rfl (by decide) (by decide) rfl (Nat.le_of_ble_eq_true rfl) d_Me_addTriangle_27 (fun v w1 hp => ?_)
        obtain ⟨r6, rfl, rfl, h⟩ := hp
        refine v_after (ws' := (w_Me K d0 s0)) (st' := [.int (zI r6)]) [0, 1, 2, 3, 4] (by decide) rfl rfl ?_
        obtain ⟨hg7, h⟩ := h
        refine v_if_ne (tgt := 35) gC d_Me_addTriangle_30 (by decide) hg7 (fun hc => ?_) (fun hc => ?_)
        · replace h := h.1 hc
          refine v_aload_n gC d_Me_addTriangle_35 rfl 0 rfl ?_
          refine v_aload_n gC d_Me_addTriangle_36 rfl 0 rfl ?_
          refine v_get (v := .int (zI (gMe_triangles s0))) gC in_Me 0 rfl rfl 5 (by decide) fl_Me_32 rfl d_Me_addTriangle_37 ?_
          refine v_iload_n gC d_Me_addTriangle_40 rfl 1 rfl ?_
          refine v_iload_n gC d_Me_addTriangle_41 rfl 2 rfl ?_
          refine v_iload_n gC d_Me_addTriangle_42 rfl 3 rfl ?_
          refine v_callV (rest := []) gC (k_Me_name l D K d0 (gMe_triangles s0) x1 x2 x3 s0 _ h) wV_Me_38 rfl ⟨by omega, by omega, Nat.zero_le _, Nat.zero_le _⟩ 0 rfl rfl [0, 1, 2, 3, 4] [] rfl (by decide) rfl (by decide) (by decide) rfl (Nat.le_of_ble_eq_true rfl) d_Me_addTriangle_43 (fun v w1 hp => ?_)
          obtain ⟨u8, rfl, rfl, h⟩ := hp
          refine v_after (ws' := (w_Me K d0 u8)) (st' := []) [0, 1, 2, 3, 4] (by decide) rfl rfl ?_
          refine v_aload_n gC d_Me_addTriangle_46 rfl 0 rfl ?_
          refine v_dup gC d_Me_addTriangle_47 rfl ?_
          refine v_get (v := .int (zI (gMe_triangles u8))) gC in_Me 0 rfl rfl 5 (by decide) fl_Me_32 rfl d_Me_addTriangle_48 ?_
          refine v_iconst gC d_Me_addTriangle_51 ?_
          refine v_iadd gC d_Me_addTriangle_52 ((gMe_triangles u8) + 1) rfl ?_
          refine v_puti (ws' := (w_Me K d0 (mkMe (gMe_x u8) (gMe_y u8) (gMe_z u8) (gMe_corners u8) (gMe_named u8) ((gMe_triangles u8) + 1)))) gC in_Me t_Me ok_Me n_Me 0 rfl rfl 5 (by decide) fl_Me_32 rfl (by decide +kernel) (Nat.le_of_ble_eq_true rfl) rfl d_Me_addTriangle_53 ?_
          refine v_aload_n gC d_Me_addTriangle_56 rfl 0 rfl ?_
          refine v_get (v := .int (zI ((gMe_triangles u8) + 1))) gC in_Me 0 rfl rfl 5 (by decide) fl_Me_32 rfl d_Me_addTriangle_57 ?_
          refine v_iconst gC d_Me_addTriangle_60 ?_
          refine v_isub gC d_Me_addTriangle_61 (((gMe_triangles u8) + 1) - 1) rfl ?_
          exact gret _ _ _ _ d_Me_addTriangle_62 ⟨((gMe_triangles u8) + 1) - 1, (mkMe (gMe_x u8) (gMe_y u8) (gMe_z u8) (gMe_corners u8) (gMe_named u8) ((gMe_triangles u8) + 1)), rfl, rfl, h⟩
        · replace h := h.2 hc
          refine v_iconst gC d_Me_addTriangle_33 ?_
          exact gret _ _ _ _ d_Me_addTriangle_34 ⟨(-1), s0, rfl, rfl, h⟩

set_option maxHeartbeats 4000000 in
set_option maxRecDepth 100000 in
theorem k_LS_tri (l : Launch) (D : va_G) (K : Nat → ClassId) (d0 : Nat → Nat) (x1 : Int) (x2 : Int) (x3 : Int) (s0 : s_LS) (Q : Int → s_LS → Prop) (h : wp_LS_tri x1 x2 x3 s0 Q) : Kt l D K y_LS_tri b_LS_tri 4 (some .int) 2 47 [.ref (d0 0), .int (zI x1), .int (zI x2), .int (zI x3)] (w_LS K d0 s0) (fun v w1 => ∃ (r : Int), ∃ (u0 : s_LS), v = some (.int (zI r)) ∧ w1 = (w_LS K d0 u0) ∧ Q r u0) := by
  refine Kt.ofI (by decide +kernel) (Nat.le_of_ble_eq_true rfl) (lv0 := [(0, .ref (d0 0)), (1, .int (zI x1)), (2, .int (zI x2)), (3, .int (zI x3))]) rfl ?_
  intro gp ge gR gs gm ga gb gh gc gA gQ gRf gRl gC gret
  unfold wp_LS_tri at h
  refine v_aload_n gC d_LS_tri_0 rfl 0 rfl ?_
  refine v_get (v := .ref (d0 1)) gC in_LS 0 rfl rfl 0 (by decide) fl_LS_12 rfl d_LS_tri_1 ?_
  refine v_iload_n gC d_LS_tri_4 rfl 1 rfl ?_
  refine v_iload_n gC d_LS_tri_5 rfl 2 rfl ?_
  refine v_iload_n gC d_LS_tri_6 rfl 3 rfl ?_
  refine v_callV (rest := []) gC (k_Me_addTriangle l D K (fun i => d0 (i + 1)) x1 x2 x3 (gLS_mesh s0) _ h) wV_LS_55 rfl ⟨by omega, by omega, Nat.zero_le _, Nat.zero_le _⟩ 0 rfl rfl [1, 2, 3, 4, 5] [0, 6, 7, 8, 9, 10, 11, 12, 13, 14, 15, 16, 17, 18, 19, 20, 21, 22, 23, 24, 25, 26, 27, 28, 29, 30, 31, 32, 33, 34] rfl (by decide) rfl (by decide) (by decide) rfl (Nat.le_of_ble_eq_true rfl) d_LS_tri_7 (fun v w1 hp => ?_)
  obtain ⟨r1, u2, rfl, rfl, h⟩ := hp
  refine v_after (ws' := (w_LS K d0 (mkLS u2 (gLS_mender s0) (gLS_slices s0) (gLS_sorter s0) (gLS_router s0) (gLS_printer s0)))) (st' := [.int (zI r1)]) [0, 30, 31, 32, 33, 34, 1, 2, 3, 4, 5, 6, 7, 8, 9, 10, 11, 12, 13, 14, 15, 16, 17, 18, 19, 20, 21, 22, 23, 24, 25, 26, 27, 28, 29] (by decide) rfl rfl ?_
  exact gret _ _ _ _ d_LS_tri_10 ⟨r1, (mkLS u2 (gLS_mender s0) (gLS_slices s0) (gLS_sorter s0) (gLS_router s0) (gLS_printer s0)), rfl, rfl, h⟩

set_option maxHeartbeats 4000000 in
set_option maxRecDepth 100000 in
theorem k_Me_samePlace (l : Launch) (D : va_G) (K : Nat → ClassId) (d0 : Nat → Nat) (x1 : Int) (x2 : Int) (s0 : s_Me) (Q : Int → Prop) (h : wp_Me_samePlace x1 x2 s0 Q) : Kt l D K y_Me_samePlace b_Me_samePlace 3 (some .boolean) 0 0 [.ref (d0 0), .int (zI x1), .int (zI x2)] (w_Me K d0 s0) (fun v w1 => ∃ (r : Int), v = some (.int (zI r)) ∧ w1 = (w_Me K d0 s0) ∧ Q r) := by
  refine Kt.ofZ (by decide +kernel) (Nat.le_of_ble_eq_true rfl) (lv0 := [(0, .ref (d0 0)), (1, .int (zI x1)), (2, .int (zI x2))]) rfl ?_
  intro gp ge gR gs gm ga gb gh gc gA gQ gRf gRl gC gret
  unfold wp_Me_samePlace at h
  refine v_aload_n gC d_Me_samePlace_0 rfl 0 rfl ?_
  refine v_get (v := .ref (d0 1)) gC in_Me 0 rfl rfl 0 (by decide) fl_Me_9 rfl d_Me_samePlace_1 ?_
  refine v_iload_n gC d_Me_samePlace_4 rfl 1 rfl ?_
  obtain ⟨hg1, h⟩ := h
  refine v_iald (g := (gMe_x s0)) gC 1 0 rfl rfl hg1 rfl (by decide) d_Me_samePlace_5 ?_
  refine v_aload_n gC d_Me_samePlace_6 rfl 0 rfl ?_
  refine v_get (v := .ref (d0 1)) gC in_Me 0 rfl rfl 0 (by decide) fl_Me_9 rfl d_Me_samePlace_7 ?_
  refine v_iload_n gC d_Me_samePlace_10 rfl 2 rfl ?_
  obtain ⟨hg2, h⟩ := h
  refine v_iald (g := (gMe_x s0)) gC 1 0 rfl rfl hg2 rfl (by decide) d_Me_samePlace_11 ?_
  obtain ⟨hg3, hg4, h⟩ := h
  refine v_icmp_ne (tgt := 49) gC d_Me_samePlace_12 (by decide) hg3 hg4 (fun hc => ?_) (fun hc => ?_)
  · replace h := h.1 hc
    refine v_iconst gC d_Me_samePlace_49 ?_
    exact gret _ _ _ _ d_Me_samePlace_50 rfl ⟨0, rfl, rfl, h⟩
  · replace h := h.2 hc
    refine v_aload_n gC d_Me_samePlace_15 rfl 0 rfl ?_
    refine v_get (v := .ref (d0 2)) gC in_Me 0 rfl rfl 1 (by decide) fl_Me_15 rfl d_Me_samePlace_16 ?_
    refine v_iload_n gC d_Me_samePlace_19 rfl 1 rfl ?_
    refine v_iald (g := (gMe_y s0)) gC 2 0 rfl rfl hg1 rfl (by decide) d_Me_samePlace_20 ?_
    refine v_aload_n gC d_Me_samePlace_21 rfl 0 rfl ?_
    refine v_get (v := .ref (d0 2)) gC in_Me 0 rfl rfl 1 (by decide) fl_Me_15 rfl d_Me_samePlace_22 ?_
    refine v_iload_n gC d_Me_samePlace_25 rfl 2 rfl ?_
    refine v_iald (g := (gMe_y s0)) gC 2 0 rfl rfl hg2 rfl (by decide) d_Me_samePlace_26 ?_
    obtain ⟨hg5, hg6, h⟩ := h
    refine v_icmp_ne (tgt := 49) gC d_Me_samePlace_27 (by decide) hg5 hg6 (fun hc => ?_) (fun hc => ?_)
    · replace h := h.1 hc
      refine v_iconst gC d_Me_samePlace_49 ?_
      exact gret _ _ _ _ d_Me_samePlace_50 rfl ⟨0, rfl, rfl, h⟩
    · replace h := h.2 hc
      refine v_aload_n gC d_Me_samePlace_30 rfl 0 rfl ?_
      refine v_get (v := .ref (d0 3)) gC in_Me 0 rfl rfl 2 (by decide) fl_Me_18 rfl d_Me_samePlace_31 ?_
      refine v_iload_n gC d_Me_samePlace_34 rfl 1 rfl ?_
      refine v_iald (g := (gMe_z s0)) gC 3 0 rfl rfl hg1 rfl (by decide) d_Me_samePlace_35 ?_
      refine v_aload_n gC d_Me_samePlace_36 rfl 0 rfl ?_
      refine v_get (v := .ref (d0 3)) gC in_Me 0 rfl rfl 2 (by decide) fl_Me_18 rfl d_Me_samePlace_37 ?_
      refine v_iload_n gC d_Me_samePlace_40 rfl 2 rfl ?_
      refine v_iald (g := (gMe_z s0)) gC 3 0 rfl rfl hg2 rfl (by decide) d_Me_samePlace_41 ?_
      obtain ⟨hg7, hg8, h⟩ := h
      refine v_icmp_ne (tgt := 49) gC d_Me_samePlace_42 (by decide) hg7 hg8 (fun hc => ?_) (fun hc => ?_)
      · replace h := h.1 hc
        refine v_iconst gC d_Me_samePlace_49 ?_
        exact gret _ _ _ _ d_Me_samePlace_50 rfl ⟨0, rfl, rfl, h⟩
      · replace h := h.2 hc
        refine v_iconst gC d_Me_samePlace_45 ?_
        refine v_goto (tgt := 50) gC d_Me_samePlace_46 (by decide) ?_
        exact gret _ _ _ _ d_Me_samePlace_50 rfl ⟨1, rfl, rfl, h⟩

set_option maxHeartbeats 4000000 in
set_option maxRecDepth 100000 in
theorem k_Mn_lowestAtPlaceOf (l : Launch) (D : va_G) (K : Nat → ClassId) (d0 : Nat → Nat) (x1 : Int) (s0 : s_Me) (Q : Int → Prop) (h : wp_Mn_lowestAtPlaceOf x1 s0 Q) : Kt l D K y_Mn_lowestAtPlaceOf b_Mn_lowestAtPlaceOf 3 (some .int) 1 22 [.ref (d0 0), .int (zI x1)] (w_Me K d0 s0) (fun v w1 => ∃ (r : Int), v = some (.int (zI r)) ∧ w1 = (w_Me K d0 s0) ∧ Q r) := by
  refine Kt.ofI (by decide +kernel) (Nat.le_of_ble_eq_true rfl) (lv0 := [(0, .ref (d0 0)), (1, .int (zI x1))]) rfl ?_
  intro gp ge gR gs gm ga gb gh gc gA gQ gRf gRl gC gret
  unfold wp_Mn_lowestAtPlaceOf at h
  replace h := h
    (fun (v2 : Int) => V gp l ge gR gs gm ga gb gh gc D gA 3 0 0 gQ (w_Me K d0 s0) 2 [(0, .ref (d0 0)), (1, .int (zI x1)), (2, .int (zI v2))] [])
    (by
      intro v2 h
      refine v_iload_n gC d_Mn_lowestAtPlaceOf_2 rfl 2 rfl ?_
      refine v_iload_n gC d_Mn_lowestAtPlaceOf_3 rfl 1 rfl ?_
      obtain ⟨hg1, hg2, h⟩ := h
      refine v_icmp_ge (tgt := 24) gC d_Mn_lowestAtPlaceOf_4 (by decide) hg1 hg2 (fun hc => ?_) (fun hc => ?_)
      · replace h := h.1 hc
        refine v_iload_n gC d_Mn_lowestAtPlaceOf_24 rfl 1 rfl ?_
        exact gret _ _ _ _ d_Mn_lowestAtPlaceOf_25 ⟨x1, rfl, rfl, h⟩
      · replace h := h.2 hc
        refine v_aload_n gC d_Mn_lowestAtPlaceOf_7 rfl 0 rfl ?_
        refine v_iload_n gC d_Mn_lowestAtPlaceOf_8 rfl 2 rfl ?_
        refine v_iload_n gC d_Mn_lowestAtPlaceOf_9 rfl 1 rfl ?_
        refine v_callV (rest := []) gC (k_Me_samePlace l D K d0 v2 x1 s0 _ h) wV_Mn_65 rfl ⟨by omega, by omega, Nat.zero_le _, Nat.zero_le _⟩ 0 rfl rfl [0, 1, 2, 3, 4] [] rfl (by decide) rfl (by decide) (by decide) rfl (Nat.le_of_ble_eq_true rfl) d_Mn_lowestAtPlaceOf_10 (fun v w1 hp => ?_)
        obtain ⟨r3, rfl, rfl, h⟩ := hp
        refine v_after (ws' := (w_Me K d0 s0)) (st' := [.int (zI r3)]) [0, 1, 2, 3, 4] (by decide) rfl rfl ?_
        obtain ⟨hg4, h⟩ := h
        refine v_if_eq (tgt := 18) gC d_Mn_lowestAtPlaceOf_13 (by decide) hg4 (fun hc => ?_) (fun hc => ?_)
        · replace h := h.1 hc
          refine v_iinc (lv' := [(0, .ref (d0 0)), (1, .int (zI x1)), (2, .int (zI (v2 + 1)))]) gC d_Mn_lowestAtPlaceOf_18 2 rfl (by decide) (v2 + 1) rfl [1, 2, 0] rfl ?_
          refine v_goto (tgt := 2) gC d_Mn_lowestAtPlaceOf_21 (by decide) ?_
          refine v_loc (lv' := [(0, .ref (d0 0)), (1, .int (zI x1)), (2, .int (zI (v2 + 1)))]) [0, 1, 2] rfl ?_
          exact h
        · replace h := h.2 hc
          refine v_iload_n gC d_Mn_lowestAtPlaceOf_16 rfl 2 rfl ?_
          exact gret _ _ _ _ d_Mn_lowestAtPlaceOf_17 ⟨v2, rfl, rfl, h⟩)
  refine v_iconst gC d_Mn_lowestAtPlaceOf_0 ?_
  refine v_istore_n (lv' := [(0, .ref (d0 0)), (1, .int (zI x1)), (2, .int (zI 0))]) gC d_Mn_lowestAtPlaceOf_1 rfl (by decide) [1, 2, 0] rfl ?_
  refine v_loc (lv' := [(0, .ref (d0 0)), (1, .int (zI x1)), (2, .int (zI 0))]) [0, 1, 2] rfl ?_
  exact h

set_option maxHeartbeats 4000000 in
set_option maxRecDepth 100000 in
theorem k_Mn_joinCorners (l : Launch) (D : va_G) (K : Nat → ClassId) (d0 : Nat → Nat) (d1 : Nat → Nat) (s0 : s_Mn) (s1 : s_Me) (Q : s_Mn → s_Me → Prop) (h : wp_Mn_joinCorners s0 s1 Q) : Kt l D K y_Mn_joinCorners b_Mn_joinCorners 4 none 2 44 [.ref (d0 0), .ref (d1 0)] (w_Mn K d0 s0 ++ w_Me K d1 s1) (fun v w1 => ∃ (u0 : s_Mn), ∃ (u1 : s_Me), v = none ∧ w1 = (w_Mn K d0 u0 ++ w_Me K d1 u1) ∧ Q u0 u1) := by
  refine Kt.ofV (by decide +kernel) (Nat.le_of_ble_eq_true rfl) (lv0 := [(0, .ref (d0 0)), (1, .ref (d1 0))]) rfl ?_
  intro gp ge gR gs gm ga gb gh gc gA gQ gRf gRl gC gret
  unfold wp_Mn_joinCorners at h
  replace h := h
    (fun (v2 : Int) (s0 : s_Mn) (s1 : s_Me) => V gp l ge gR gs gm ga gb gh gc D gA 4 0 0 gQ (w_Mn K d0 s0 ++ w_Me K d1 s1) 2 [(0, .ref (d0 0)), (1, .ref (d1 0)), (2, .int (zI v2))] [])
    (fun (v2 : Int) (s0 : s_Mn) (s1 : s_Me) => V gp l ge gR gs gm ga gb gh gc D gA 4 0 0 gQ (w_Mn K d0 s0 ++ w_Me K d1 s1) 36 [(0, .ref (d0 0)), (1, .ref (d1 0)), (2, .int (zI v2))] [])
    (by
      intro v2 s0 s1 h
      refine v_iload_n gC d_Mn_joinCorners_2 rfl 2 rfl ?_
      refine v_aload_n gC d_Mn_joinCorners_3 rfl 1 rfl ?_
      refine v_get (v := .int (zI (gMe_corners s1))) gC in_Me 6 rfl rfl 3 (by decide) fl_Mn_42 rfl d_Mn_joinCorners_4 ?_
      obtain ⟨hg1, hg2, h⟩ := h
      refine v_icmp_ge (tgt := 34) gC d_Mn_joinCorners_7 (by decide) hg1 hg2 (fun hc => ?_) (fun hc => ?_)
      · replace h := h.1 hc
        refine v_iconst gC d_Mn_joinCorners_34 ?_
        refine v_istore_n (lv' := [(0, .ref (d0 0)), (1, .ref (d1 0)), (2, .int (zI 0))]) gC d_Mn_joinCorners_35 rfl (by decide) [1, 2, 0] rfl ?_
        refine v_loc (lv' := [(0, .ref (d0 0)), (1, .ref (d1 0)), (2, .int (zI 0))]) [0, 1, 2] rfl ?_
        exact h
      · replace h := h.2 hc
        refine v_aload_n gC d_Mn_joinCorners_10 rfl 0 rfl ?_
        refine v_get (v := .ref (d0 1)) gC in_Mn 0 rfl rfl 3 (by decide) fl_Mn_9 rfl d_Mn_joinCorners_11 ?_
        refine v_iload_n gC d_Mn_joinCorners_14 rfl 2 rfl ?_
        refine v_aload_n gC d_Mn_joinCorners_15 rfl 1 rfl ?_
        refine v_iload_n gC d_Mn_joinCorners_16 rfl 2 rfl ?_
        refine v_callS (rest := [.int (zI v2), .ref (d0 1)]) gC (k_Mn_lowestAtPlaceOf l D K d1 v2 s1 _ h) wS_Mn_52 rfl ⟨by omega, by omega, Nat.zero_le _, Nat.zero_le _⟩ [6, 7, 8, 9, 10] [0, 1, 2, 3, 4, 5] rfl (by decide) rfl (by decide) (by decide) rfl (Nat.le_of_ble_eq_true rfl) d_Mn_joinCorners_17 (fun v w1 hp => ?_)
        obtain ⟨r3, rfl, rfl, h⟩ := hp
        refine v_after (ws' := (w_Mn K d0 s0 ++ w_Me K d1 s1)) (st' := [.int (zI r3), .int (zI v2), .ref (d0 1)]) [0, 1, 2, 3, 4, 5, 6, 7, 8, 9, 10] (by decide) rfl rfl ?_
        obtain ⟨hg4, h⟩ := h
        refine v_iast (g := (gMn_lowestHere s0)) (ws' := (w_Mn K d0 (mkMn (gMn_joined s0) (gMn_dropped s0) (gMn_closed s0) (iset (gMn_lowestHere s0) v2 r3) (gMn_counted s0) (gMn_balance s0) (gMn_openFrom s0) (gMn_hole s0)) ++ w_Me K d1 s1)) gC 1 0 rfl rfl hg4 rfl (by decide) rfl d_Mn_joinCorners_20 ?_
        refine v_aload_n gC d_Mn_joinCorners_21 rfl 0 rfl ?_
        refine v_get (v := .ref (d0 2)) gC in_Mn 0 rfl rfl 4 (by decide) fl_Mn_15 rfl d_Mn_joinCorners_22 ?_
        refine v_iload_n gC d_Mn_joinCorners_25 rfl 2 rfl ?_
        refine v_iconst gC d_Mn_joinCorners_26 ?_
        refine v_zast (g := (gMn_counted s0)) (ws' := (w_Mn K d0 (mkMn (gMn_joined s0) (gMn_dropped s0) (gMn_closed s0) (iset (gMn_lowestHere s0) v2 r3) (iset (gMn_counted s0) v2 0) (gMn_balance s0) (gMn_openFrom s0) (gMn_hole s0)) ++ w_Me K d1 s1)) gC 2 1 rfl rfl hg4 rfl (by decide) (by decide) rfl d_Mn_joinCorners_27 ?_
        refine v_iinc (lv' := [(0, .ref (d0 0)), (1, .ref (d1 0)), (2, .int (zI (v2 + 1)))]) gC d_Mn_joinCorners_28 2 rfl (by decide) (v2 + 1) rfl [1, 2, 0] rfl ?_
        refine v_goto (tgt := 2) gC d_Mn_joinCorners_31 (by decide) ?_
        refine v_loc (lv' := [(0, .ref (d0 0)), (1, .ref (d1 0)), (2, .int (zI (v2 + 1)))]) [0, 1, 2] rfl ?_
        exact h)
    (by
      intro v2 s0 s1 h
      refine v_iload_n gC d_Mn_joinCorners_36 rfl 2 rfl ?_
      refine v_iconst gC d_Mn_joinCorners_37 ?_
      refine v_aload_n gC d_Mn_joinCorners_38 rfl 1 rfl ?_
      refine v_get (v := .int (zI (gMe_triangles s1))) gC in_Me 6 rfl rfl 5 (by decide) fl_Mn_56 rfl d_Mn_joinCorners_39 ?_
      refine v_imul gC d_Mn_joinCorners_42 (3 * (gMe_triangles s1)) rfl ?_
      obtain ⟨hg5, hg6, h⟩ := h
      refine v_icmp_ge (tgt := 107) gC d_Mn_joinCorners_43 (by decide) hg5 hg6 (fun hc => ?_) (fun hc => ?_)
      · replace h := h.1 hc
        exact gret _ _ _ d_Mn_joinCorners_107 ⟨s0, s1, rfl, rfl, h⟩
      · replace h := h.2 hc
        refine v_aload_n gC d_Mn_joinCorners_46 rfl 1 rfl ?_
        refine v_get (v := .ref (d1 4)) gC in_Me 6 rfl rfl 4 (by decide) fl_Mn_59 rfl d_Mn_joinCorners_47 ?_
        refine v_iload_n gC d_Mn_joinCorners_50 rfl 2 rfl ?_
        obtain ⟨hg7, h⟩ := h
        refine v_iald (g := (gMe_named s1)) gC 10 0 rfl rfl hg7 rfl (by decide) d_Mn_joinCorners_51 ?_
        refine v_istore_n (lv' := [(0, .ref (d0 0)), (1, .ref (d1 0)), (2, .int (zI v2)), (3, .int (zI ((gMe_named s1) v2)))]) gC d_Mn_joinCorners_52 rfl (by decide) [1, 2, 3, 0] rfl ?_
        refine v_aload_n gC d_Mn_joinCorners_53 rfl 0 rfl ?_
        refine v_get (v := .ref (d0 1)) gC in_Mn 0 rfl rfl 3 (by decide) fl_Mn_9 rfl d_Mn_joinCorners_54 ?_
        refine v_iload_n gC d_Mn_joinCorners_57 rfl 3 rfl ?_
        obtain ⟨hg8, h⟩ := h
        refine v_iald (g := (gMn_lowestHere s0)) gC 1 0 rfl rfl hg8 rfl (by decide) d_Mn_joinCorners_58 ?_
        refine v_iload_n gC d_Mn_joinCorners_59 rfl 3 rfl ?_
        obtain ⟨hg9, h⟩ := h
        refine v_icmp_eq (tgt := 89) gC d_Mn_joinCorners_60 (by decide) hg9 (rg_ix hg8 (by decide)) (fun hc => ?_) (fun hc => ?_)
        · replace h := h.1 hc
          refine v_aload_n gC d_Mn_joinCorners_89 rfl 1 rfl ?_
          refine v_get (v := .ref (d1 4)) gC in_Me 6 rfl rfl 4 (by decide) fl_Mn_59 rfl d_Mn_joinCorners_90 ?_
          refine v_iload_n gC d_Mn_joinCorners_93 rfl 2 rfl ?_
          refine v_aload_n gC d_Mn_joinCorners_94 rfl 0 rfl ?_
          refine v_get (v := .ref (d0 1)) gC in_Mn 0 rfl rfl 3 (by decide) fl_Mn_9 rfl d_Mn_joinCorners_95 ?_
          refine v_iload_n gC d_Mn_joinCorners_98 rfl 3 rfl ?_
          refine v_iald (g := (gMn_lowestHere s0)) gC 1 0 rfl rfl hg8 rfl (by decide) d_Mn_joinCorners_99 ?_
          refine v_iast (g := (gMe_named s1)) (ws' := (w_Mn K d0 s0 ++ w_Me K d1 (mkMe (gMe_x s1) (gMe_y s1) (gMe_z s1) (gMe_corners s1) (iset (gMe_named s1) v2 ((gMn_lowestHere s0) ((gMe_named s1) v2))) (gMe_triangles s1)))) gC 10 0 rfl rfl hg7 rfl (by decide) rfl d_Mn_joinCorners_100 ?_
          refine v_iinc (lv' := [(0, .ref (d0 0)), (1, .ref (d1 0)), (2, .int (zI (v2 + 1))), (3, .int (zI ((gMe_named s1) v2)))]) gC d_Mn_joinCorners_101 2 rfl (by decide) (v2 + 1) rfl [1, 2, 0, 3] rfl ?_
          refine v_goto (tgt := 36) gC d_Mn_joinCorners_104 (by decide) ?_
          refine v_loc (lv' := [(0, .ref (d0 0)), (1, .ref (d1 0)), (2, .int (zI (v2 + 1)))]) [0, 1, 2] rfl ?_
          exact h
        · replace h := h.2 hc
          refine v_aload_n gC d_Mn_joinCorners_63 rfl 0 rfl ?_
          refine v_get (v := .ref (d0 2)) gC in_Mn 0 rfl rfl 4 (by decide) fl_Mn_15 rfl d_Mn_joinCorners_64 ?_
          refine v_iload_n gC d_Mn_joinCorners_67 rfl 3 rfl ?_
          refine v_zald (g := (gMn_counted s0)) gC 2 1 rfl rfl hg8 rfl (by decide) d_Mn_joinCorners_68 ?_
          obtain ⟨hg10, h⟩ := h
          refine v_if_ne (tgt := 89) gC d_Mn_joinCorners_69 (by decide) hg10 (fun hc => ?_) (fun hc => ?_)
          · replace h := h.1 hc
            refine v_aload_n gC d_Mn_joinCorners_89 rfl 1 rfl ?_
            refine v_get (v := .ref (d1 4)) gC in_Me 6 rfl rfl 4 (by decide) fl_Mn_59 rfl d_Mn_joinCorners_90 ?_
            refine v_iload_n gC d_Mn_joinCorners_93 rfl 2 rfl ?_
            refine v_aload_n gC d_Mn_joinCorners_94 rfl 0 rfl ?_
            refine v_get (v := .ref (d0 1)) gC in_Mn 0 rfl rfl 3 (by decide) fl_Mn_9 rfl d_Mn_joinCorners_95 ?_
            refine v_iload_n gC d_Mn_joinCorners_98 rfl 3 rfl ?_
            refine v_iald (g := (gMn_lowestHere s0)) gC 1 0 rfl rfl hg8 rfl (by decide) d_Mn_joinCorners_99 ?_
            refine v_iast (g := (gMe_named s1)) (ws' := (w_Mn K d0 s0 ++ w_Me K d1 (mkMe (gMe_x s1) (gMe_y s1) (gMe_z s1) (gMe_corners s1) (iset (gMe_named s1) v2 ((gMn_lowestHere s0) ((gMe_named s1) v2))) (gMe_triangles s1)))) gC 10 0 rfl rfl hg7 rfl (by decide) rfl d_Mn_joinCorners_100 ?_
            refine v_iinc (lv' := [(0, .ref (d0 0)), (1, .ref (d1 0)), (2, .int (zI (v2 + 1))), (3, .int (zI ((gMe_named s1) v2)))]) gC d_Mn_joinCorners_101 2 rfl (by decide) (v2 + 1) rfl [1, 2, 0, 3] rfl ?_
            refine v_goto (tgt := 36) gC d_Mn_joinCorners_104 (by decide) ?_
            refine v_loc (lv' := [(0, .ref (d0 0)), (1, .ref (d1 0)), (2, .int (zI (v2 + 1)))]) [0, 1, 2] rfl ?_
            exact h
          · replace h := h.2 hc
            refine v_aload_n gC d_Mn_joinCorners_72 rfl 0 rfl ?_
            refine v_get (v := .ref (d0 2)) gC in_Mn 0 rfl rfl 4 (by decide) fl_Mn_15 rfl d_Mn_joinCorners_73 ?_
            refine v_iload_n gC d_Mn_joinCorners_76 rfl 3 rfl ?_
            refine v_iconst gC d_Mn_joinCorners_77 ?_
            refine v_zast (g := (gMn_counted s0)) (ws' := (w_Mn K d0 (mkMn (gMn_joined s0) (gMn_dropped s0) (gMn_closed s0) (gMn_lowestHere s0) (iset (gMn_counted s0) ((gMe_named s1) v2) 1) (gMn_balance s0) (gMn_openFrom s0) (gMn_hole s0)) ++ w_Me K d1 s1)) gC 2 1 rfl rfl hg8 rfl (by decide) (by decide) rfl d_Mn_joinCorners_78 ?_
            refine v_aload_n gC d_Mn_joinCorners_79 rfl 0 rfl ?_
            refine v_dup gC d_Mn_joinCorners_80 rfl ?_
            refine v_get (v := .int (zI (gMn_joined s0))) gC in_Mn 0 rfl rfl 0 (by decide) fl_Mn_62 rfl d_Mn_joinCorners_81 ?_
            refine v_iconst gC d_Mn_joinCorners_84 ?_
            refine v_iadd gC d_Mn_joinCorners_85 ((gMn_joined s0) + 1) rfl ?_
            refine v_puti (ws' := (w_Mn K d0 (mkMn ((gMn_joined s0) + 1) (gMn_dropped s0) (gMn_closed s0) (gMn_lowestHere s0) (iset (gMn_counted s0) ((gMe_named s1) v2) 1) (gMn_balance s0) (gMn_openFrom s0) (gMn_hole s0)) ++ w_Me K d1 s1)) gC in_Mn t_Mn ok_Mn n_Mn 0 rfl rfl 0 (by decide) fl_Mn_62 rfl (by decide +kernel) (Nat.le_of_ble_eq_true rfl) rfl d_Mn_joinCorners_86 ?_
            refine v_aload_n gC d_Mn_joinCorners_89 rfl 1 rfl ?_
            refine v_get (v := .ref (d1 4)) gC in_Me 6 rfl rfl 4 (by decide) fl_Mn_59 rfl d_Mn_joinCorners_90 ?_
            refine v_iload_n gC d_Mn_joinCorners_93 rfl 2 rfl ?_
            refine v_aload_n gC d_Mn_joinCorners_94 rfl 0 rfl ?_
            refine v_get (v := .ref (d0 1)) gC in_Mn 0 rfl rfl 3 (by decide) fl_Mn_9 rfl d_Mn_joinCorners_95 ?_
            refine v_iload_n gC d_Mn_joinCorners_98 rfl 3 rfl ?_
            refine v_iald (g := (gMn_lowestHere s0)) gC 1 0 rfl rfl hg8 rfl (by decide) d_Mn_joinCorners_99 ?_
            refine v_iast (g := (gMe_named s1)) (ws' := (w_Mn K d0 (mkMn ((gMn_joined s0) + 1) (gMn_dropped s0) (gMn_closed s0) (gMn_lowestHere s0) (iset (gMn_counted s0) ((gMe_named s1) v2) 1) (gMn_balance s0) (gMn_openFrom s0) (gMn_hole s0)) ++ w_Me K d1 (mkMe (gMe_x s1) (gMe_y s1) (gMe_z s1) (gMe_corners s1) (iset (gMe_named s1) v2 ((gMn_lowestHere s0) ((gMe_named s1) v2))) (gMe_triangles s1)))) gC 10 0 rfl rfl hg7 rfl (by decide) rfl d_Mn_joinCorners_100 ?_
            refine v_iinc (lv' := [(0, .ref (d0 0)), (1, .ref (d1 0)), (2, .int (zI (v2 + 1))), (3, .int (zI ((gMe_named s1) v2)))]) gC d_Mn_joinCorners_101 2 rfl (by decide) (v2 + 1) rfl [1, 2, 0, 3] rfl ?_
            refine v_goto (tgt := 36) gC d_Mn_joinCorners_104 (by decide) ?_
            refine v_loc (lv' := [(0, .ref (d0 0)), (1, .ref (d1 0)), (2, .int (zI (v2 + 1)))]) [0, 1, 2] rfl ?_
            exact h)
  refine v_iconst gC d_Mn_joinCorners_0 ?_
  refine v_istore_n (lv' := [(0, .ref (d0 0)), (1, .ref (d1 0)), (2, .int (zI 0))]) gC d_Mn_joinCorners_1 rfl (by decide) [1, 2, 0] rfl ?_
  refine v_loc (lv' := [(0, .ref (d0 0)), (1, .ref (d1 0)), (2, .int (zI 0))]) [0, 1, 2] rfl ?_
  exact h

set_option maxHeartbeats 4000000 in
set_option maxRecDepth 100000 in
theorem k_Me_onOneLine (l : Launch) (D : va_G) (K : Nat → ClassId) (d0 : Nat → Nat) (x1 : Int) (x2 : Int) (x3 : Int) (s0 : s_Me) (Q : Int → Prop) (h : wp_Me_onOneLine x1 x2 x3 s0 Q) : Kt l D K y_Me_onOneLine b_Me_onOneLine 10 (some .boolean) 0 0 [.ref (d0 0), .int (zI x1), .int (zI x2), .int (zI x3)] (w_Me K d0 s0) (fun v w1 => ∃ (r : Int), v = some (.int (zI r)) ∧ w1 = (w_Me K d0 s0) ∧ Q r) := by
  refine Kt.ofZ (by decide +kernel) (Nat.le_of_ble_eq_true rfl) (lv0 := [(0, .ref (d0 0)), (1, .int (zI x1)), (2, .int (zI x2)), (3, .int (zI x3))]) rfl ?_
  intro gp ge gR gs gm ga gb gh gc gA gQ gRf gRl gC gret
  unfold wp_Me_onOneLine at h
  refine v_aload_n gC d_Me_onOneLine_0 rfl 0 rfl ?_
  refine v_get (v := .ref (d0 1)) gC in_Me 0 rfl rfl 0 (by decide) fl_Me_9 rfl d_Me_onOneLine_1 ?_
  refine v_iload_n gC d_Me_onOneLine_4 rfl 2 rfl ?_
  obtain ⟨hg1, h⟩ := h
  refine v_iald (g := (gMe_x s0)) gC 1 0 rfl rfl hg1 rfl (by decide) d_Me_onOneLine_5 ?_
  refine v_aload_n gC d_Me_onOneLine_6 rfl 0 rfl ?_
  refine v_get (v := .ref (d0 1)) gC in_Me 0 rfl rfl 0 (by decide) fl_Me_9 rfl d_Me_onOneLine_7 ?_
  refine v_iload_n gC d_Me_onOneLine_10 rfl 1 rfl ?_
  obtain ⟨hg2, h⟩ := h
  refine v_iald (g := (gMe_x s0)) gC 1 0 rfl rfl hg2 rfl (by decide) d_Me_onOneLine_11 ?_
  refine v_isub gC d_Me_onOneLine_12 (((gMe_x s0) x2) - ((gMe_x s0) x1)) rfl ?_
  refine v_istore (lv' := [(0, .ref (d0 0)), (1, .int (zI x1)), (2, .int (zI x2)), (3, .int (zI x3)), (4, .int (zI (((gMe_x s0) x2) - ((gMe_x s0) x1))))]) gC d_Me_onOneLine_13 (by decide) [1, 2, 3, 4, 0] rfl ?_
  refine v_aload_n gC d_Me_onOneLine_15 rfl 0 rfl ?_
  refine v_get (v := .ref (d0 2)) gC in_Me 0 rfl rfl 1 (by decide) fl_Me_15 rfl d_Me_onOneLine_16 ?_
  refine v_iload_n gC d_Me_onOneLine_19 rfl 2 rfl ?_
  refine v_iald (g := (gMe_y s0)) gC 2 0 rfl rfl hg1 rfl (by decide) d_Me_onOneLine_20 ?_
  refine v_aload_n gC d_Me_onOneLine_21 rfl 0 rfl ?_
  refine v_get (v := .ref (d0 2)) gC in_Me 0 rfl rfl 1 (by decide) fl_Me_15 rfl d_Me_onOneLine_22 ?_
  refine v_iload_n gC d_Me_onOneLine_25 rfl 1 rfl ?_
  refine v_iald (g := (gMe_y s0)) gC 2 0 rfl rfl hg2 rfl (by decide) d_Me_onOneLine_26 ?_
  refine v_isub gC d_Me_onOneLine_27 (((gMe_y s0) x2) - ((gMe_y s0) x1)) rfl ?_
  refine v_istore (lv' := [(0, .ref (d0 0)), (1, .int (zI x1)), (2, .int (zI x2)), (3, .int (zI x3)), (4, .int (zI (((gMe_x s0) x2) - ((gMe_x s0) x1)))), (5, .int (zI (((gMe_y s0) x2) - ((gMe_y s0) x1))))]) gC d_Me_onOneLine_28 (by decide) [1, 2, 3, 4, 5, 0] rfl ?_
  refine v_aload_n gC d_Me_onOneLine_30 rfl 0 rfl ?_
  refine v_get (v := .ref (d0 3)) gC in_Me 0 rfl rfl 2 (by decide) fl_Me_18 rfl d_Me_onOneLine_31 ?_
  refine v_iload_n gC d_Me_onOneLine_34 rfl 2 rfl ?_
  refine v_iald (g := (gMe_z s0)) gC 3 0 rfl rfl hg1 rfl (by decide) d_Me_onOneLine_35 ?_
  refine v_aload_n gC d_Me_onOneLine_36 rfl 0 rfl ?_
  refine v_get (v := .ref (d0 3)) gC in_Me 0 rfl rfl 2 (by decide) fl_Me_18 rfl d_Me_onOneLine_37 ?_
  refine v_iload_n gC d_Me_onOneLine_40 rfl 1 rfl ?_
  refine v_iald (g := (gMe_z s0)) gC 3 0 rfl rfl hg2 rfl (by decide) d_Me_onOneLine_41 ?_
  refine v_isub gC d_Me_onOneLine_42 (((gMe_z s0) x2) - ((gMe_z s0) x1)) rfl ?_
  refine v_istore (lv' := [(0, .ref (d0 0)), (1, .int (zI x1)), (2, .int (zI x2)), (3, .int (zI x3)), (4, .int (zI (((gMe_x s0) x2) - ((gMe_x s0) x1)))), (5, .int (zI (((gMe_y s0) x2) - ((gMe_y s0) x1)))), (6, .int (zI (((gMe_z s0) x2) - ((gMe_z s0) x1))))]) gC d_Me_onOneLine_43 (by decide) [1, 2, 3, 4, 5, 6, 0] rfl ?_
  refine v_aload_n gC d_Me_onOneLine_45 rfl 0 rfl ?_
  refine v_get (v := .ref (d0 1)) gC in_Me 0 rfl rfl 0 (by decide) fl_Me_9 rfl d_Me_onOneLine_46 ?_
  refine v_iload_n gC d_Me_onOneLine_49 rfl 3 rfl ?_
  obtain ⟨hg3, h⟩ := h
  refine v_iald (g := (gMe_x s0)) gC 1 0 rfl rfl hg3 rfl (by decide) d_Me_onOneLine_50 ?_
  refine v_aload_n gC d_Me_onOneLine_51 rfl 0 rfl ?_
  refine v_get (v := .ref (d0 1)) gC in_Me 0 rfl rfl 0 (by decide) fl_Me_9 rfl d_Me_onOneLine_52 ?_
  refine v_iload_n gC d_Me_onOneLine_55 rfl 1 rfl ?_
  refine v_iald (g := (gMe_x s0)) gC 1 0 rfl rfl hg2 rfl (by decide) d_Me_onOneLine_56 ?_
  refine v_isub gC d_Me_onOneLine_57 (((gMe_x s0) x3) - ((gMe_x s0) x1)) rfl ?_
  refine v_istore (lv' := [(0, .ref (d0 0)), (1, .int (zI x1)), (2, .int (zI x2)), (3, .int (zI x3)), (4, .int (zI (((gMe_x s0) x2) - ((gMe_x s0) x1)))), (5, .int (zI (((gMe_y s0) x2) - ((gMe_y s0) x1)))), (6, .int (zI (((gMe_z s0) x2) - ((gMe_z s0) x1)))), (7, .int (zI (((gMe_x s0) x3) - ((gMe_x s0) x1))))]) gC d_Me_onOneLine_58 (by decide) [1, 2, 3, 4, 5, 6, 7, 0] rfl ?_
  refine v_aload_n gC d_Me_onOneLine_60 rfl 0 rfl ?_
  refine v_get (v := .ref (d0 2)) gC in_Me 0 rfl rfl 1 (by decide) fl_Me_15 rfl d_Me_onOneLine_61 ?_
  refine v_iload_n gC d_Me_onOneLine_64 rfl 3 rfl ?_
  refine v_iald (g := (gMe_y s0)) gC 2 0 rfl rfl hg3 rfl (by decide) d_Me_onOneLine_65 ?_
  refine v_aload_n gC d_Me_onOneLine_66 rfl 0 rfl ?_
  refine v_get (v := .ref (d0 2)) gC in_Me 0 rfl rfl 1 (by decide) fl_Me_15 rfl d_Me_onOneLine_67 ?_
  refine v_iload_n gC d_Me_onOneLine_70 rfl 1 rfl ?_
  refine v_iald (g := (gMe_y s0)) gC 2 0 rfl rfl hg2 rfl (by decide) d_Me_onOneLine_71 ?_
  refine v_isub gC d_Me_onOneLine_72 (((gMe_y s0) x3) - ((gMe_y s0) x1)) rfl ?_
  refine v_istore (lv' := [(0, .ref (d0 0)), (1, .int (zI x1)), (2, .int (zI x2)), (3, .int (zI x3)), (4, .int (zI (((gMe_x s0) x2) - ((gMe_x s0) x1)))), (5, .int (zI (((gMe_y s0) x2) - ((gMe_y s0) x1)))), (6, .int (zI (((gMe_z s0) x2) - ((gMe_z s0) x1)))), (7, .int (zI (((gMe_x s0) x3) - ((gMe_x s0) x1)))), (8, .int (zI (((gMe_y s0) x3) - ((gMe_y s0) x1))))]) gC d_Me_onOneLine_73 (by decide) [1, 2, 3, 4, 5, 6, 7, 8, 0] rfl ?_
  refine v_aload_n gC d_Me_onOneLine_75 rfl 0 rfl ?_
  refine v_get (v := .ref (d0 3)) gC in_Me 0 rfl rfl 2 (by decide) fl_Me_18 rfl d_Me_onOneLine_76 ?_
  refine v_iload_n gC d_Me_onOneLine_79 rfl 3 rfl ?_
  refine v_iald (g := (gMe_z s0)) gC 3 0 rfl rfl hg3 rfl (by decide) d_Me_onOneLine_80 ?_
  refine v_aload_n gC d_Me_onOneLine_81 rfl 0 rfl ?_
  refine v_get (v := .ref (d0 3)) gC in_Me 0 rfl rfl 2 (by decide) fl_Me_18 rfl d_Me_onOneLine_82 ?_
  refine v_iload_n gC d_Me_onOneLine_85 rfl 1 rfl ?_
  refine v_iald (g := (gMe_z s0)) gC 3 0 rfl rfl hg2 rfl (by decide) d_Me_onOneLine_86 ?_
  refine v_isub gC d_Me_onOneLine_87 (((gMe_z s0) x3) - ((gMe_z s0) x1)) rfl ?_
  refine v_istore (lv' := [(0, .ref (d0 0)), (1, .int (zI x1)), (2, .int (zI x2)), (3, .int (zI x3)), (4, .int (zI (((gMe_x s0) x2) - ((gMe_x s0) x1)))), (5, .int (zI (((gMe_y s0) x2) - ((gMe_y s0) x1)))), (6, .int (zI (((gMe_z s0) x2) - ((gMe_z s0) x1)))), (7, .int (zI (((gMe_x s0) x3) - ((gMe_x s0) x1)))), (8, .int (zI (((gMe_y s0) x3) - ((gMe_y s0) x1)))), (9, .int (zI (((gMe_z s0) x3) - ((gMe_z s0) x1))))]) gC d_Me_onOneLine_88 (by decide) [1, 2, 3, 4, 5, 6, 7, 8, 9, 0] rfl ?_
  refine v_iload gC d_Me_onOneLine_90 5 rfl ?_
  refine v_iload gC d_Me_onOneLine_92 9 rfl ?_
  refine v_imul gC d_Me_onOneLine_94 ((((gMe_y s0) x2) - ((gMe_y s0) x1)) * (((gMe_z s0) x3) - ((gMe_z s0) x1))) rfl ?_
  refine v_iload gC d_Me_onOneLine_95 6 rfl ?_
  refine v_iload gC d_Me_onOneLine_97 8 rfl ?_
  refine v_imul gC d_Me_onOneLine_99 ((((gMe_z s0) x2) - ((gMe_z s0) x1)) * (((gMe_y s0) x3) - ((gMe_y s0) x1))) rfl ?_
  obtain ⟨hg4, hg5, h⟩ := h
  refine v_icmp_ne (tgt := 133) gC d_Me_onOneLine_100 (by decide) hg4 hg5 (fun hc => ?_) (fun hc => ?_)
  · replace h := h.1 hc
    refine v_iconst gC d_Me_onOneLine_133 ?_
    exact gret _ _ _ _ d_Me_onOneLine_134 rfl ⟨0, rfl, rfl, h⟩
  · replace h := h.2 hc
    refine v_iload gC d_Me_onOneLine_103 6 rfl ?_
    refine v_iload gC d_Me_onOneLine_105 7 rfl ?_
    refine v_imul gC d_Me_onOneLine_107 ((((gMe_z s0) x2) - ((gMe_z s0) x1)) * (((gMe_x s0) x3) - ((gMe_x s0) x1))) rfl ?_
    refine v_iload gC d_Me_onOneLine_108 4 rfl ?_
    refine v_iload gC d_Me_onOneLine_110 9 rfl ?_
    refine v_imul gC d_Me_onOneLine_112 ((((gMe_x s0) x2) - ((gMe_x s0) x1)) * (((gMe_z s0) x3) - ((gMe_z s0) x1))) rfl ?_
    obtain ⟨hg6, hg7, h⟩ := h
    refine v_icmp_ne (tgt := 133) gC d_Me_onOneLine_113 (by decide) hg6 hg7 (fun hc => ?_) (fun hc => ?_)
    · replace h := h.1 hc
      refine v_iconst gC d_Me_onOneLine_133 ?_
      exact gret _ _ _ _ d_Me_onOneLine_134 rfl ⟨0, rfl, rfl, h⟩
    · replace h := h.2 hc
      refine v_iload gC d_Me_onOneLine_116 4 rfl ?_
      refine v_iload gC d_Me_onOneLine_118 8 rfl ?_
      refine v_imul gC d_Me_onOneLine_120 ((((gMe_x s0) x2) - ((gMe_x s0) x1)) * (((gMe_y s0) x3) - ((gMe_y s0) x1))) rfl ?_
      refine v_iload gC d_Me_onOneLine_121 5 rfl ?_
      refine v_iload gC d_Me_onOneLine_123 7 rfl ?_
      refine v_imul gC d_Me_onOneLine_125 ((((gMe_y s0) x2) - ((gMe_y s0) x1)) * (((gMe_x s0) x3) - ((gMe_x s0) x1))) rfl ?_
      obtain ⟨hg8, hg9, h⟩ := h
      refine v_icmp_ne (tgt := 133) gC d_Me_onOneLine_126 (by decide) hg8 hg9 (fun hc => ?_) (fun hc => ?_)
      · replace h := h.1 hc
        refine v_iconst gC d_Me_onOneLine_133 ?_
        exact gret _ _ _ _ d_Me_onOneLine_134 rfl ⟨0, rfl, rfl, h⟩
      · replace h := h.2 hc
        refine v_iconst gC d_Me_onOneLine_129 ?_
        refine v_goto (tgt := 134) gC d_Me_onOneLine_130 (by decide) ?_
        exact gret _ _ _ _ d_Me_onOneLine_134 rfl ⟨1, rfl, rfl, h⟩

set_option maxHeartbeats 4000000 in
set_option maxRecDepth 100000 in
theorem k_Mn_dropTriangles (l : Launch) (D : va_G) (K : Nat → ClassId) (d0 : Nat → Nat) (d1 : Nat → Nat) (s0 : s_Mn) (s1 : s_Me) (Q : s_Mn → s_Me → Prop) (h : wp_Mn_dropTriangles s0 s1 Q) : Kt l D K y_Mn_dropTriangles b_Mn_dropTriangles 7 none 1 29 [.ref (d0 0), .ref (d1 0)] (w_Mn K d0 s0 ++ w_Me K d1 s1) (fun v w1 => ∃ (u0 : s_Mn), ∃ (u1 : s_Me), v = none ∧ w1 = (w_Mn K d0 u0 ++ w_Me K d1 u1) ∧ Q u0 u1) := by
  refine Kt.ofV (by decide +kernel) (Nat.le_of_ble_eq_true rfl) (lv0 := [(0, .ref (d0 0)), (1, .ref (d1 0))]) rfl ?_
  intro gp ge gR gs gm ga gb gh gc gA gQ gRf gRl gC gret
  unfold wp_Mn_dropTriangles at h
  replace h := h
    (fun (v2 : Int) (v3 : Int) (s0 : s_Mn) (s1 : s_Me) => V gp l ge gR gs gm ga gb gh gc D gA 7 0 0 gQ (w_Mn K d0 s0 ++ w_Me K d1 s1) 4 [(0, .ref (d0 0)), (1, .ref (d1 0)), (2, .int (zI v2)), (3, .int (zI v3))] [])
    (by
      intro v2 v3 s0 s1 h
      refine v_iload_n gC d_Mn_dropTriangles_4 rfl 3 rfl ?_
      refine v_aload_n gC d_Mn_dropTriangles_5 rfl 1 rfl ?_
      refine v_get (v := .int (zI (gMe_triangles s1))) gC in_Me 6 rfl rfl 5 (by decide) fl_Mn_56 rfl d_Mn_dropTriangles_6 ?_
      obtain ⟨hg1, hg2, h⟩ := h
      refine v_icmp_ge (tgt := 79) gC d_Mn_dropTriangles_9 (by decide) hg1 hg2 (fun hc => ?_) (fun hc => ?_)
      · replace h := h.1 hc
        refine v_aload_n gC d_Mn_dropTriangles_79 rfl 0 rfl ?_
        refine v_dup gC d_Mn_dropTriangles_80 rfl ?_
        refine v_get (v := .int (zI (gMn_dropped s0))) gC in_Mn 0 rfl rfl 1 (by decide) fl_Mn_77 rfl d_Mn_dropTriangles_81 ?_
        refine v_aload_n gC d_Mn_dropTriangles_84 rfl 1 rfl ?_
        refine v_get (v := .int (zI (gMe_triangles s1))) gC in_Me 6 rfl rfl 5 (by decide) fl_Mn_56 rfl d_Mn_dropTriangles_85 ?_
        refine v_iload_n gC d_Mn_dropTriangles_88 rfl 2 rfl ?_
        refine v_isub gC d_Mn_dropTriangles_89 ((gMe_triangles s1) - v2) rfl ?_
        refine v_iadd gC d_Mn_dropTriangles_90 ((gMn_dropped s0) + ((gMe_triangles s1) - v2)) rfl ?_
        refine v_puti (ws' := (w_Mn K d0 (mkMn (gMn_joined s0) ((gMn_dropped s0) + ((gMe_triangles s1) - v2)) (gMn_closed s0) (gMn_lowestHere s0) (gMn_counted s0) (gMn_balance s0) (gMn_openFrom s0) (gMn_hole s0)) ++ w_Me K d1 s1)) gC in_Mn t_Mn ok_Mn n_Mn 0 rfl rfl 1 (by decide) fl_Mn_77 rfl (by decide +kernel) (Nat.le_of_ble_eq_true rfl) rfl d_Mn_dropTriangles_91 ?_
        refine v_aload_n gC d_Mn_dropTriangles_94 rfl 1 rfl ?_
        refine v_iload_n gC d_Mn_dropTriangles_95 rfl 2 rfl ?_
        refine v_puti (ws' := (w_Mn K d0 (mkMn (gMn_joined s0) ((gMn_dropped s0) + ((gMe_triangles s1) - v2)) (gMn_closed s0) (gMn_lowestHere s0) (gMn_counted s0) (gMn_balance s0) (gMn_openFrom s0) (gMn_hole s0)) ++ w_Me K d1 (mkMe (gMe_x s1) (gMe_y s1) (gMe_z s1) (gMe_corners s1) (gMe_named s1) v2))) gC in_Me t_Me ok_Me n_Me 6 rfl rfl 5 (by decide) fl_Mn_56 rfl (by decide +kernel) (Nat.le_of_ble_eq_true rfl) rfl d_Mn_dropTriangles_96 ?_
        exact gret _ _ _ d_Mn_dropTriangles_99 ⟨(mkMn (gMn_joined s0) ((gMn_dropped s0) + ((gMe_triangles s1) - v2)) (gMn_closed s0) (gMn_lowestHere s0) (gMn_counted s0) (gMn_balance s0) (gMn_openFrom s0) (gMn_hole s0)), (mkMe (gMe_x s1) (gMe_y s1) (gMe_z s1) (gMe_corners s1) (gMe_named s1) v2), rfl, rfl, h⟩
      · replace h := h.2 hc
        refine v_aload_n gC d_Mn_dropTriangles_12 rfl 1 rfl ?_
        refine v_get (v := .ref (d1 4)) gC in_Me 6 rfl rfl 4 (by decide) fl_Mn_59 rfl d_Mn_dropTriangles_13 ?_
        refine v_iconst gC d_Mn_dropTriangles_16 ?_
        refine v_iload_n gC d_Mn_dropTriangles_17 rfl 3 rfl ?_
        refine v_imul gC d_Mn_dropTriangles_18 (3 * v3) rfl ?_
        obtain ⟨hg3, h⟩ := h
        refine v_iald (g := (gMe_named s1)) gC 10 0 rfl rfl hg3 rfl (by decide) d_Mn_dropTriangles_19 ?_
        refine v_istore (lv' := [(0, .ref (d0 0)), (1, .ref (d1 0)), (2, .int (zI v2)), (3, .int (zI v3)), (4, .int (zI ((gMe_named s1) (3 * v3))))]) gC d_Mn_dropTriangles_20 (by decide) [1, 2, 3, 4, 0] rfl ?_
        refine v_aload_n gC d_Mn_dropTriangles_22 rfl 1 rfl ?_
        refine v_get (v := .ref (d1 4)) gC in_Me 6 rfl rfl 4 (by decide) fl_Mn_59 rfl d_Mn_dropTriangles_23 ?_
        refine v_iconst gC d_Mn_dropTriangles_26 ?_
        refine v_iload_n gC d_Mn_dropTriangles_27 rfl 3 rfl ?_
        refine v_imul gC d_Mn_dropTriangles_28 (3 * v3) rfl ?_
        refine v_iconst gC d_Mn_dropTriangles_29 ?_
        refine v_iadd gC d_Mn_dropTriangles_30 ((3 * v3) + 1) rfl ?_
        obtain ⟨hg4, h⟩ := h
        refine v_iald (g := (gMe_named s1)) gC 10 0 rfl rfl hg4 rfl (by decide) d_Mn_dropTriangles_31 ?_
        refine v_istore (lv' := [(0, .ref (d0 0)), (1, .ref (d1 0)), (2, .int (zI v2)), (3, .int (zI v3)), (4, .int (zI ((gMe_named s1) (3 * v3)))), (5, .int (zI ((gMe_named s1) ((3 * v3) + 1))))]) gC d_Mn_dropTriangles_32 (by decide) [1, 2, 3, 4, 5, 0] rfl ?_
        refine v_aload_n gC d_Mn_dropTriangles_34 rfl 1 rfl ?_
        refine v_get (v := .ref (d1 4)) gC in_Me 6 rfl rfl 4 (by decide) fl_Mn_59 rfl d_Mn_dropTriangles_35 ?_
        refine v_iconst gC d_Mn_dropTriangles_38 ?_
        refine v_iload_n gC d_Mn_dropTriangles_39 rfl 3 rfl ?_
        refine v_imul gC d_Mn_dropTriangles_40 (3 * v3) rfl ?_
        refine v_iconst gC d_Mn_dropTriangles_41 ?_
        refine v_iadd gC d_Mn_dropTriangles_42 ((3 * v3) + 2) rfl ?_
        obtain ⟨hg5, h⟩ := h
        refine v_iald (g := (gMe_named s1)) gC 10 0 rfl rfl hg5 rfl (by decide) d_Mn_dropTriangles_43 ?_
        refine v_istore (lv' := [(0, .ref (d0 0)), (1, .ref (d1 0)), (2, .int (zI v2)), (3, .int (zI v3)), (4, .int (zI ((gMe_named s1) (3 * v3)))), (5, .int (zI ((gMe_named s1) ((3 * v3) + 1)))), (6, .int (zI ((gMe_named s1) ((3 * v3) + 2))))]) gC d_Mn_dropTriangles_44 (by decide) [1, 2, 3, 4, 5, 6, 0] rfl ?_
        refine v_aload_n gC d_Mn_dropTriangles_46 rfl 1 rfl ?_
        refine v_iload gC d_Mn_dropTriangles_47 4 rfl ?_
        refine v_iload gC d_Mn_dropTriangles_49 5 rfl ?_
        refine v_iload gC d_Mn_dropTriangles_51 6 rfl ?_
        refine v_callV (rest := []) gC (k_Me_onOneLine l D K d1 ((gMe_named s1) (3 * v3)) ((gMe_named s1) ((3 * v3) + 1)) ((gMe_named s1) ((3 * v3) + 2)) s1 _ h) wV_Mn_69 rfl ⟨by omega, by omega, Nat.zero_le _, Nat.zero_le _⟩ 0 rfl rfl [6, 7, 8, 9, 10] [0, 1, 2, 3, 4, 5] rfl (by decide) rfl (by decide) (by decide) rfl (Nat.le_of_ble_eq_true rfl) d_Mn_dropTriangles_53 (fun v w1 hp => ?_)
        obtain ⟨r6, rfl, rfl, h⟩ := hp
        refine v_after (ws' := (w_Mn K d0 s0 ++ w_Me K d1 s1)) (st' := [.int (zI r6)]) [0, 1, 2, 3, 4, 5, 6, 7, 8, 9, 10] (by decide) rfl rfl ?_
        obtain ⟨hg7, h⟩ := h
        refine v_if_ne (tgt := 73) gC d_Mn_dropTriangles_56 (by decide) hg7 (fun hc => ?_) (fun hc => ?_)
        · replace h := h.1 hc
          refine v_iinc (lv' := [(0, .ref (d0 0)), (1, .ref (d1 0)), (2, .int (zI v2)), (3, .int (zI (v3 + 1))), (4, .int (zI ((gMe_named s1) (3 * v3)))), (5, .int (zI ((gMe_named s1) ((3 * v3) + 1)))), (6, .int (zI ((gMe_named s1) ((3 * v3) + 2))))]) gC d_Mn_dropTriangles_73 3 rfl (by decide) (v3 + 1) rfl [1, 2, 3, 0, 4, 5, 6] rfl ?_
          refine v_goto (tgt := 4) gC d_Mn_dropTriangles_76 (by decide) ?_
          refine v_loc (lv' := [(0, .ref (d0 0)), (1, .ref (d1 0)), (2, .int (zI v2)), (3, .int (zI (v3 + 1)))]) [0, 1, 2, 3] rfl ?_
          exact h
        · replace h := h.2 hc
          refine v_aload_n gC d_Mn_dropTriangles_59 rfl 1 rfl ?_
          refine v_iload_n gC d_Mn_dropTriangles_60 rfl 2 rfl ?_
          refine v_iload gC d_Mn_dropTriangles_61 4 rfl ?_
          refine v_iload gC d_Mn_dropTriangles_63 5 rfl ?_
          refine v_iload gC d_Mn_dropTriangles_65 6 rfl ?_
          refine v_callV (rest := []) gC (k_Me_name l D K d1 v2 ((gMe_named s1) (3 * v3)) ((gMe_named s1) ((3 * v3) + 1)) ((gMe_named s1) ((3 * v3) + 2)) s1 _ h) wV_Mn_73 rfl ⟨by omega, by omega, Nat.zero_le _, Nat.zero_le _⟩ 0 rfl rfl [6, 7, 8, 9, 10] [0, 1, 2, 3, 4, 5] rfl (by decide) rfl (by decide) (by decide) rfl (Nat.le_of_ble_eq_true rfl) d_Mn_dropTriangles_67 (fun v w1 hp => ?_)
          obtain ⟨u8, rfl, rfl, h⟩ := hp
          refine v_after (ws' := (w_Mn K d0 s0 ++ w_Me K d1 u8)) (st' := []) [0, 1, 2, 3, 4, 5, 6, 7, 8, 9, 10] (by decide) rfl rfl ?_
          refine v_iinc (lv' := [(0, .ref (d0 0)), (1, .ref (d1 0)), (2, .int (zI (v2 + 1))), (3, .int (zI v3)), (4, .int (zI ((gMe_named s1) (3 * v3)))), (5, .int (zI ((gMe_named s1) ((3 * v3) + 1)))), (6, .int (zI ((gMe_named s1) ((3 * v3) + 2))))]) gC d_Mn_dropTriangles_70 2 rfl (by decide) (v2 + 1) rfl [1, 2, 0, 3, 4, 5, 6] rfl ?_
          refine v_iinc (lv' := [(0, .ref (d0 0)), (1, .ref (d1 0)), (2, .int (zI (v2 + 1))), (3, .int (zI (v3 + 1))), (4, .int (zI ((gMe_named s1) (3 * v3)))), (5, .int (zI ((gMe_named s1) ((3 * v3) + 1)))), (6, .int (zI ((gMe_named s1) ((3 * v3) + 2))))]) gC d_Mn_dropTriangles_73 3 rfl (by decide) (v3 + 1) rfl [1, 2, 3, 0, 4, 5, 6] rfl ?_
          refine v_goto (tgt := 4) gC d_Mn_dropTriangles_76 (by decide) ?_
          refine v_loc (lv' := [(0, .ref (d0 0)), (1, .ref (d1 0)), (2, .int (zI (v2 + 1))), (3, .int (zI (v3 + 1)))]) [0, 1, 2, 3] rfl ?_
          exact h)
  refine v_iconst gC d_Mn_dropTriangles_0 ?_
  refine v_istore_n (lv' := [(0, .ref (d0 0)), (1, .ref (d1 0)), (2, .int (zI 0))]) gC d_Mn_dropTriangles_1 rfl (by decide) [1, 2, 0] rfl ?_
  refine v_iconst gC d_Mn_dropTriangles_2 ?_
  refine v_istore_n (lv' := [(0, .ref (d0 0)), (1, .ref (d1 0)), (2, .int (zI 0)), (3, .int (zI 0))]) gC d_Mn_dropTriangles_3 rfl (by decide) [1, 2, 3, 0] rfl ?_
  refine v_loc (lv' := [(0, .ref (d0 0)), (1, .ref (d1 0)), (2, .int (zI 0)), (3, .int (zI 0))]) [0, 1, 2, 3] rfl ?_
  exact h
