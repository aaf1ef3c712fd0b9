set_option maxHeartbeats 4000000 in
set_option maxRecDepth 100000 in
theorem k_LS_triangle (l : Launch) (D : va_G) (K : Nat → ClassId) (d0 : Nat → Nat) (x1 : Int) (x2 : Int) (s0 : s_LS) (Q : Int → Prop) (h : wp_LS_triangle x1 x2 s0 Q) : Kt l D K y_LS_triangle b_LS_triangle 3 (some .int) 0 0 [.ref (d0 0), .int (zI x1), .int (zI x2)] (w_LS K d0 s0) (fun v w1 => ∃ (r : Int), v = some (.int (zI r)) ∧ w1 = (w_LS K d0 s0) ∧ Q r) := by
  refine Kt.ofI (by decide +kernel) (Nat.le_of_ble_eq_true rfl) (lv0 := [(0, .ref (d0 0)), (1, .int (zI x1)), (2, .int (zI x2))]) rfl ?_
  intro gp ge gR gs gm ga gb gh gc gA gQ gRf gRl gC gret
  unfold wp_LS_triangle at h
  refine v_iload_n gC d_LS_triangle_0 rfl 1 rfl ?_
  obtain ⟨hg1, h⟩ := h
  refine v_if_lt (tgt := 24) gC d_LS_triangle_1 (by decide) hg1 (fun hc => ?_) (fun hc => ?_)
  · replace h := h.1 hc
    refine v_iconst gC d_LS_triangle_24 ?_
    exact gret _ _ _ _ d_LS_triangle_25 ⟨(-1), rfl, rfl, h⟩
  · replace h := h.2 hc
    refine v_iload_n gC d_LS_triangle_4 rfl 1 rfl ?_
    refine v_aload_n gC d_LS_triangle_5 rfl 0 rfl ?_
    refine v_get (v := .ref (d0 1)) gC in_LS 0 rfl rfl 0 (by decide) fl_LS_12 rfl d_LS_triangle_6 ?_
    refine v_get (v := .int (zI (gMe_triangles (gLS_mesh s0)))) gC in_Me 1 rfl rfl 5 (by decide) fl_LS_72 rfl d_LS_triangle_9 ?_
    obtain ⟨hg2, h⟩ := h
    refine v_icmp_ge (tgt := 24) gC d_LS_triangle_12 (by decide) hg1 hg2 (fun hc => ?_) (fun hc => ?_)
    · replace h := h.1 hc
      refine v_iconst gC d_LS_triangle_24 ?_
      exact gret _ _ _ _ d_LS_triangle_25 ⟨(-1), rfl, rfl, h⟩
    · replace h := h.2 hc
      refine v_iload_n gC d_LS_triangle_15 rfl 2 rfl ?_
      obtain ⟨hg3, h⟩ := h
      refine v_if_lt (tgt := 24) gC d_LS_triangle_16 (by decide) hg3 (fun hc => ?_) (fun hc => ?_)
      · replace h := h.1 hc
        refine v_iconst gC d_LS_triangle_24 ?_
        exact gret _ _ _ _ d_LS_triangle_25 ⟨(-1), rfl, rfl, h⟩
      · replace h := h.2 hc
        refine v_iload_n gC d_LS_triangle_19 rfl 2 rfl ?_
        refine v_iconst gC d_LS_triangle_20 ?_
        refine v_icmp_le (tgt := 26) gC d_LS_triangle_21 (by decide) hg3 (by decide) (fun hc => ?_) (fun hc => ?_)
        · replace h := h.1 hc
          refine v_aload_n gC d_LS_triangle_26 rfl 0 rfl ?_
          refine v_get (v := .ref (d0 1)) gC in_LS 0 rfl rfl 0 (by decide) fl_LS_12 rfl d_LS_triangle_27 ?_
          refine v_get (v := .ref (d0 5)) gC in_Me 1 rfl rfl 4 (by decide) fl_LS_75 rfl d_LS_triangle_30 ?_
          refine v_iconst gC d_LS_triangle_33 ?_
          refine v_iload_n gC d_LS_triangle_34 rfl 1 rfl ?_
          refine v_imul gC d_LS_triangle_35 (3 * x1) rfl ?_
          refine v_iload_n gC d_LS_triangle_36 rfl 2 rfl ?_
          refine v_iadd gC d_LS_triangle_37 ((3 * x1) + x2) rfl ?_
          obtain ⟨hg4, h⟩ := h
          refine v_iald (g := (gMe_named (gLS_mesh s0))) gC 5 0 rfl rfl hg4 rfl (by decide) d_LS_triangle_38 ?_
          exact gret _ _ _ _ d_LS_triangle_39 ⟨(gMe_named (gLS_mesh s0)) ((3 * x1) + x2), rfl, rfl, h⟩
        · replace h := h.2 hc
          refine v_iconst gC d_LS_triangle_24 ?_
          exact gret _ _ _ _ d_LS_triangle_25 ⟨(-1), rfl, rfl, h⟩

set_option maxHeartbeats 4000000 in
set_option maxRecDepth 100000 in
theorem k_Me_turnQuarter (l : Launch) (D : va_G) (K : Nat → ClassId) (d0 : Nat → Nat) (x1 : Int) (s0 : s_Me) (Q : s_Me → Prop) (h : wp_Me_turnQuarter x1 s0 Q) : Kt l D K y_Me_turnQuarter b_Me_turnQuarter 5 none 0 0 [.ref (d0 0), .int (zI x1)] (w_Me K d0 s0) (fun v w1 => ∃ (u0 : s_Me), v = none ∧ w1 = (w_Me K d0 u0) ∧ Q u0) := by
  refine Kt.ofV (by decide +kernel) (Nat.le_of_ble_eq_true rfl) (lv0 := [(0, .ref (d0 0)), (1, .int (zI x1))]) rfl ?_
  intro gp ge gR gs gm ga gb gh gc gA gQ gRf gRl gC gret
  unfold wp_Me_turnQuarter at h
  replace h := h
    (fun (v2 : Int) (s0 : s_Me) => V gp l ge gR gs gm ga gb gh gc D gA 5 0 0 gQ (w_Me K d0 s0) 2 [(0, .ref (d0 0)), (1, .int (zI x1)), (2, .int (zI v2))] [])
    (by
      intro v2 s0 h
      refine v_iload_n gC d_Me_turnQuarter_2 rfl 2 rfl ?_
      refine v_aload_n gC d_Me_turnQuarter_3 rfl 0 rfl ?_
      refine v_get (v := .int (zI (gMe_corners s0))) gC in_Me 0 rfl rfl 3 (by decide) fl_Me_24 rfl d_Me_turnQuarter_4 ?_
      obtain ⟨hg1, hg2, h⟩ := h
      refine v_icmp_ge (tgt := 109) gC d_Me_turnQuarter_7 (by decide) hg1 hg2 (fun hc => ?_) (fun hc => ?_)
      · replace h := h.1 hc
        exact gret _ _ _ d_Me_turnQuarter_109 ⟨s0, rfl, rfl, h⟩
      · replace h := h.2 hc
        refine v_aload_n gC d_Me_turnQuarter_10 rfl 0 rfl ?_
        refine v_get (v := .ref (d0 1)) gC in_Me 0 rfl rfl 0 (by decide) fl_Me_9 rfl d_Me_turnQuarter_11 ?_
        refine v_iload_n gC d_Me_turnQuarter_14 rfl 2 rfl ?_
        obtain ⟨hg3, h⟩ := h
        refine v_iald (g := (gMe_x s0)) gC 1 0 rfl rfl hg3 rfl (by decide) d_Me_turnQuarter_15 ?_
        refine v_istore_n (lv' := [(0, .ref (d0 0)), (1, .int (zI x1)), (2, .int (zI v2)), (3, .int (zI ((gMe_x s0) v2)))]) gC d_Me_turnQuarter_16 rfl (by decide) [1, 2, 3, 0] rfl ?_
        refine v_aload_n gC d_Me_turnQuarter_17 rfl 0 rfl ?_
        refine v_get (v := .ref (d0 2)) gC in_Me 0 rfl rfl 1 (by decide) fl_Me_15 rfl d_Me_turnQuarter_18 ?_
        refine v_iload_n gC d_Me_turnQuarter_21 rfl 2 rfl ?_
        refine v_iald (g := (gMe_y s0)) gC 2 0 rfl rfl hg3 rfl (by decide) d_Me_turnQuarter_22 ?_
        refine v_istore (lv' := [(0, .ref (d0 0)), (1, .int (zI x1)), (2, .int (zI v2)), (3, .int (zI ((gMe_x s0) v2))), (4, .int (zI ((gMe_y s0) v2)))]) gC d_Me_turnQuarter_23 (by decide) [1, 2, 3, 4, 0] rfl ?_
        refine v_iload_n gC d_Me_turnQuarter_25 rfl 1 rfl ?_
        obtain ⟨hg4, h⟩ := h
        refine v_if_ne (tgt := 55) gC d_Me_turnQuarter_26 (by decide) hg4 (fun hc => ?_) (fun hc => ?_)
        · replace h := h.1 hc
          refine v_iload_n gC d_Me_turnQuarter_55 rfl 1 rfl ?_
          refine v_iconst gC d_Me_turnQuarter_56 ?_
          refine v_icmp_ne (tgt := 85) gC d_Me_turnQuarter_57 (by decide) hg4 (by decide) (fun hc => ?_) (fun hc => ?_)
          · replace h := h.1 hc
            refine v_aload_n gC d_Me_turnQuarter_85 rfl 0 rfl ?_
            refine v_get (v := .ref (d0 1)) gC in_Me 0 rfl rfl 0 (by decide) fl_Me_9 rfl d_Me_turnQuarter_86 ?_
            refine v_iload_n gC d_Me_turnQuarter_89 rfl 2 rfl ?_
            refine v_bipush gC d_Me_turnQuarter_90 (by decide) ?_
            refine v_iload gC d_Me_turnQuarter_92 4 rfl ?_
            refine v_isub gC d_Me_turnQuarter_94 (120 - ((gMe_y s0) v2)) rfl ?_
            refine v_iast (g := (gMe_x s0)) (ws' := (w_Me K d0 (mkMe (iset (gMe_x s0) v2 (120 - ((gMe_y s0) v2))) (gMe_y s0) (gMe_z s0) (gMe_corners s0) (gMe_named s0) (gMe_triangles s0)))) gC 1 0 rfl rfl hg3 rfl (by decide) rfl d_Me_turnQuarter_95 ?_
            refine v_aload_n gC d_Me_turnQuarter_96 rfl 0 rfl ?_
            refine v_get (v := .ref (d0 2)) gC in_Me 0 rfl rfl 1 (by decide) fl_Me_15 rfl d_Me_turnQuarter_97 ?_
            refine v_iload_n gC d_Me_turnQuarter_100 rfl 2 rfl ?_
            refine v_iload_n gC d_Me_turnQuarter_101 rfl 3 rfl ?_
            refine v_iast (g := (gMe_y s0)) (ws' := (w_Me K d0 (mkMe (iset (gMe_x s0) v2 (120 - ((gMe_y s0) v2))) (iset (gMe_y s0) v2 ((gMe_x s0) v2)) (gMe_z s0) (gMe_corners s0) (gMe_named s0) (gMe_triangles s0)))) gC 2 0 rfl rfl hg3 rfl (by decide) rfl d_Me_turnQuarter_102 ?_
            refine v_iinc (lv' := [(0, .ref (d0 0)), (1, .int (zI x1)), (2, .int (zI (v2 + 1))), (3, .int (zI ((gMe_x s0) v2))), (4, .int (zI ((gMe_y s0) v2)))]) gC d_Me_turnQuarter_103 2 rfl (by decide) (v2 + 1) rfl [1, 2, 0, 3, 4] rfl ?_
            refine v_goto (tgt := 2) gC d_Me_turnQuarter_106 (by decide) ?_
            refine v_loc (lv' := [(0, .ref (d0 0)), (1, .int (zI x1)), (2, .int (zI (v2 + 1)))]) [0, 1, 2] rfl ?_
            exact h
          · replace h := h.2 hc
            refine v_aload_n gC d_Me_turnQuarter_60 rfl 0 rfl ?_
            refine v_get (v := .ref (d0 1)) gC in_Me 0 rfl rfl 0 (by decide) fl_Me_9 rfl d_Me_turnQuarter_61 ?_
            refine v_iload_n gC d_Me_turnQuarter_64 rfl 2 rfl ?_
            refine v_aload_n gC d_Me_turnQuarter_65 rfl 0 rfl ?_
            refine v_get (v := .ref (d0 3)) gC in_Me 0 rfl rfl 2 (by decide) fl_Me_18 rfl d_Me_turnQuarter_66 ?_
            refine v_iload_n gC d_Me_turnQuarter_69 rfl 2 rfl ?_
            refine v_iald (g := (gMe_z s0)) gC 3 0 rfl rfl hg3 rfl (by decide) d_Me_turnQuarter_70 ?_
            refine v_iast (g := (gMe_x s0)) (ws' := (w_Me K d0 (mkMe (iset (gMe_x s0) v2 ((gMe_z s0) v2)) (gMe_y s0) (gMe_z s0) (gMe_corners s0) (gMe_named s0) (gMe_triangles s0)))) gC 1 0 rfl rfl hg3 rfl (by decide) rfl d_Me_turnQuarter_71 ?_
            refine v_aload_n gC d_Me_turnQuarter_72 rfl 0 rfl ?_
            refine v_get (v := .ref (d0 3)) gC in_Me 0 rfl rfl 2 (by decide) fl_Me_18 rfl d_Me_turnQuarter_73 ?_
            refine v_iload_n gC d_Me_turnQuarter_76 rfl 2 rfl ?_
            refine v_bipush gC d_Me_turnQuarter_77 (by decide) ?_
            refine v_iload_n gC d_Me_turnQuarter_79 rfl 3 rfl ?_
            refine v_isub gC d_Me_turnQuarter_80 (120 - ((gMe_x s0) v2)) rfl ?_
            refine v_iast (g := (gMe_z s0)) (ws' := (w_Me K d0 (mkMe (iset (gMe_x s0) v2 ((gMe_z s0) v2)) (gMe_y s0) (iset (gMe_z s0) v2 (120 - ((gMe_x s0) v2))) (gMe_corners s0) (gMe_named s0) (gMe_triangles s0)))) gC 3 0 rfl rfl hg3 rfl (by decide) rfl d_Me_turnQuarter_81 ?_
            refine v_goto (tgt := 103) gC d_Me_turnQuarter_82 (by decide) ?_
            refine v_iinc (lv' := [(0, .ref (d0 0)), (1, .int (zI x1)), (2, .int (zI (v2 + 1))), (3, .int (zI ((gMe_x s0) v2))), (4, .int (zI ((gMe_y s0) v2)))]) gC d_Me_turnQuarter_103 2 rfl (by decide) (v2 + 1) rfl [1, 2, 0, 3, 4] rfl ?_
            refine v_goto (tgt := 2) gC d_Me_turnQuarter_106 (by decide) ?_
            refine v_loc (lv' := [(0, .ref (d0 0)), (1, .int (zI x1)), (2, .int (zI (v2 + 1)))]) [0, 1, 2] rfl ?_
            exact h
        · replace h := h.2 hc
          refine v_aload_n gC d_Me_turnQuarter_29 rfl 0 rfl ?_
          refine v_get (v := .ref (d0 2)) gC in_Me 0 rfl rfl 1 (by decide) fl_Me_15 rfl d_Me_turnQuarter_30 ?_
          refine v_iload_n gC d_Me_turnQuarter_33 rfl 2 rfl ?_
          refine v_bipush gC d_Me_turnQuarter_34 (by decide) ?_
          refine v_aload_n gC d_Me_turnQuarter_36 rfl 0 rfl ?_
          refine v_get (v := .ref (d0 3)) gC in_Me 0 rfl rfl 2 (by decide) fl_Me_18 rfl d_Me_turnQuarter_37 ?_
          refine v_iload_n gC d_Me_turnQuarter_40 rfl 2 rfl ?_
          refine v_iald (g := (gMe_z s0)) gC 3 0 rfl rfl hg3 rfl (by decide) d_Me_turnQuarter_41 ?_
          refine v_isub gC d_Me_turnQuarter_42 (120 - ((gMe_z s0) v2)) rfl ?_
          refine v_iast (g := (gMe_y s0)) (ws' := (w_Me K d0 (mkMe (gMe_x s0) (iset (gMe_y s0) v2 (120 - ((gMe_z s0) v2))) (gMe_z s0) (gMe_corners s0) (gMe_named s0) (gMe_triangles s0)))) gC 2 0 rfl rfl hg3 rfl (by decide) rfl d_Me_turnQuarter_43 ?_
          refine v_aload_n gC d_Me_turnQuarter_44 rfl 0 rfl ?_
          refine v_get (v := .ref (d0 3)) gC in_Me 0 rfl rfl 2 (by decide) fl_Me_18 rfl d_Me_turnQuarter_45 ?_
          refine v_iload_n gC d_Me_turnQuarter_48 rfl 2 rfl ?_
          refine v_iload gC d_Me_turnQuarter_49 4 rfl ?_
          refine v_iast (g := (gMe_z s0)) (ws' := (w_Me K d0 (mkMe (gMe_x s0) (iset (gMe_y s0) v2 (120 - ((gMe_z s0) v2))) (iset (gMe_z s0) v2 ((gMe_y s0) v2)) (gMe_corners s0) (gMe_named s0) (gMe_triangles s0)))) gC 3 0 rfl rfl hg3 rfl (by decide) rfl d_Me_turnQuarter_51 ?_
          refine v_goto (tgt := 103) gC d_Me_turnQuarter_52 (by decide) ?_
          refine v_iinc (lv' := [(0, .ref (d0 0)), (1, .int (zI x1)), (2, .int (zI (v2 + 1))), (3, .int (zI ((gMe_x s0) v2))), (4, .int (zI ((gMe_y s0) v2)))]) gC d_Me_turnQuarter_103 2 rfl (by decide) (v2 + 1) rfl [1, 2, 0, 3, 4] rfl ?_
          refine v_goto (tgt := 2) gC d_Me_turnQuarter_106 (by decide) ?_
          refine v_loc (lv' := [(0, .ref (d0 0)), (1, .int (zI x1)), (2, .int (zI (v2 + 1)))]) [0, 1, 2] rfl ?_
          exact h)
  refine v_iconst gC d_Me_turnQuarter_0 ?_
  refine v_istore_n (lv' := [(0, .ref (d0 0)), (1, .int (zI x1)), (2, .int (zI 0))]) gC d_Me_turnQuarter_1 rfl (by decide) [1, 2, 0] rfl ?_
  refine v_loc (lv' := [(0, .ref (d0 0)), (1, .int (zI x1)), (2, .int (zI 0))]) [0, 1, 2] rfl ?_
  exact h

set_option maxHeartbeats 4000000 in
set_option maxRecDepth 100000 in
theorem k_LS_turn (l : Launch) (D : va_G) (K : Nat → ClassId) (d0 : Nat → Nat) (x1 : Int) (x2 : Int) (s0 : s_LS) (Q : Int → s_LS → Prop) (h : wp_LS_turn x1 x2 s0 Q) : Kt l D K y_LS_turn b_LS_turn 4 (some .boolean) 1 24 [.ref (d0 0), .int (zI x1), .int (zI x2)] (w_LS K d0 s0) (fun v w1 => ∃ (r : Int), ∃ (u0 : s_LS), v = some (.int (zI r)) ∧ w1 = (w_LS K d0 u0) ∧ Q r u0) := by
  refine Kt.ofZ (by decide +kernel) (Nat.le_of_ble_eq_true rfl) (lv0 := [(0, .ref (d0 0)), (1, .int (zI x1)), (2, .int (zI x2))]) rfl ?_
  intro gp ge gR gs gm ga gb gh gc gA gQ gRf gRl gC gret
  unfold wp_LS_turn at h
  replace h := h
    (fun (v3 : Int) (s0 : s_LS) => V gp l ge gR gs gm ga gb gh gc D gA 4 0 0 gQ (w_LS K d0 s0) 22 [(0, .ref (d0 0)), (1, .int (zI x1)), (2, .int (zI x2)), (3, .int (zI v3))] [])
    (by
      intro v3 s0 h
      refine v_iload_n gC d_LS_turn_22 rfl 3 rfl ?_
      refine v_iload_n gC d_LS_turn_23 rfl 2 rfl ?_
      obtain ⟨hg3, hg4, h⟩ := h
      refine v_icmp_ge (tgt := 41) gC d_LS_turn_24 (by decide) hg3 hg4 (fun hc => ?_) (fun hc => ?_)
      · replace h := h.1 hc
        refine v_iconst gC d_LS_turn_41 ?_
        exact gret _ _ _ _ d_LS_turn_42 rfl ⟨1, s0, rfl, rfl, h⟩
      · replace h := h.2 hc
        refine v_aload_n gC d_LS_turn_27 rfl 0 rfl ?_
        refine v_get (v := .ref (d0 1)) gC in_LS 0 rfl rfl 0 (by decide) fl_LS_12 rfl d_LS_turn_28 ?_
        refine v_iload_n gC d_LS_turn_31 rfl 1 rfl ?_
        refine v_callV (rest := []) gC (k_Me_turnQuarter l D K (fun i => d0 (i + 1)) x1 (gLS_mesh s0) _ h) wV_LS_79 rfl ⟨by omega, by omega, Nat.zero_le _, Nat.zero_le _⟩ 0 rfl rfl [1, 2, 3, 4, 5] [0, 6, 7, 8, 9, 10, 11, 12, 13, 14, 15, 16, 17, 18, 19, 20, 21, 22, 23, 24, 25, 26, 27, 28, 29, 30, 31, 32, 33, 34] rfl (by decide) rfl (by decide) (by decide) rfl (Nat.le_of_ble_eq_true rfl) d_LS_turn_32 (fun v w1 hp => ?_)
        obtain ⟨u5, rfl, rfl, h⟩ := hp
        refine v_after (ws' := (w_LS K d0 (mkLS u5 (gLS_mender s0) (gLS_slices s0) (gLS_sorter s0) (gLS_router s0) (gLS_printer s0)))) (st' := []) [0, 30, 31, 32, 33, 34, 1, 2, 3, 4, 5, 6, 7, 8, 9, 10, 11, 12, 13, 14, 15, 16, 17, 18, 19, 20, 21, 22, 23, 24, 25, 26, 27, 28, 29] (by decide) rfl rfl ?_
        refine v_iinc (lv' := [(0, .ref (d0 0)), (1, .int (zI x1)), (2, .int (zI x2)), (3, .int (zI (v3 + 1)))]) gC d_LS_turn_35 3 rfl (by decide) (v3 + 1) rfl [1, 2, 3, 0] rfl ?_
        refine v_goto (tgt := 22) gC d_LS_turn_38 (by decide) ?_
        refine v_loc (lv' := [(0, .ref (d0 0)), (1, .int (zI x1)), (2, .int (zI x2)), (3, .int (zI (v3 + 1)))]) [0, 1, 2, 3] rfl ?_
        exact h)
  refine v_iload_n gC d_LS_turn_0 rfl 1 rfl ?_
  obtain ⟨hg1, h⟩ := h
  refine v_if_lt (tgt := 18) gC d_LS_turn_1 (by decide) hg1 (fun hc => ?_) (fun hc => ?_)
  · replace h := h.1 hc
    refine v_iconst gC d_LS_turn_18 ?_
    exact gret _ _ _ _ d_LS_turn_19 rfl ⟨0, s0, rfl, rfl, h⟩
  · replace h := h.2 hc
    refine v_iload_n gC d_LS_turn_4 rfl 1 rfl ?_
    refine v_iconst gC d_LS_turn_5 ?_
    refine v_icmp_gt (tgt := 18) gC d_LS_turn_6 (by decide) hg1 (by decide) (fun hc => ?_) (fun hc => ?_)
    · replace h := h.1 hc
      refine v_iconst gC d_LS_turn_18 ?_
      exact gret _ _ _ _ d_LS_turn_19 rfl ⟨0, s0, rfl, rfl, h⟩
    · replace h := h.2 hc
      refine v_iload_n gC d_LS_turn_9 rfl 2 rfl ?_
      obtain ⟨hg2, h⟩ := h
      refine v_if_lt (tgt := 18) gC d_LS_turn_10 (by decide) hg2 (fun hc => ?_) (fun hc => ?_)
      · replace h := h.1 hc
        refine v_iconst gC d_LS_turn_18 ?_
        exact gret _ _ _ _ d_LS_turn_19 rfl ⟨0, s0, rfl, rfl, h⟩
      · replace h := h.2 hc
        refine v_iload_n gC d_LS_turn_13 rfl 2 rfl ?_
        refine v_iconst gC d_LS_turn_14 ?_
        refine v_icmp_le (tgt := 20) gC d_LS_turn_15 (by decide) hg2 (by decide) (fun hc => ?_) (fun hc => ?_)
        · replace h := h.1 hc
          refine v_iconst gC d_LS_turn_20 ?_
          refine v_istore_n (lv' := [(0, .ref (d0 0)), (1, .int (zI x1)), (2, .int (zI x2)), (3, .int (zI 0))]) gC d_LS_turn_21 rfl (by decide) [1, 2, 3, 0] rfl ?_
          refine v_loc (lv' := [(0, .ref (d0 0)), (1, .int (zI x1)), (2, .int (zI x2)), (3, .int (zI 0))]) [0, 1, 2, 3] rfl ?_
          exact h
        · replace h := h.2 hc
          refine v_iconst gC d_LS_turn_18 ?_
          exact gret _ _ _ _ d_LS_turn_19 rfl ⟨0, s0, rfl, rfl, h⟩

set_option maxHeartbeats 4000000 in
set_option maxRecDepth 100000 in
theorem k_Me_copyFrom (l : Launch) (D : va_G) (K : Nat → ClassId) (d0 : Nat → Nat) (d1 : Nat → Nat) (s0 : s_Me) (s1 : s_Me) (Q : s_Me → Prop) (h : wp_Me_copyFrom s0 s1 Q) : Kt l D K y_Me_copyFrom b_Me_copyFrom 2 none 1 48 [.ref (d0 0), .ref (d1 0)] (w_Me K d0 s0 ++ w_Me K d1 s1) (fun v w1 => ∃ (u0 : s_Me), v = none ∧ w1 = (w_Me K d0 u0 ++ w_Me K d1 s1) ∧ Q u0) := by
  refine Kt.ofV (by decide +kernel) (Nat.le_of_ble_eq_true rfl) (lv0 := [(0, .ref (d0 0)), (1, .ref (d1 0))]) rfl ?_
  intro gp ge gR gs gm ga gb gh gc gA gQ gRf gRl gC gret
  unfold wp_Me_copyFrom at h
  refine v_aload_n gC d_Me_copyFrom_0 rfl 0 rfl ?_
  refine v_aload_n gC d_Me_copyFrom_1 rfl 1 rfl ?_
  refine v_get (v := .int (zI (gMe_corners s1))) gC in_Me 5 rfl rfl 3 (by decide) fl_Me_24 rfl d_Me_copyFrom_2 ?_
  refine v_puti (ws' := (w_Me K d0 (mkMe (gMe_x s0) (gMe_y s0) (gMe_z s0) (gMe_corners s1) (gMe_named s0) (gMe_triangles s0)) ++ w_Me K d1 s1)) gC in_Me t_Me ok_Me n_Me 0 rfl rfl 3 (by decide) fl_Me_24 rfl (by decide +kernel) (Nat.le_of_ble_eq_true rfl) rfl d_Me_copyFrom_5 ?_
  refine v_aload_n gC d_Me_copyFrom_8 rfl 0 rfl ?_
  refine v_aload_n gC d_Me_copyFrom_9 rfl 1 rfl ?_
  refine v_get (v := .int (zI (gMe_triangles s1))) gC in_Me 5 rfl rfl 5 (by decide) fl_Me_32 rfl d_Me_copyFrom_10 ?_
  refine v_puti (ws' := (w_Me K d0 (mkMe (gMe_x s0) (gMe_y s0) (gMe_z s0) (gMe_corners s1) (gMe_named s0) (gMe_triangles s1)) ++ w_Me K d1 s1)) gC in_Me t_Me ok_Me n_Me 0 rfl rfl 5 (by decide) fl_Me_32 rfl (by decide +kernel) (Nat.le_of_ble_eq_true rfl) rfl d_Me_copyFrom_13 ?_
  refine v_aload_n gC d_Me_copyFrom_16 rfl 1 rfl ?_
  refine v_get (v := .ref (d1 1)) gC in_Me 5 rfl rfl 0 (by decide) fl_Me_9 rfl d_Me_copyFrom_17 ?_
  refine v_iconst gC d_Me_copyFrom_20 ?_
  refine v_aload_n gC d_Me_copyFrom_21 rfl 0 rfl ?_
  refine v_get (v := .ref (d0 1)) gC in_Me 0 rfl rfl 0 (by decide) fl_Me_9 rfl d_Me_copyFrom_22 ?_
  refine v_iconst gC d_Me_copyFrom_25 ?_
  refine v_aload_n gC d_Me_copyFrom_26 rfl 0 rfl ?_
  refine v_get (v := .int (zI (gMe_corners s1))) gC in_Me 0 rfl rfl 3 (by decide) fl_Me_24 rfl d_Me_copyFrom_27 ?_
  obtain ⟨hg1, h⟩ := h
  refine v_copy (ws' := (w_Me K d0 (mkMe (icpy (gMe_x s1) (gMe_x s0) (gMe_corners s1)) (gMe_y s0) (gMe_z s0) (gMe_corners s1) (gMe_named s0) (gMe_triangles s1)) ++ w_Me K d1 s1)) gC wC_Me_48 6 1 0 0 rfl rfl rfl rfl hg1 rfl rfl (by decide) ⟨by omega, by omega⟩ (Nat.le_of_ble_eq_true rfl) rfl d_Me_copyFrom_30 ?_
  refine v_aload_n gC d_Me_copyFrom_33 rfl 1 rfl ?_
  refine v_get (v := .ref (d1 2)) gC in_Me 5 rfl rfl 1 (by decide) fl_Me_15 rfl d_Me_copyFrom_34 ?_
  refine v_iconst gC d_Me_copyFrom_37 ?_
  refine v_aload_n gC d_Me_copyFrom_38 rfl 0 rfl ?_
  refine v_get (v := .ref (d0 2)) gC in_Me 0 rfl rfl 1 (by decide) fl_Me_15 rfl d_Me_copyFrom_39 ?_
  refine v_iconst gC d_Me_copyFrom_42 ?_
  refine v_aload_n gC d_Me_copyFrom_43 rfl 0 rfl ?_
  refine v_get (v := .int (zI (gMe_corners s1))) gC in_Me 0 rfl rfl 3 (by decide) fl_Me_24 rfl d_Me_copyFrom_44 ?_
  obtain ⟨hg2, h⟩ := h
  refine v_copy (ws' := (w_Me K d0 (mkMe (icpy (gMe_x s1) (gMe_x s0) (gMe_corners s1)) (icpy (gMe_y s1) (gMe_y s0) (gMe_corners s1)) (gMe_z s0) (gMe_corners s1) (gMe_named s0) (gMe_triangles s1)) ++ w_Me K d1 s1)) gC wC_Me_48 7 2 0 0 rfl rfl rfl rfl hg2 rfl rfl (by decide) ⟨by omega, by omega⟩ (Nat.le_of_ble_eq_true rfl) rfl d_Me_copyFrom_47 ?_
  refine v_aload_n gC d_Me_copyFrom_50 rfl 1 rfl ?_
  refine v_get (v := .ref (d1 3)) gC in_Me 5 rfl rfl 2 (by decide) fl_Me_18 rfl d_Me_copyFrom_51 ?_
  refine v_iconst gC d_Me_copyFrom_54 ?_
  refine v_aload_n gC d_Me_copyFrom_55 rfl 0 rfl ?_
  refine v_get (v := .ref (d0 3)) gC in_Me 0 rfl rfl 2 (by decide) fl_Me_18 rfl d_Me_copyFrom_56 ?_
  refine v_iconst gC d_Me_copyFrom_59 ?_
  refine v_aload_n gC d_Me_copyFrom_60 rfl 0 rfl ?_
  refine v_get (v := .int (zI (gMe_corners s1))) gC in_Me 0 rfl rfl 3 (by decide) fl_Me_24 rfl d_Me_copyFrom_61 ?_
  obtain ⟨hg3, h⟩ := h
  refine v_copy (ws' := (w_Me K d0 (mkMe (icpy (gMe_x s1) (gMe_x s0) (gMe_corners s1)) (icpy (gMe_y s1) (gMe_y s0) (gMe_corners s1)) (icpy (gMe_z s1) (gMe_z s0) (gMe_corners s1)) (gMe_corners s1) (gMe_named s0) (gMe_triangles s1)) ++ w_Me K d1 s1)) gC wC_Me_48 8 3 0 0 rfl rfl rfl rfl hg3 rfl rfl (by decide) ⟨by omega, by omega⟩ (Nat.le_of_ble_eq_true rfl) rfl d_Me_copyFrom_64 ?_
  refine v_aload_n gC d_Me_copyFrom_67 rfl 1 rfl ?_
  refine v_get (v := .ref (d1 4)) gC in_Me 5 rfl rfl 4 (by decide) fl_Me_21 rfl d_Me_copyFrom_68 ?_
  refine v_iconst gC d_Me_copyFrom_71 ?_
  refine v_aload_n gC d_Me_copyFrom_72 rfl 0 rfl ?_
  refine v_get (v := .ref (d0 4)) gC in_Me 0 rfl rfl 4 (by decide) fl_Me_21 rfl d_Me_copyFrom_73 ?_
  refine v_iconst gC d_Me_copyFrom_76 ?_
  refine v_iconst gC d_Me_copyFrom_77 ?_
  refine v_aload_n gC d_Me_copyFrom_78 rfl 0 rfl ?_
  refine v_get (v := .int (zI (gMe_triangles s1))) gC in_Me 0 rfl rfl 5 (by decide) fl_Me_32 rfl d_Me_copyFrom_79 ?_
  refine v_imul gC d_Me_copyFrom_82 (3 * (gMe_triangles s1)) rfl ?_
  obtain ⟨hg4, h⟩ := h
  refine v_copy (ws' := (w_Me K d0 (mkMe (icpy (gMe_x s1) (gMe_x s0) (gMe_corners s1)) (icpy (gMe_y s1) (gMe_y s0) (gMe_corners s1)) (icpy (gMe_z s1) (gMe_z s0) (gMe_corners s1)) (gMe_corners s1) (icpy (gMe_named s1) (gMe_named s0) (3 * (gMe_triangles s1))) (gMe_triangles s1)) ++ w_Me K d1 s1)) gC wC_Me_48 9 4 0 0 rfl rfl rfl rfl hg4 rfl rfl (by decide) ⟨by omega, by omega⟩ (Nat.le_of_ble_eq_true rfl) rfl d_Me_copyFrom_83 ?_
  exact gret _ _ _ d_Me_copyFrom_86 ⟨(mkMe (icpy (gMe_x s1) (gMe_x s0) (gMe_corners s1)) (icpy (gMe_y s1) (gMe_y s0) (gMe_corners s1)) (icpy (gMe_z s1) (gMe_z s0) (gMe_corners s1)) (gMe_corners s1) (icpy (gMe_named s1) (gMe_named s0) (3 * (gMe_triangles s1))) (gMe_triangles s1)), rfl, rfl, h⟩

set_option maxHeartbeats 4000000 in
set_option maxRecDepth 100000 in
theorem k_Me_greatestZ (l : Launch) (D : va_G) (K : Nat → ClassId) (d0 : Nat → Nat) (s0 : s_Me) (Q : Int → Prop) (h : wp_Me_greatestZ s0 Q) : Kt l D K y_Me_greatestZ b_Me_greatestZ 3 (some .int) 1 24 [.ref (d0 0)] (w_Me K d0 s0) (fun v w1 => ∃ (r : Int), v = some (.int (zI r)) ∧ w1 = (w_Me K d0 s0) ∧ Q r) := by
  refine Kt.ofI (by decide +kernel) (Nat.le_of_ble_eq_true rfl) (lv0 := [(0, .ref (d0 0))]) rfl ?_
  intro gp ge gR gs gm ga gb gh gc gA gQ gRf gRl gC gret
  unfold wp_Me_greatestZ at h
  replace h := h
    (fun (v1 : Int) (v2 : Int) => V gp l ge gR gs gm ga gb gh gc D gA 3 0 0 gQ (w_Me K d0 s0) 4 [(0, .ref (d0 0)), (1, .int (zI v1)), (2, .int (zI v2))] [])
    (by
      intro v1 v2 h
      refine v_iload_n gC d_Me_greatestZ_4 rfl 2 rfl ?_
      refine v_iconst gC d_Me_greatestZ_5 ?_
      refine v_aload_n gC d_Me_greatestZ_6 rfl 0 rfl ?_
      refine v_get (v := .int (zI (gMe_triangles s0))) gC in_Me 0 rfl rfl 5 (by decide) fl_Me_32 rfl d_Me_greatestZ_7 ?_
      refine v_imul gC d_Me_greatestZ_10 (3 * (gMe_triangles s0)) rfl ?_
      obtain ⟨hg1, hg2, h⟩ := h
      refine v_icmp_ge (tgt := 36) gC d_Me_greatestZ_11 (by decide) hg1 hg2 (fun hc => ?_) (fun hc => ?_)
      · replace h := h.1 hc
        refine v_iload_n gC d_Me_greatestZ_36 rfl 1 rfl ?_
        exact gret _ _ _ _ d_Me_greatestZ_37 ⟨v1, rfl, rfl, h⟩
      · replace h := h.2 hc
        refine v_iload_n gC d_Me_greatestZ_14 rfl 1 rfl ?_
        refine v_aload_n gC d_Me_greatestZ_15 rfl 0 rfl ?_
        refine v_get (v := .ref (d0 3)) gC in_Me 0 rfl rfl 2 (by decide) fl_Me_18 rfl d_Me_greatestZ_16 ?_
        refine v_aload_n gC d_Me_greatestZ_19 rfl 0 rfl ?_
        refine v_get (v := .ref (d0 4)) gC in_Me 0 rfl rfl 4 (by decide) fl_Me_21 rfl d_Me_greatestZ_20 ?_
        refine v_iload_n gC d_Me_greatestZ_23 rfl 2 rfl ?_
        obtain ⟨hg3, h⟩ := h
        refine v_iald (g := (gMe_named s0)) gC 4 0 rfl rfl hg3 rfl (by decide) d_Me_greatestZ_24 ?_
        obtain ⟨hg4, h⟩ := h
        refine v_iald (g := (gMe_z s0)) gC 3 0 rfl rfl hg4 rfl (by decide) d_Me_greatestZ_25 ?_
        obtain ⟨hg5, hg6, h⟩ := h
        refine v_max gC wM_Me_42 hg5 hg6 ⟨by omega, by omega, Nat.zero_le _, Nat.zero_le _⟩ (Nat.le_of_ble_eq_true rfl) d_Me_greatestZ_26 ?_
        refine v_istore_n (lv' := [(0, .ref (d0 0)), (1, .int (zI (max v1 ((gMe_z s0) ((gMe_named s0) v2))))), (2, .int (zI v2))]) gC d_Me_greatestZ_29 rfl (by decide) [1, 0, 2] rfl ?_
        refine v_iinc (lv' := [(0, .ref (d0 0)), (1, .int (zI (max v1 ((gMe_z s0) ((gMe_named s0) v2))))), (2, .int (zI (v2 + 1)))]) gC d_Me_greatestZ_30 2 rfl (by decide) (v2 + 1) rfl [1, 2, 0] rfl ?_
        refine v_goto (tgt := 4) gC d_Me_greatestZ_33 (by decide) ?_
        refine v_loc (lv' := [(0, .ref (d0 0)), (1, .int (zI (max v1 ((gMe_z s0) ((gMe_named s0) v2))))), (2, .int (zI (v2 + 1)))]) [0, 1, 2] rfl ?_
        exact h)
  refine v_iconst gC d_Me_greatestZ_0 ?_
  refine v_istore_n (lv' := [(0, .ref (d0 0)), (1, .int (zI 0))]) gC d_Me_greatestZ_1 rfl (by decide) [1, 0] rfl ?_
  refine v_iconst gC d_Me_greatestZ_2 ?_
  refine v_istore_n (lv' := [(0, .ref (d0 0)), (1, .int (zI 0)), (2, .int (zI 0))]) gC d_Me_greatestZ_3 rfl (by decide) [1, 2, 0] rfl ?_
  refine v_loc (lv' := [(0, .ref (d0 0)), (1, .int (zI 0)), (2, .int (zI 0))]) [0, 1, 2] rfl ?_
  exact h

set_option maxHeartbeats 4000000 in
set_option maxRecDepth 100000 in
theorem k_Sl_doubleHeight (l : Launch) (D : va_G) (K : Nat → ClassId) (d0 : Nat → Nat) (x1 : Int) (s0 : s_Sl) (Q : Int → Prop) (h : wp_Sl_doubleHeight x1 s0 Q) : Kt l D K y_Sl_doubleHeight b_Sl_doubleHeight 2 (some .int) 0 0 [.ref (d0 0), .int (zI x1)] (w_Sl K d0 s0) (fun v w1 => ∃ (r : Int), v = some (.int (zI r)) ∧ w1 = (w_Sl K d0 s0) ∧ Q r) := by
  refine Kt.ofI (by decide +kernel) (Nat.le_of_ble_eq_true rfl) (lv0 := [(0, .ref (d0 0)), (1, .int (zI x1))]) rfl ?_
  intro gp ge gR gs gm ga gb gh gc gA gQ gRf gRl gC gret
  unfold wp_Sl_doubleHeight at h
  refine v_iconst gC d_Sl_doubleHeight_0 ?_
  refine v_iload_n gC d_Sl_doubleHeight_1 rfl 1 rfl ?_
  refine v_imul gC d_Sl_doubleHeight_2 (2 * x1) rfl ?_
  refine v_iconst gC d_Sl_doubleHeight_3 ?_
  refine v_iadd gC d_Sl_doubleHeight_4 ((2 * x1) + 1) rfl ?_
  refine v_aload_n gC d_Sl_doubleHeight_5 rfl 0 rfl ?_
  refine v_get (v := .int (zI (gSl_thickness s0))) gC in_Sl 0 rfl rfl 2 (by decide) fl_Sl_29 rfl d_Sl_doubleHeight_6 ?_
  refine v_imul gC d_Sl_doubleHeight_9 (((2 * x1) + 1) * (gSl_thickness s0)) rfl ?_
  exact gret _ _ _ _ d_Sl_doubleHeight_10 ⟨((2 * x1) + 1) * (gSl_thickness s0), rfl, rfl, h⟩

set_option maxHeartbeats 4000000 in
set_option maxRecDepth 100000 in
theorem k_Sl_hasLayer (l : Launch) (D : va_G) (K : Nat → ClassId) (d0 : Nat → Nat) (x1 : Int) (s0 : s_Sl) (Q : Int → Prop) (h : wp_Sl_hasLayer x1 s0 Q) : Kt l D K y_Sl_hasLayer b_Sl_hasLayer 2 (some .boolean) 0 0 [.ref (d0 0), .int (zI x1)] (w_Sl K d0 s0) (fun v w1 => ∃ (r : Int), v = some (.int (zI r)) ∧ w1 = (w_Sl K d0 s0) ∧ Q r) := by
  refine Kt.ofZ (by decide +kernel) (Nat.le_of_ble_eq_true rfl) (lv0 := [(0, .ref (d0 0)), (1, .int (zI x1))]) rfl ?_
  intro gp ge gR gs gm ga gb gh gc gA gQ gRf gRl gC gret
  unfold wp_Sl_hasLayer at h
  refine v_iload_n gC d_Sl_hasLayer_0 rfl 1 rfl ?_
  obtain ⟨hg1, h⟩ := h
  refine v_if_lt (tgt := 16) gC d_Sl_hasLayer_1 (by decide) hg1 (fun hc => ?_) (fun hc => ?_)
  · replace h := h.1 hc
    refine v_iconst gC d_Sl_hasLayer_16 ?_
    exact gret _ _ _ _ d_Sl_hasLayer_17 rfl ⟨0, rfl, rfl, h⟩
  · replace h := h.2 hc
    refine v_iload_n gC d_Sl_hasLayer_4 rfl 1 rfl ?_
    refine v_aload_n gC d_Sl_hasLayer_5 rfl 0 rfl ?_
    refine v_get (v := .int (zI (gSl_count s0))) gC in_Sl 0 rfl rfl 0 (by decide) fl_Sl_37 rfl d_Sl_hasLayer_6 ?_
    obtain ⟨hg2, h⟩ := h
    refine v_icmp_ge (tgt := 16) gC d_Sl_hasLayer_9 (by decide) hg1 hg2 (fun hc => ?_) (fun hc => ?_)
    · replace h := h.1 hc
      refine v_iconst gC d_Sl_hasLayer_16 ?_
      exact gret _ _ _ _ d_Sl_hasLayer_17 rfl ⟨0, rfl, rfl, h⟩
    · replace h := h.2 hc
      refine v_iconst gC d_Sl_hasLayer_12 ?_
      refine v_goto (tgt := 17) gC d_Sl_hasLayer_13 (by decide) ?_
      exact gret _ _ _ _ d_Sl_hasLayer_17 rfl ⟨1, rfl, rfl, h⟩

set_option maxHeartbeats 4000000 in
set_option maxRecDepth 100000 in
theorem k_Sl_isBelow (l : Launch) (D : va_G) (K : Nat → ClassId) (d0 : Nat → Nat) (x1 : Int) (x2 : Int) (s0 : s_Sl) (Q : Int → Prop) (h : wp_Sl_isBelow x1 x2 s0 Q) : Kt l D K y_Sl_isBelow b_Sl_isBelow 3 (some .boolean) 1 21 [.ref (d0 0), .int (zI x1), .int (zI x2)] (w_Sl K d0 s0) (fun v w1 => ∃ (r : Int), v = some (.int (zI r)) ∧ w1 = (w_Sl K d0 s0) ∧ Q r) := by
  refine Kt.ofZ (by decide +kernel) (Nat.le_of_ble_eq_true rfl) (lv0 := [(0, .ref (d0 0)), (1, .int (zI x1)), (2, .int (zI x2))]) rfl ?_
  intro gp ge gR gs gm ga gb gh gc gA gQ gRf gRl gC gret
  unfold wp_Sl_isBelow at h
  refine v_iconst gC d_Sl_isBelow_0 ?_
  refine v_aload_n gC d_Sl_isBelow_1 rfl 0 rfl ?_
  refine v_get (v := .ref (d0 3)) gC in_Sl 0 rfl rfl 3 (by decide) fl_Sl_18 rfl d_Sl_isBelow_2 ?_
  refine v_get (v := .ref (d0 6)) gC in_Me 3 rfl rfl 2 (by decide) fl_Sl_73 rfl d_Sl_isBelow_5 ?_
  refine v_iload_n gC d_Sl_isBelow_8 rfl 1 rfl ?_
  obtain ⟨hg1, h⟩ := h
  refine v_iald (g := (gMe_z (gSl_mesh s0))) gC 6 0 rfl rfl hg1 rfl (by decide) d_Sl_isBelow_9 ?_
  refine v_imul gC d_Sl_isBelow_10 (2 * ((gMe_z (gSl_mesh s0)) x1)) rfl ?_
  refine v_aload_n gC d_Sl_isBelow_11 rfl 0 rfl ?_
  refine v_iload_n gC d_Sl_isBelow_12 rfl 2 rfl ?_
  refine v_callV (rest := [.int (zI (2 * ((gMe_z (gSl_mesh s0)) x1)))]) gC (k_Sl_doubleHeight l D K d0 x2 s0 _ h) wV_Sl_40 rfl ⟨by omega, by omega, Nat.zero_le _, Nat.zero_le _⟩ 0 rfl rfl [0, 1, 2, 3, 4, 5, 6, 7] [] rfl (by decide) rfl (by decide) (by decide) rfl (Nat.le_of_ble_eq_true rfl) d_Sl_isBelow_13 (fun v w1 hp => ?_)
  obtain ⟨r2, rfl, rfl, h⟩ := hp
  refine v_after (ws' := (w_Sl K d0 s0)) (st' := [.int (zI r2), .int (zI (2 * ((gMe_z (gSl_mesh s0)) x1)))]) [0, 1, 2, 3, 4, 5, 6, 7] (by decide) rfl rfl ?_
  obtain ⟨hg3, hg4, h⟩ := h
  refine v_icmp_ge (tgt := 23) gC d_Sl_isBelow_16 (by decide) hg3 hg4 (fun hc => ?_) (fun hc => ?_)
  · replace h := h.1 hc
    refine v_iconst gC d_Sl_isBelow_23 ?_
    exact gret _ _ _ _ d_Sl_isBelow_24 rfl ⟨0, rfl, rfl, h⟩
  · replace h := h.2 hc
    refine v_iconst gC d_Sl_isBelow_19 ?_
    refine v_goto (tgt := 24) gC d_Sl_isBelow_20 (by decide) ?_
    exact gret _ _ _ _ d_Sl_isBelow_24 rfl ⟨1, rfl, rfl, h⟩

set_option maxHeartbeats 4000000 in
set_option maxRecDepth 100000 in
theorem k_Sl_writeEnd (l : Launch) (D : va_G) (K : Nat → ClassId) (d0 : Nat → Nat) (x1 : Int) (x2 : Int) (x3 : Int) (x4 : Int) (s0 : s_Sl) (Q : s_Sl → Prop) (h : wp_Sl_writeEnd x1 x2 x3 x4 s0 Q) : Kt l D K y_Sl_writeEnd b_Sl_writeEnd 7 none 1 21 [.ref (d0 0), .int (zI x1), .int (zI x2), .int (zI x3), .int (zI x4)] (w_Sl K d0 s0) (fun v w1 => ∃ (u0 : s_Sl), v = none ∧ w1 = (w_Sl K d0 u0) ∧ Q u0) := by
  refine Kt.ofV (by decide +kernel) (Nat.le_of_ble_eq_true rfl) (lv0 := [(0, .ref (d0 0)), (1, .int (zI x1)), (2, .int (zI x2)), (3, .int (zI x3)), (4, .int (zI x4))]) rfl ?_
  intro gp ge gR gs gm ga gb gh gc gA gQ gRf gRl gC gret
  unfold wp_Sl_writeEnd at h
  refine v_iconst gC d_Sl_writeEnd_0 ?_
  refine v_aload_n gC d_Sl_writeEnd_1 rfl 0 rfl ?_
  refine v_get (v := .ref (d0 3)) gC in_Sl 0 rfl rfl 3 (by decide) fl_Sl_18 rfl d_Sl_writeEnd_2 ?_
  refine v_get (v := .ref (d0 6)) gC in_Me 3 rfl rfl 2 (by decide) fl_Sl_73 rfl d_Sl_writeEnd_5 ?_
  refine v_iload gC d_Sl_writeEnd_8 4 rfl ?_
  obtain ⟨hg1, h⟩ := h
  refine v_iald (g := (gMe_z (gSl_mesh s0))) gC 6 0 rfl rfl hg1 rfl (by decide) d_Sl_writeEnd_10 ?_
  refine v_aload_n gC d_Sl_writeEnd_11 rfl 0 rfl ?_
  refine v_get (v := .ref (d0 3)) gC in_Sl 0 rfl rfl 3 (by decide) fl_Sl_18 rfl d_Sl_writeEnd_12 ?_
  refine v_get (v := .ref (d0 6)) gC in_Me 3 rfl rfl 2 (by decide) fl_Sl_73 rfl d_Sl_writeEnd_15 ?_
  refine v_iload_n gC d_Sl_writeEnd_18 rfl 3 rfl ?_
  obtain ⟨hg2, h⟩ := h
  refine v_iald (g := (gMe_z (gSl_mesh s0))) gC 6 0 rfl rfl hg2 rfl (by decide) d_Sl_writeEnd_19 ?_
  refine v_isub gC d_Sl_writeEnd_20 (((gMe_z (gSl_mesh s0)) x4) - ((gMe_z (gSl_mesh s0)) x3)) rfl ?_
  refine v_imul gC d_Sl_writeEnd_21 (2 * (((gMe_z (gSl_mesh s0)) x4) - ((gMe_z (gSl_mesh s0)) x3))) rfl ?_
  refine v_istore (lv' := [(0, .ref (d0 0)), (1, .int (zI x1)), (2, .int (zI x2)), (3, .int (zI x3)), (4, .int (zI x4)), (5, .int (zI (2 * (((gMe_z (gSl_mesh s0)) x4) - ((gMe_z (gSl_mesh s0)) x3)))))]) gC d_Sl_writeEnd_22 (by decide) [1, 2, 3, 4, 5, 0] rfl ?_
  refine v_aload_n gC d_Sl_writeEnd_24 rfl 0 rfl ?_
  refine v_iload_n gC d_Sl_writeEnd_25 rfl 2 rfl ?_
  refine v_callV (rest := []) gC (k_Sl_doubleHeight l D K d0 x2 s0 _ h) wV_Sl_40 rfl ⟨by omega, by omega, Nat.zero_le _, Nat.zero_le _⟩ 0 rfl rfl [0, 1, 2, 3, 4, 5, 6, 7] [] rfl (by decide) rfl (by decide) (by decide) rfl (Nat.le_of_ble_eq_true rfl) d_Sl_writeEnd_26 (fun v w1 hp => ?_)
  obtain ⟨r3, rfl, rfl, h⟩ := hp
  refine v_after (ws' := (w_Sl K d0 s0)) (st' := [.int (zI r3)]) [0, 1, 2, 3, 4, 5, 6, 7] (by decide) rfl rfl ?_
  refine v_iconst gC d_Sl_writeEnd_29 ?_
  refine v_aload_n gC d_Sl_writeEnd_30 rfl 0 rfl ?_
  refine v_get (v := .ref (d0 3)) gC in_Sl 0 rfl rfl 3 (by decide) fl_Sl_18 rfl d_Sl_writeEnd_31 ?_
  refine v_get (v := .ref (d0 6)) gC in_Me 3 rfl rfl 2 (by decide) fl_Sl_73 rfl d_Sl_writeEnd_34 ?_
  refine v_iload_n gC d_Sl_writeEnd_37 rfl 3 rfl ?_
  refine v_iald (g := (gMe_z (gSl_mesh s0))) gC 6 0 rfl rfl hg2 rfl (by decide) d_Sl_writeEnd_38 ?_
  refine v_imul gC d_Sl_writeEnd_39 (2 * ((gMe_z (gSl_mesh s0)) x3)) rfl ?_
  refine v_isub gC d_Sl_writeEnd_40 (r3 - (2 * ((gMe_z (gSl_mesh s0)) x3))) rfl ?_
  refine v_istore (lv' := [(0, .ref (d0 0)), (1, .int (zI x1)), (2, .int (zI x2)), (3, .int (zI x3)), (4, .int (zI x4)), (5, .int (zI (2 * (((gMe_z (gSl_mesh s0)) x4) - ((gMe_z (gSl_mesh s0)) x3))))), (6, .int (zI (r3 - (2 * ((gMe_z (gSl_mesh s0)) x3)))))]) gC d_Sl_writeEnd_41 (by decide) [1, 2, 3, 4, 5, 6, 0] rfl ?_
  refine v_aload_n gC d_Sl_writeEnd_43 rfl 0 rfl ?_
  refine v_get (v := .ref (d0 1)) gC in_Sl 0 rfl rfl 1 (by decide) fl_Sl_9 rfl d_Sl_writeEnd_44 ?_
  refine v_iconst gC d_Sl_writeEnd_47 ?_
  refine v_iload_n gC d_Sl_writeEnd_48 rfl 1 rfl ?_
  refine v_imul gC d_Sl_writeEnd_49 (3 * x1) rfl ?_
  refine v_iload gC d_Sl_writeEnd_50 5 rfl ?_
  obtain ⟨hg4, h⟩ := h
  refine v_iast (g := (gSl_ends s0)) (ws' := (w_Sl K d0 (mkSl (gSl_count s0) (iset (gSl_ends s0) (3 * x1) (2 * (((gMe_z (gSl_mesh s0)) x4) - ((gMe_z (gSl_mesh s0)) x3)))) (gSl_thickness s0) (gSl_mesh s0) (gSl_solidRows s0)))) gC 1 0 rfl rfl hg4 rfl (by decide) rfl d_Sl_writeEnd_52 ?_
  refine v_aload_n gC d_Sl_writeEnd_53 rfl 0 rfl ?_
  refine v_get (v := .ref (d0 1)) gC in_Sl 0 rfl rfl 1 (by decide) fl_Sl_9 rfl d_Sl_writeEnd_54 ?_
  refine v_iconst gC d_Sl_writeEnd_57 ?_
  refine v_iload_n gC d_Sl_writeEnd_58 rfl 1 rfl ?_
  refine v_imul gC d_Sl_writeEnd_59 (3 * x1) rfl ?_
  refine v_iconst gC d_Sl_writeEnd_60 ?_
  refine v_iadd gC d_Sl_writeEnd_61 ((3 * x1) + 1) rfl ?_
  refine v_aload_n gC d_Sl_writeEnd_62 rfl 0 rfl ?_
  refine v_get (v := .ref (d0 3)) gC in_Sl 0 rfl rfl 3 (by decide) fl_Sl_18 rfl d_Sl_writeEnd_63 ?_
  refine v_get (v := .ref (d0 4)) gC in_Me 3 rfl rfl 0 (by decide) fl_Sl_76 rfl d_Sl_writeEnd_66 ?_
  refine v_iload_n gC d_Sl_writeEnd_69 rfl 3 rfl ?_
  refine v_iald (g := (gMe_x (gSl_mesh s0))) gC 4 0 rfl rfl hg2 rfl (by decide) d_Sl_writeEnd_70 ?_
  refine v_iload gC d_Sl_writeEnd_71 5 rfl ?_
  refine v_imul gC d_Sl_writeEnd_73 (((gMe_x (gSl_mesh s0)) x3) * (2 * (((gMe_z (gSl_mesh s0)) x4) - ((gMe_z (gSl_mesh s0)) x3)))) rfl ?_
  refine v_aload_n gC d_Sl_writeEnd_74 rfl 0 rfl ?_
  refine v_get (v := .ref (d0 3)) gC in_Sl 0 rfl rfl 3 (by decide) fl_Sl_18 rfl d_Sl_writeEnd_75 ?_
  refine v_get (v := .ref (d0 4)) gC in_Me 3 rfl rfl 0 (by decide) fl_Sl_76 rfl d_Sl_writeEnd_78 ?_
  refine v_iload gC d_Sl_writeEnd_81 4 rfl ?_
  refine v_iald (g := (gMe_x (gSl_mesh s0))) gC 4 0 rfl rfl hg1 rfl (by decide) d_Sl_writeEnd_83 ?_
  refine v_aload_n gC d_Sl_writeEnd_84 rfl 0 rfl ?_
  refine v_get (v := .ref (d0 3)) gC in_Sl 0 rfl rfl 3 (by decide) fl_Sl_18 rfl d_Sl_writeEnd_85 ?_
  refine v_get (v := .ref (d0 4)) gC in_Me 3 rfl rfl 0 (by decide) fl_Sl_76 rfl d_Sl_writeEnd_88 ?_
  refine v_iload_n gC d_Sl_writeEnd_91 rfl 3 rfl ?_
  refine v_iald (g := (gMe_x (gSl_mesh s0))) gC 4 0 rfl rfl hg2 rfl (by decide) d_Sl_writeEnd_92 ?_
  refine v_isub gC d_Sl_writeEnd_93 (((gMe_x (gSl_mesh s0)) x4) - ((gMe_x (gSl_mesh s0)) x3)) rfl ?_
  refine v_iload gC d_Sl_writeEnd_94 6 rfl ?_
  refine v_imul gC d_Sl_writeEnd_96 ((((gMe_x (gSl_mesh s0)) x4) - ((gMe_x (gSl_mesh s0)) x3)) * (r3 - (2 * ((gMe_z (gSl_mesh s0)) x3)))) rfl ?_
  refine v_iadd gC d_Sl_writeEnd_97 ((((gMe_x (gSl_mesh s0)) x3) * (2 * (((gMe_z (gSl_mesh s0)) x4) - ((gMe_z (gSl_mesh s0)) x3)))) + ((((gMe_x (gSl_mesh s0)) x4) - ((gMe_x (gSl_mesh s0)) x3)) * (r3 - (2 * ((gMe_z (gSl_mesh s0)) x3))))) rfl ?_
  obtain ⟨hg5, h⟩ := h
  refine v_iast (g := (iset (gSl_ends s0) (3 * x1) (2 * (((gMe_z (gSl_mesh s0)) x4) - ((gMe_z (gSl_mesh s0)) x3))))) (ws' := (w_Sl K d0 (mkSl (gSl_count s0) (iset (iset (gSl_ends s0) (3 * x1) (2 * (((gMe_z (gSl_mesh s0)) x4) - ((gMe_z (gSl_mesh s0)) x3)))) ((3 * x1) + 1) ((((gMe_x (gSl_mesh s0)) x3) * (2 * (((gMe_z (gSl_mesh s0)) x4) - ((gMe_z (gSl_mesh s0)) x3)))) + ((((gMe_x (gSl_mesh s0)) x4) - ((gMe_x (gSl_mesh s0)) x3)) * (r3 - (2 * ((gMe_z (gSl_mesh s0)) x3)))))) (gSl_thickness s0) (gSl_mesh s0) (gSl_solidRows s0)))) gC 1 0 rfl rfl hg5 rfl (by decide) rfl d_Sl_writeEnd_98 ?_
  refine v_aload_n gC d_Sl_writeEnd_99 rfl 0 rfl ?_
  refine v_get (v := .ref (d0 1)) gC in_Sl 0 rfl rfl 1 (by decide) fl_Sl_9 rfl d_Sl_writeEnd_100 ?_
  refine v_iconst gC d_Sl_writeEnd_103 ?_
  refine v_iload_n gC d_Sl_writeEnd_104 rfl 1 rfl ?_
  refine v_imul gC d_Sl_writeEnd_105 (3 * x1) rfl ?_
  refine v_iconst gC d_Sl_writeEnd_106 ?_
  refine v_iadd gC d_Sl_writeEnd_107 ((3 * x1) + 2) rfl ?_
  refine v_aload_n gC d_Sl_writeEnd_108 rfl 0 rfl ?_
  refine v_get (v := .ref (d0 3)) gC in_Sl 0 rfl rfl 3 (by decide) fl_Sl_18 rfl d_Sl_writeEnd_109 ?_
  refine v_get (v := .ref (d0 5)) gC in_Me 3 rfl rfl 1 (by decide) fl_Sl_79 rfl d_Sl_writeEnd_112 ?_
  refine v_iload_n gC d_Sl_writeEnd_115 rfl 3 rfl ?_
  refine v_iald (g := (gMe_y (gSl_mesh s0))) gC 5 0 rfl rfl hg2 rfl (by decide) d_Sl_writeEnd_116 ?_
  refine v_iload gC d_Sl_writeEnd_117 5 rfl ?_
  refine v_imul gC d_Sl_writeEnd_119 (((gMe_y (gSl_mesh s0)) x3) * (2 * (((gMe_z (gSl_mesh s0)) x4) - ((gMe_z (gSl_mesh s0)) x3)))) rfl ?_
  refine v_aload_n gC d_Sl_writeEnd_120 rfl 0 rfl ?_
  refine v_get (v := .ref (d0 3)) gC in_Sl 0 rfl rfl 3 (by decide) fl_Sl_18 rfl d_Sl_writeEnd_121 ?_
  refine v_get (v := .ref (d0 5)) gC in_Me 3 rfl rfl 1 (by decide) fl_Sl_79 rfl d_Sl_writeEnd_124 ?_
  refine v_iload gC d_Sl_writeEnd_127 4 rfl ?_
  refine v_iald (g := (gMe_y (gSl_mesh s0))) gC 5 0 rfl rfl hg1 rfl (by decide) d_Sl_writeEnd_129 ?_
  refine v_aload_n gC d_Sl_writeEnd_130 rfl 0 rfl ?_
  refine v_get (v := .ref (d0 3)) gC in_Sl 0 rfl rfl 3 (by decide) fl_Sl_18 rfl d_Sl_writeEnd_131 ?_
  refine v_get (v := .ref (d0 5)) gC in_Me 3 rfl rfl 1 (by decide) fl_Sl_79 rfl d_Sl_writeEnd_134 ?_
  refine v_iload_n gC d_Sl_writeEnd_137 rfl 3 rfl ?_
  refine v_iald (g := (gMe_y (gSl_mesh s0))) gC 5 0 rfl rfl hg2 rfl (by decide) d_Sl_writeEnd_138 ?_
  refine v_isub gC d_Sl_writeEnd_139 (((gMe_y (gSl_mesh s0)) x4) - ((gMe_y (gSl_mesh s0)) x3)) rfl ?_
  refine v_iload gC d_Sl_writeEnd_140 6 rfl ?_
  refine v_imul gC d_Sl_writeEnd_142 ((((gMe_y (gSl_mesh s0)) x4) - ((gMe_y (gSl_mesh s0)) x3)) * (r3 - (2 * ((gMe_z (gSl_mesh s0)) x3)))) rfl ?_
  refine v_iadd gC d_Sl_writeEnd_143 ((((gMe_y (gSl_mesh s0)) x3) * (2 * (((gMe_z (gSl_mesh s0)) x4) - ((gMe_z (gSl_mesh s0)) x3)))) + ((((gMe_y (gSl_mesh s0)) x4) - ((gMe_y (gSl_mesh s0)) x3)) * (r3 - (2 * ((gMe_z (gSl_mesh s0)) x3))))) rfl ?_
  obtain ⟨hg6, h⟩ := h
  refine v_iast (g := (iset (iset (gSl_ends s0) (3 * x1) (2 * (((gMe_z (gSl_mesh s0)) x4) - ((gMe_z (gSl_mesh s0)) x3)))) ((3 * x1) + 1) ((((gMe_x (gSl_mesh s0)) x3) * (2 * (((gMe_z (gSl_mesh s0)) x4) - ((gMe_z (gSl_mesh s0)) x3)))) + ((((gMe_x (gSl_mesh s0)) x4) - ((gMe_x (gSl_mesh s0)) x3)) * (r3 - (2 * ((gMe_z (gSl_mesh s0)) x3))))))) (ws' := (w_Sl K d0 (mkSl (gSl_count s0) (iset (iset (iset (gSl_ends s0) (3 * x1) (2 * (((gMe_z (gSl_mesh s0)) x4) - ((gMe_z (gSl_mesh s0)) x3)))) ((3 * x1) + 1) ((((gMe_x (gSl_mesh s0)) x3) * (2 * (((gMe_z (gSl_mesh s0)) x4) - ((gMe_z (gSl_mesh s0)) x3)))) + ((((gMe_x (gSl_mesh s0)) x4) - ((gMe_x (gSl_mesh s0)) x3)) * (r3 - (2 * ((gMe_z (gSl_mesh s0)) x3)))))) ((3 * x1) + 2) ((((gMe_y (gSl_mesh s0)) x3) * (2 * (((gMe_z (gSl_mesh s0)) x4) - ((gMe_z (gSl_mesh s0)) x3)))) + ((((gMe_y (gSl_mesh s0)) x4) - ((gMe_y (gSl_mesh s0)) x3)) * (r3 - (2 * ((gMe_z (gSl_mesh s0)) x3)))))) (gSl_thickness s0) (gSl_mesh s0) (gSl_solidRows s0)))) gC 1 0 rfl rfl hg6 rfl (by decide) rfl d_Sl_writeEnd_144 ?_
  exact gret _ _ _ d_Sl_writeEnd_145 ⟨(mkSl (gSl_count s0) (iset (iset (iset (gSl_ends s0) (3 * x1) (2 * (((gMe_z (gSl_mesh s0)) x4) - ((gMe_z (gSl_mesh s0)) x3)))) ((3 * x1) + 1) ((((gMe_x (gSl_mesh s0)) x3) * (2 * (((gMe_z (gSl_mesh s0)) x4) - ((gMe_z (gSl_mesh s0)) x3)))) + ((((gMe_x (gSl_mesh s0)) x4) - ((gMe_x (gSl_mesh s0)) x3)) * (r3 - (2 * ((gMe_z (gSl_mesh s0)) x3)))))) ((3 * x1) + 2) ((((gMe_y (gSl_mesh s0)) x3) * (2 * (((gMe_z (gSl_mesh s0)) x4) - ((gMe_z (gSl_mesh s0)) x3)))) + ((((gMe_y (gSl_mesh s0)) x4) - ((gMe_y (gSl_mesh s0)) x3)) * (r3 - (2 * ((gMe_z (gSl_mesh s0)) x3)))))) (gSl_thickness s0) (gSl_mesh s0) (gSl_solidRows s0)), rfl, rfl, h⟩

set_option maxHeartbeats 4000000 in
set_option maxRecDepth 100000 in
theorem k_Sl_findEnds (l : Launch) (D : va_G) (K : Nat → ClassId) (d0 : Nat → Nat) (x1 : Int) (x2 : Int) (s0 : s_Sl) (Q : Int → s_Sl → Prop) (h : wp_Sl_findEnds x1 x2 s0 Q) : Kt l D K y_Sl_findEnds b_Sl_findEnds 7 (some .boolean) 2 47 [.ref (d0 0), .int (zI x1), .int (zI x2)] (w_Sl K d0 s0) (fun v w1 => ∃ (r : Int), ∃ (u0 : s_Sl), v = some (.int (zI r)) ∧ w1 = (w_Sl K d0 u0) ∧ Q r u0) := by
  refine Kt.ofZ (by decide +kernel) (Nat.le_of_ble_eq_true rfl) (lv0 := [(0, .ref (d0 0)), (1, .int (zI x1)), (2, .int (zI x2))]) rfl ?_
  intro gp ge gR gs gm ga gb gh gc gA gQ gRf gRl gC gret
  unfold wp_Sl_findEnds at h
  replace h := h
    (fun (v3 : Int) (v4 : Int) (s0 : s_Sl) => V gp l ge gR gs gm ga gb gh gc D gA 7 0 0 gQ (w_Sl K d0 s0) 30 [(0, .ref (d0 0)), (1, .int (zI x1)), (2, .int (zI x2)), (3, .int (zI v3)), (4, .int (zI v4))] [])
    (fun (v3 : Int) (v4 : Int) (v5 : Int) (v6 : Int) (t0 : Int) (t1 : Int) (t2 : Int) (s0 : s_Sl) => V gp l ge gR gs gm ga gb gh gc D gA 7 0 0 gQ (w_Sl K d0 s0) 114 [(0, .ref (d0 0)), (1, .int (zI x1)), (2, .int (zI x2)), (3, .int (zI v3)), (4, .int (zI v4)), (5, .int (zI v5)), (6, .int (zI v6))] [.int (zI t0), .int (zI t1), .int (zI t2), .ref (d0 0)])
    (by
      intro v3 v4 s0 h
      refine v_iload gC d_Sl_findEnds_30 4 rfl ?_
      refine v_iconst gC d_Sl_findEnds_32 ?_
      obtain ⟨hg5, h⟩ := h
      refine v_icmp_ge (tgt := 143) gC d_Sl_findEnds_33 (by decide) hg5 (by decide) (fun hc => ?_) (fun hc => ?_)
      · replace h := h.1 hc
        refine v_iload_n gC d_Sl_findEnds_143 rfl 3 rfl ?_
        refine v_iconst gC d_Sl_findEnds_144 ?_
        obtain ⟨hg6, h⟩ := h
        refine v_icmp_ne (tgt := 152) gC d_Sl_findEnds_145 (by decide) hg6 (by decide) (fun hc => ?_) (fun hc => ?_)
        · replace h := h.1 hc
          refine v_iconst gC d_Sl_findEnds_152 ?_
          exact gret _ _ _ _ d_Sl_findEnds_153 rfl ⟨0, s0, rfl, rfl, h⟩
        · replace h := h.2 hc
          refine v_iconst gC d_Sl_findEnds_148 ?_
          refine v_goto (tgt := 153) gC d_Sl_findEnds_149 (by decide) ?_
          exact gret _ _ _ _ d_Sl_findEnds_153 rfl ⟨1, s0, rfl, rfl, h⟩
      · replace h := h.2 hc
        refine v_iload_n gC d_Sl_findEnds_36 rfl 3 rfl ?_
        refine v_iconst gC d_Sl_findEnds_37 ?_
        obtain ⟨hg7, h⟩ := h
        refine v_icmp_ge (tgt := 143) gC d_Sl_findEnds_38 (by decide) hg7 (by decide) (fun hc => ?_) (fun hc => ?_)
        · replace h := h.1 hc
          refine v_iload_n gC d_Sl_findEnds_143 rfl 3 rfl ?_
          refine v_iconst gC d_Sl_findEnds_144 ?_
          refine v_icmp_ne (tgt := 152) gC d_Sl_findEnds_145 (by decide) hg7 (by decide) (fun hc => ?_) (fun hc => ?_)
          · replace h := h.1 hc
            refine v_iconst gC d_Sl_findEnds_152 ?_
            exact gret _ _ _ _ d_Sl_findEnds_153 rfl ⟨0, s0, rfl, rfl, h⟩
          · replace h := h.2 hc
            refine v_iconst gC d_Sl_findEnds_148 ?_
            refine v_goto (tgt := 153) gC d_Sl_findEnds_149 (by decide) ?_
            exact gret _ _ _ _ d_Sl_findEnds_153 rfl ⟨1, s0, rfl, rfl, h⟩
        · replace h := h.2 hc
          refine v_aload_n gC d_Sl_findEnds_41 rfl 0 rfl ?_
          refine v_get (v := .ref (d0 3)) gC in_Sl 0 rfl rfl 3 (by decide) fl_Sl_18 rfl d_Sl_findEnds_42 ?_
          refine v_get (v := .ref (d0 7)) gC in_Me 3 rfl rfl 4 (by decide) fl_Sl_63 rfl d_Sl_findEnds_45 ?_
          refine v_iconst gC d_Sl_findEnds_48 ?_
          refine v_iload_n gC d_Sl_findEnds_49 rfl 2 rfl ?_
          refine v_imul gC d_Sl_findEnds_50 (3 * x2) rfl ?_
          refine v_iload gC d_Sl_findEnds_51 4 rfl ?_
          refine v_iadd gC d_Sl_findEnds_53 ((3 * x2) + v4) rfl ?_
          obtain ⟨hg8, h⟩ := h
          refine v_iald (g := (gMe_named (gSl_mesh s0))) gC 7 0 rfl rfl hg8 rfl (by decide) d_Sl_findEnds_54 ?_
          refine v_istore (lv' := [(0, .ref (d0 0)), (1, .int (zI x1)), (2, .int (zI x2)), (3, .int (zI v3)), (4, .int (zI v4)), (5, .int (zI ((gMe_named (gSl_mesh s0)) ((3 * x2) + v4))))]) gC d_Sl_findEnds_55 (by decide) [1, 2, 3, 4, 5, 0] rfl ?_
          refine v_aload_n gC d_Sl_findEnds_57 rfl 0 rfl ?_
          refine v_get (v := .ref (d0 3)) gC in_Sl 0 rfl rfl 3 (by decide) fl_Sl_18 rfl d_Sl_findEnds_58 ?_
          refine v_get (v := .ref (d0 7)) gC in_Me 3 rfl rfl 4 (by decide) fl_Sl_63 rfl d_Sl_findEnds_61 ?_
          refine v_iconst gC d_Sl_findEnds_64 ?_
          refine v_iload_n gC d_Sl_findEnds_65 rfl 2 rfl ?_
          refine v_imul gC d_Sl_findEnds_66 (3 * x2) rfl ?_
          refine v_iload gC d_Sl_findEnds_67 4 rfl ?_
          refine v_iconst gC d_Sl_findEnds_69 ?_
          refine v_iadd gC d_Sl_findEnds_70 (v4 + 1) rfl ?_
          refine v_iconst gC d_Sl_findEnds_71 ?_
          obtain ⟨hg9, h⟩ := h
          refine v_irem gC d_Sl_findEnds_72 hg9 (by decide) (by decide) ?_
          refine v_iadd gC d_Sl_findEnds_73 ((3 * x2) + (Int.tmod (v4 + 1) 3)) rfl ?_
          obtain ⟨hg10, h⟩ := h
          refine v_iald (g := (gMe_named (gSl_mesh s0))) gC 7 0 rfl rfl hg10 rfl (by decide) d_Sl_findEnds_74 ?_
          refine v_istore (lv' := [(0, .ref (d0 0)), (1, .int (zI x1)), (2, .int (zI x2)), (3, .int (zI v3)), (4, .int (zI v4)), (5, .int (zI ((gMe_named (gSl_mesh s0)) ((3 * x2) + v4)))), (6, .int (zI ((gMe_named (gSl_mesh s0)) ((3 * x2) + (Int.tmod (v4 + 1) 3)))))]) gC d_Sl_findEnds_75 (by decide) [1, 2, 3, 4, 5, 6, 0] rfl ?_
          refine v_aload_n gC d_Sl_findEnds_77 rfl 0 rfl ?_
          refine v_iload gC d_Sl_findEnds_78 5 rfl ?_
          refine v_iload_n gC d_Sl_findEnds_80 rfl 1 rfl ?_
          refine v_callV (rest := []) gC (k_Sl_isBelow l D K d0 ((gMe_named (gSl_mesh s0)) ((3 * x2) + v4)) x1 s0 _ h) wV_Sl_66 rfl ⟨by omega, by omega, Nat.zero_le _, Nat.zero_le _⟩ 0 rfl rfl [0, 1, 2, 3, 4, 5, 6, 7] [] rfl (by decide) rfl (by decide) (by decide) rfl (Nat.le_of_ble_eq_true rfl) d_Sl_findEnds_81 (fun v w1 hp => ?_)
          obtain ⟨r11, rfl, rfl, h⟩ := hp
          refine v_after (ws' := (w_Sl K d0 s0)) (st' := [.int (zI r11)]) [0, 1, 2, 3, 4, 5, 6, 7] (by decide) rfl rfl ?_
          refine v_aload_n gC d_Sl_findEnds_84 rfl 0 rfl ?_
          refine v_iload gC d_Sl_findEnds_85 6 rfl ?_
          refine v_iload_n gC d_Sl_findEnds_87 rfl 1 rfl ?_
          refine v_callV (rest := [.int (zI r11)]) gC (k_Sl_isBelow l D K d0 ((gMe_named (gSl_mesh s0)) ((3 * x2) + (Int.tmod (v4 + 1) 3))) x1 s0 _ h) wV_Sl_66 rfl ⟨by omega, by omega, Nat.zero_le _, Nat.zero_le _⟩ 0 rfl rfl [0, 1, 2, 3, 4, 5, 6, 7] [] rfl (by decide) rfl (by decide) (by decide) rfl (Nat.le_of_ble_eq_true rfl) d_Sl_findEnds_88 (fun v w1 hp => ?_)
          obtain ⟨r12, rfl, rfl, h⟩ := hp
          refine v_after (ws' := (w_Sl K d0 s0)) (st' := [.int (zI r12), .int (zI r11)]) [0, 1, 2, 3, 4, 5, 6, 7] (by decide) rfl rfl ?_
          obtain ⟨hg13, hg14, h⟩ := h
          refine v_icmp_eq (tgt := 137) gC d_Sl_findEnds_91 (by decide) hg13 hg14 (fun hc => ?_) (fun hc => ?_)
          · replace h := h.1 hc
            refine v_iinc (lv' := [(0, .ref (d0 0)), (1, .int (zI x1)), (2, .int (zI x2)), (3, .int (zI v3)), (4, .int (zI (v4 + 1))), (5, .int (zI ((gMe_named (gSl_mesh s0)) ((3 * x2) + v4)))), (6, .int (zI ((gMe_named (gSl_mesh s0)) ((3 * x2) + (Int.tmod (v4 + 1) 3)))))]) gC d_Sl_findEnds_137 4 rfl (by decide) (v4 + 1) rfl [1, 2, 3, 4, 0, 5, 6] rfl ?_
            refine v_goto (tgt := 30) gC d_Sl_findEnds_140 (by decide) ?_
            refine v_loc (lv' := [(0, .ref (d0 0)), (1, .int (zI x1)), (2, .int (zI x2)), (3, .int (zI v3)), (4, .int (zI (v4 + 1)))]) [0, 1, 2, 3, 4] rfl ?_
            exact h
          · replace h := h.2 hc
            refine v_aload_n gC d_Sl_findEnds_94 rfl 0 rfl ?_
            refine v_iload_n gC d_Sl_findEnds_95 rfl 3 rfl ?_
            refine v_iload_n gC d_Sl_findEnds_96 rfl 1 rfl ?_
            refine v_aload_n gC d_Sl_findEnds_97 rfl 0 rfl ?_
            refine v_iload gC d_Sl_findEnds_98 5 rfl ?_
            refine v_iload_n gC d_Sl_findEnds_100 rfl 1 rfl ?_
            refine v_callV (rest := [.int (zI x1), .int (zI v3), .ref (d0 0)]) gC (k_Sl_isBelow l D K d0 ((gMe_named (gSl_mesh s0)) ((3 * x2) + v4)) x1 s0 _ h) wV_Sl_66 rfl ⟨by omega, by omega, Nat.zero_le _, Nat.zero_le _⟩ 0 rfl rfl [0, 1, 2, 3, 4, 5, 6, 7] [] rfl (by decide) rfl (by decide) (by decide) rfl (Nat.le_of_ble_eq_true rfl) d_Sl_findEnds_101 (fun v w1 hp => ?_)
            obtain ⟨r15, rfl, rfl, h⟩ := hp
            refine v_after (ws' := (w_Sl K d0 s0)) (st' := [.int (zI r15), .int (zI x1), .int (zI v3), .ref (d0 0)]) [0, 1, 2, 3, 4, 5, 6, 7] (by decide) rfl rfl ?_
            obtain ⟨hg16, h⟩ := h
            refine v_if_eq (tgt := 112) gC d_Sl_findEnds_104 (by decide) hg16 (fun hc => ?_) (fun hc => ?_)
            · replace h := h.1 hc
              refine v_iload gC d_Sl_findEnds_112 6 rfl ?_
              refine v_loc (lv' := [(0, .ref (d0 0)), (1, .int (zI x1)), (2, .int (zI x2)), (3, .int (zI v3)), (4, .int (zI v4)), (5, .int (zI ((gMe_named (gSl_mesh s0)) ((3 * x2) + v4)))), (6, .int (zI ((gMe_named (gSl_mesh s0)) ((3 * x2) + (Int.tmod (v4 + 1) 3)))))]) [0, 1, 2, 3, 4, 5, 6] rfl ?_
              exact h
            · replace h := h.2 hc
              refine v_iload gC d_Sl_findEnds_107 5 rfl ?_
              refine v_goto (tgt := 114) gC d_Sl_findEnds_109 (by decide) ?_
              refine v_loc (lv' := [(0, .ref (d0 0)), (1, .int (zI x1)), (2, .int (zI x2)), (3, .int (zI v3)), (4, .int (zI v4)), (5, .int (zI ((gMe_named (gSl_mesh s0)) ((3 * x2) + v4)))), (6, .int (zI ((gMe_named (gSl_mesh s0)) ((3 * x2) + (Int.tmod (v4 + 1) 3)))))]) [0, 1, 2, 3, 4, 5, 6] rfl ?_
              exact h)
    (by
      intro v3 v4 v5 v6 t0 t1 t2 s0 h
      refine v_aload_n gC d_Sl_findEnds_114 rfl 0 rfl ?_
      refine v_iload gC d_Sl_findEnds_115 5 rfl ?_
      refine v_iload_n gC d_Sl_findEnds_117 rfl 1 rfl ?_
      refine v_callV (rest := [.int (zI t0), .int (zI t1), .int (zI t2), .ref (d0 0)]) gC (k_Sl_isBelow l D K d0 v5 x1 s0 _ h) wV_Sl_66 rfl ⟨by omega, by omega, Nat.zero_le _, Nat.zero_le _⟩ 0 rfl rfl [0, 1, 2, 3, 4, 5, 6, 7] [] rfl (by decide) rfl (by decide) (by decide) rfl (Nat.le_of_ble_eq_true rfl) d_Sl_findEnds_118 (fun v w1 hp => ?_)
      obtain ⟨r17, rfl, rfl, h⟩ := hp
      refine v_after (ws' := (w_Sl K d0 s0)) (st' := [.int (zI r17), .int (zI t0), .int (zI t1), .int (zI t2), .ref (d0 0)]) [0, 1, 2, 3, 4, 5, 6, 7] (by decide) rfl rfl ?_
      obtain ⟨hg18, h⟩ := h
      refine v_if_eq (tgt := 129) gC d_Sl_findEnds_121 (by decide) hg18 (fun hc => ?_) (fun hc => ?_)
      · replace h := h.1 hc
        refine v_iload gC d_Sl_findEnds_129 5 rfl ?_
        refine v_callV (rest := []) gC (k_Sl_writeEnd l D K d0 t2 t1 t0 v5 s0 _ h) wV_Sl_69 rfl ⟨by omega, by omega, Nat.zero_le _, Nat.zero_le _⟩ 0 rfl rfl [0, 1, 2, 3, 4, 5, 6, 7] [] rfl (by decide) rfl (by decide) (by decide) rfl (Nat.le_of_ble_eq_true rfl) d_Sl_findEnds_131 (fun v w1 hp => ?_)
        obtain ⟨u19, rfl, rfl, h⟩ := hp
        refine v_after (ws' := (w_Sl K d0 u19)) (st' := []) [0, 1, 2, 3, 4, 5, 6, 7] (by decide) rfl rfl ?_
        refine v_iinc (lv' := [(0, .ref (d0 0)), (1, .int (zI x1)), (2, .int (zI x2)), (3, .int (zI (v3 + 1))), (4, .int (zI v4)), (5, .int (zI v5)), (6, .int (zI v6))]) gC d_Sl_findEnds_134 3 rfl (by decide) (v3 + 1) rfl [1, 2, 3, 0, 4, 5, 6] rfl ?_
        refine v_iinc (lv' := [(0, .ref (d0 0)), (1, .int (zI x1)), (2, .int (zI x2)), (3, .int (zI (v3 + 1))), (4, .int (zI (v4 + 1))), (5, .int (zI v5)), (6, .int (zI v6))]) gC d_Sl_findEnds_137 4 rfl (by decide) (v4 + 1) rfl [1, 2, 3, 4, 0, 5, 6] rfl ?_
        refine v_goto (tgt := 30) gC d_Sl_findEnds_140 (by decide) ?_
        refine v_loc (lv' := [(0, .ref (d0 0)), (1, .int (zI x1)), (2, .int (zI x2)), (3, .int (zI (v3 + 1))), (4, .int (zI (v4 + 1)))]) [0, 1, 2, 3, 4] rfl ?_
        exact h
      · replace h := h.2 hc
        refine v_iload gC d_Sl_findEnds_124 6 rfl ?_
        refine v_goto (tgt := 131) gC d_Sl_findEnds_126 (by decide) ?_
        refine v_callV (rest := []) gC (k_Sl_writeEnd l D K d0 t2 t1 t0 v6 s0 _ h) wV_Sl_69 rfl ⟨by omega, by omega, Nat.zero_le _, Nat.zero_le _⟩ 0 rfl rfl [0, 1, 2, 3, 4, 5, 6, 7] [] rfl (by decide) rfl (by decide) (by decide) rfl (Nat.le_of_ble_eq_true rfl) d_Sl_findEnds_131 (fun v w1 hp => ?_)
        obtain ⟨u20, rfl, rfl, h⟩ := hp
        refine v_after (ws' := (w_Sl K d0 u20)) (st' := []) [0, 1, 2, 3, 4, 5, 6, 7] (by decide) rfl rfl ?_
        refine v_iinc (lv' := [(0, .ref (d0 0)), (1, .int (zI x1)), (2, .int (zI x2)), (3, .int (zI (v3 + 1))), (4, .int (zI v4)), (5, .int (zI v5)), (6, .int (zI v6))]) gC d_Sl_findEnds_134 3 rfl (by decide) (v3 + 1) rfl [1, 2, 3, 0, 4, 5, 6] rfl ?_
        refine v_iinc (lv' := [(0, .ref (d0 0)), (1, .int (zI x1)), (2, .int (zI x2)), (3, .int (zI (v3 + 1))), (4, .int (zI (v4 + 1))), (5, .int (zI v5)), (6, .int (zI v6))]) gC d_Sl_findEnds_137 4 rfl (by decide) (v4 + 1) rfl [1, 2, 3, 4, 0, 5, 6] rfl ?_
        refine v_goto (tgt := 30) gC d_Sl_findEnds_140 (by decide) ?_
        refine v_loc (lv' := [(0, .ref (d0 0)), (1, .int (zI x1)), (2, .int (zI x2)), (3, .int (zI (v3 + 1))), (4, .int (zI (v4 + 1)))]) [0, 1, 2, 3, 4] rfl ?_
        exact h)
  refine v_aload_n gC d_Sl_findEnds_0 rfl 0 rfl ?_
  refine v_iload_n gC d_Sl_findEnds_1 rfl 1 rfl ?_
  refine v_callV (rest := []) gC (k_Sl_hasLayer l D K d0 x1 s0 _ h) wV_Sl_48 rfl ⟨by omega, by omega, Nat.zero_le _, Nat.zero_le _⟩ 0 rfl rfl [0, 1, 2, 3, 4, 5, 6, 7] [] rfl (by decide) rfl (by decide) (by decide) rfl (Nat.le_of_ble_eq_true rfl) d_Sl_findEnds_2 (fun v w1 hp => ?_)
  obtain ⟨r1, rfl, rfl, h⟩ := hp
  refine v_after (ws' := (w_Sl K d0 s0)) (st' := [.int (zI r1)]) [0, 1, 2, 3, 4, 5, 6, 7] (by decide) rfl rfl ?_
  obtain ⟨hg2, h⟩ := h
  refine v_if_eq (tgt := 23) gC d_Sl_findEnds_5 (by decide) hg2 (fun hc => ?_) (fun hc => ?_)
  · replace h := h.1 hc
    refine v_iconst gC d_Sl_findEnds_23 ?_
    exact gret _ _ _ _ d_Sl_findEnds_24 rfl ⟨0, s0, rfl, rfl, h⟩
  · replace h := h.2 hc
    refine v_iload_n gC d_Sl_findEnds_8 rfl 2 rfl ?_
    obtain ⟨hg3, h⟩ := h
    refine v_if_lt (tgt := 23) gC d_Sl_findEnds_9 (by decide) hg3 (fun hc => ?_) (fun hc => ?_)
    · replace h := h.1 hc
      refine v_iconst gC d_Sl_findEnds_23 ?_
      exact gret _ _ _ _ d_Sl_findEnds_24 rfl ⟨0, s0, rfl, rfl, h⟩
    · replace h := h.2 hc
      refine v_iload_n gC d_Sl_findEnds_12 rfl 2 rfl ?_
      refine v_aload_n gC d_Sl_findEnds_13 rfl 0 rfl ?_
      refine v_get (v := .ref (d0 3)) gC in_Sl 0 rfl rfl 3 (by decide) fl_Sl_18 rfl d_Sl_findEnds_14 ?_
      refine v_get (v := .int (zI (gMe_triangles (gSl_mesh s0)))) gC in_Me 3 rfl rfl 5 (by decide) fl_Sl_60 rfl d_Sl_findEnds_17 ?_
      obtain ⟨hg4, h⟩ := h
      refine v_icmp_lt (tgt := 25) gC d_Sl_findEnds_20 (by decide) hg3 hg4 (fun hc => ?_) (fun hc => ?_)
      · replace h := h.1 hc
        refine v_iconst gC d_Sl_findEnds_25 ?_
        refine v_istore_n (lv' := [(0, .ref (d0 0)), (1, .int (zI x1)), (2, .int (zI x2)), (3, .int (zI 0))]) gC d_Sl_findEnds_26 rfl (by decide) [1, 2, 3, 0] rfl ?_
        refine v_iconst gC d_Sl_findEnds_27 ?_
        refine v_istore (lv' := [(0, .ref (d0 0)), (1, .int (zI x1)), (2, .int (zI x2)), (3, .int (zI 0)), (4, .int (zI 0))]) gC d_Sl_findEnds_28 (by decide) [1, 2, 3, 4, 0] rfl ?_
        refine v_loc (lv' := [(0, .ref (d0 0)), (1, .int (zI x1)), (2, .int (zI x2)), (3, .int (zI 0)), (4, .int (zI 0))]) [0, 1, 2, 3, 4] rfl ?_
        exact h
      · replace h := h.2 hc
        refine v_iconst gC d_Sl_findEnds_23 ?_
        exact gret _ _ _ _ d_Sl_findEnds_24 rfl ⟨0, s0, rfl, rfl, h⟩
