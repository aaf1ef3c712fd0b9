set_option maxHeartbeats 4000000 in
set_option maxRecDepth 100000 in
theorem k_LS_settings (l : Launch) (D : va_G) (K : Nat → ClassId) (d0 : Nat → Nat) (x1 : Int) (x2 : Int) (x3 : Int) (x4 : Int) (x5 : Int) (s0 : s_LS) (Q : Int → s_LS → Prop) (h : wp_LS_settings x1 x2 x3 x4 x5 s0 Q) : Kt l D K y_LS_settings b_LS_settings 6 (some .boolean) 6 144 [.ref (d0 0), .int (zI x1), .int (zI x2), .int (zI x3), .int (zI x4), .int (zI x5)] (w_LS K d0 s0) (fun v w1 => ∃ (r : Int), ∃ (u0 : s_LS), v = some (.int (zI r)) ∧ w1 = (w_LS K d0 u0) ∧ Q r u0) := by
  refine Kt.ofZ (by decide +kernel) (Nat.le_of_ble_eq_true rfl) (lv0 := [(0, .ref (d0 0)), (1, .int (zI x1)), (2, .int (zI x2)), (3, .int (zI x3)), (4, .int (zI x4)), (5, .int (zI x5))]) rfl ?_
  intro gp ge gR gs gm ga gb gh gc gA gQ gRf gRl gC gret
  unfold wp_LS_settings at h
  refine v_aload_n gC d_LS_settings_0 rfl 0 rfl ?_
  refine v_get (v := .ref (d0 20)) gC in_LS 0 rfl rfl 3 (by decide) fl_LS_33 rfl d_LS_settings_1 ?_
  refine v_iload_n gC d_LS_settings_4 rfl 1 rfl ?_
  refine v_iload_n gC d_LS_settings_5 rfl 2 rfl ?_
  refine v_iload_n gC d_LS_settings_6 rfl 3 rfl ?_
  refine v_iload gC d_LS_settings_7 4 rfl ?_
  refine v_iload gC d_LS_settings_9 5 rfl ?_
  refine v_callV (rest := []) gC (k_So_accept l D K (fun i => d0 (i + 20)) x1 x2 x3 x4 x5 (gLS_sorter s0) _ h) wV_LS_111 rfl ⟨by omega, by omega, Nat.zero_le _, Nat.zero_le _⟩ 0 rfl rfl [20, 21, 22, 23, 24, 25, 26, 27, 28, 29] [0, 1, 2, 3, 4, 5, 6, 7, 8, 9, 10, 11, 12, 13, 14, 15, 16, 17, 18, 19, 30, 31, 32, 33, 34] rfl (by decide) rfl (by decide) (by decide) rfl (Nat.le_of_ble_eq_true rfl) d_LS_settings_11 (fun v w1 hp => ?_)
  obtain ⟨r1, u2, rfl, rfl, h⟩ := hp
  refine v_after (ws' := (w_LS K d0 (mkLS (gLS_mesh s0) (gLS_mender s0) (gLS_slices s0) u2 (gLS_router s0) (gLS_printer s0)))) (st' := [.int (zI r1)]) [0, 1, 2, 3, 4, 5, 6, 7, 8, 9, 10, 11, 12, 13, 14, 15, 16, 17, 18, 19, 25, 26, 27, 28, 29, 30, 31, 32, 33, 34, 20, 21, 22, 23, 24] (by decide) rfl rfl ?_
  obtain ⟨hg3, h⟩ := h
  refine v_if_ne (tgt := 19) gC d_LS_settings_14 (by decide) hg3 (fun hc => ?_) (fun hc => ?_)
  · replace h := h.1 hc
    refine v_aload_n gC d_LS_settings_19 rfl 0 rfl ?_
    refine v_get (v := .ref (d0 20)) gC in_LS 0 rfl rfl 3 (by decide) fl_LS_33 rfl d_LS_settings_20 ?_
    refine v_aload_n gC d_LS_settings_23 rfl 0 rfl ?_
    refine v_get (v := .ref (d0 12)) gC in_LS 0 rfl rfl 2 (by decide) fl_LS_26 rfl d_LS_settings_24 ?_
    refine v_callV (rest := []) gC (k_So_sortCells l D K (fun i => d0 (i + 20)) (fun i => d0 (i + 12)) u2 (gLS_slices s0) _ h) wV_LS_87 rfl ⟨by omega, by omega, Nat.zero_le _, Nat.zero_le _⟩ 0 rfl rfl [20, 21, 22, 23, 24, 25, 26, 27, 28, 29, 12, 13, 14, 15, 16, 17, 18, 19] [0, 1, 2, 3, 4, 5, 6, 7, 8, 9, 10, 11, 30, 31, 32, 33, 34] rfl (by decide) rfl (by decide) (by decide) rfl (Nat.le_of_ble_eq_true rfl) d_LS_settings_27 (fun v w1 hp => ?_)
    obtain ⟨u4, rfl, rfl, h⟩ := hp
    refine v_after (ws' := (w_LS K d0 (mkLS (gLS_mesh s0) (gLS_mender s0) (gLS_slices s0) u4 (gLS_router s0) (gLS_printer s0)))) (st' := []) [0, 1, 2, 3, 4, 5, 6, 7, 8, 9, 10, 11, 27, 28, 29, 30, 31, 32, 33, 34, 17, 18, 19, 20, 21, 22, 23, 24, 25, 26, 12, 13, 14, 15, 16] (by decide) rfl rfl ?_
    refine v_iconst gC d_LS_settings_30 ?_
    exact gret _ _ _ _ d_LS_settings_31 rfl ⟨1, (mkLS (gLS_mesh s0) (gLS_mender s0) (gLS_slices s0) u4 (gLS_router s0) (gLS_printer s0)), rfl, rfl, h⟩
  · replace h := h.2 hc
    refine v_iconst gC d_LS_settings_17 ?_
    exact gret _ _ _ _ d_LS_settings_18 rfl ⟨0, (mkLS (gLS_mesh s0) (gLS_mender s0) (gLS_slices s0) u2 (gLS_router s0) (gLS_printer s0)), rfl, rfl, h⟩

set_option maxHeartbeats 4000000 in
set_option maxRecDepth 100000 in
theorem k_So_kindAt (l : Launch) (D : va_G) (K : Nat → ClassId) (d0 : Nat → Nat) (x1 : Int) (x2 : Int) (x3 : Int) (s0 : s_So) (Q : Int → Prop) (h : wp_So_kindAt x1 x2 x3 s0 Q) : Kt l D K y_So_kindAt b_So_kindAt 5 (some .int) 0 0 [.ref (d0 0), .int (zI x1), .int (zI x2), .int (zI x3)] (w_So K d0 s0) (fun v w1 => ∃ (r : Int), v = some (.int (zI r)) ∧ w1 = (w_So K d0 s0) ∧ Q r) := by
  refine Kt.ofI (by decide +kernel) (Nat.le_of_ble_eq_true rfl) (lv0 := [(0, .ref (d0 0)), (1, .int (zI x1)), (2, .int (zI x2)), (3, .int (zI x3))]) rfl ?_
  intro gp ge gR gs gm ga gb gh gc gA gQ gRf gRl gC gret
  unfold wp_So_kindAt at h
  replace h := h
    (fun (v4 : Int) => V gp l ge gR gs gm ga gb gh gc D gA 5 0 0 gQ (w_So K d0 s0) 3 [(0, .ref (d0 0)), (1, .int (zI x1)), (2, .int (zI x2)), (3, .int (zI x3)), (4, .int (zI v4))] [])
    (by
      intro v4 h
      refine v_iload gC d_So_kindAt_3 4 rfl ?_
      refine v_bipush gC d_So_kindAt_5 (by decide) ?_
      obtain ⟨hg1, h⟩ := h
      refine v_icmp_ge (tgt := 41) gC d_So_kindAt_7 (by decide) hg1 (by decide) (fun hc => ?_) (fun hc => ?_)
      · replace h := h.1 hc
        refine v_iconst gC d_So_kindAt_41 ?_
        exact gret _ _ _ _ d_So_kindAt_42 ⟨0, rfl, rfl, h⟩
      · replace h := h.2 hc
        refine v_aload_n gC d_So_kindAt_10 rfl 0 rfl ?_
        refine v_get (v := .ref (d0 1)) gC in_So 0 rfl rfl 0 (by decide) fl_So_11 rfl d_So_kindAt_11 ?_
        refine v_iload gC d_So_kindAt_14 4 rfl ?_
        obtain ⟨hg2, h⟩ := h
        rcases ix_7 hg2 with rfl | rfl | rfl | rfl | rfl | rfl | rfl
        · skip
          refine v_aald (y := d0 2) gC 1 3 rfl rfl (by decide) rfl (by decide) rfl d_So_kindAt_16 ?_
          refine v_iload_n gC d_So_kindAt_17 rfl 1 rfl ?_
          refine v_bipush gC d_So_kindAt_18 (by decide) ?_
          refine v_imul gC d_So_kindAt_20 (x1 * 12) rfl ?_
          refine v_iload_n gC d_So_kindAt_21 rfl 3 rfl ?_
          refine v_iadd gC d_So_kindAt_22 ((x1 * 12) + x3) rfl ?_
          obtain ⟨hg3, h⟩ := h
          refine v_iald (g := (rSo_rowsOfKind s0 0)) gC 2 0 rfl rfl hg3 rfl (by decide) d_So_kindAt_23 ?_
          refine v_iload_n gC d_So_kindAt_24 rfl 2 rfl ?_
          obtain ⟨hg4, hg5, h⟩ := h
          refine v_ishr gC d_So_kindAt_25 hg5 hg4 ?_
          refine v_iconst gC d_So_kindAt_26 ?_
          refine v_iand gC d_So_kindAt_27 ?_
          refine v_iconst gC d_So_kindAt_28 ?_
          refine v_icmp_ne (tgt := 35) gC d_So_kindAt_29 (by decide) (rg_of _) (by decide) (fun hc => ?_) (fun hc => ?_)
          · replace h := h.1 hc
            refine v_iinc (lv' := [(0, .ref (d0 0)), (1, .int (zI x1)), (2, .int (zI x2)), (3, .int (zI x3)), (4, .int (zI (0 + 1)))]) gC d_So_kindAt_35 4 rfl (by decide) (0 + 1) rfl [1, 2, 3, 4, 0] rfl ?_
            refine v_goto (tgt := 3) gC d_So_kindAt_38 (by decide) ?_
            refine v_loc (lv' := [(0, .ref (d0 0)), (1, .int (zI x1)), (2, .int (zI x2)), (3, .int (zI x3)), (4, .int (zI (0 + 1)))]) [0, 1, 2, 3, 4] rfl ?_
            exact h
          · replace h := h.2 hc
            refine v_iload gC d_So_kindAt_32 4 rfl ?_
            exact gret _ _ _ _ d_So_kindAt_34 ⟨0, rfl, rfl, h⟩
        · skip
          refine v_aald (y := d0 3) gC 1 3 rfl rfl (by decide) rfl (by decide) rfl d_So_kindAt_16 ?_
          refine v_iload_n gC d_So_kindAt_17 rfl 1 rfl ?_
          refine v_bipush gC d_So_kindAt_18 (by decide) ?_
          refine v_imul gC d_So_kindAt_20 (x1 * 12) rfl ?_
          refine v_iload_n gC d_So_kindAt_21 rfl 3 rfl ?_
          refine v_iadd gC d_So_kindAt_22 ((x1 * 12) + x3) rfl ?_
          obtain ⟨hg3, h⟩ := h
          refine v_iald (g := (rSo_rowsOfKind s0 1)) gC 3 0 rfl rfl hg3 rfl (by decide) d_So_kindAt_23 ?_
          refine v_iload_n gC d_So_kindAt_24 rfl 2 rfl ?_
          obtain ⟨hg4, hg5, h⟩ := h
          refine v_ishr gC d_So_kindAt_25 hg5 hg4 ?_
          refine v_iconst gC d_So_kindAt_26 ?_
          refine v_iand gC d_So_kindAt_27 ?_
          refine v_iconst gC d_So_kindAt_28 ?_
          refine v_icmp_ne (tgt := 35) gC d_So_kindAt_29 (by decide) (rg_of _) (by decide) (fun hc => ?_) (fun hc => ?_)
          · replace h := h.1 hc
            refine v_iinc (lv' := [(0, .ref (d0 0)), (1, .int (zI x1)), (2, .int (zI x2)), (3, .int (zI x3)), (4, .int (zI (1 + 1)))]) gC d_So_kindAt_35 4 rfl (by decide) (1 + 1) rfl [1, 2, 3, 4, 0] rfl ?_
            refine v_goto (tgt := 3) gC d_So_kindAt_38 (by decide) ?_
            refine v_loc (lv' := [(0, .ref (d0 0)), (1, .int (zI x1)), (2, .int (zI x2)), (3, .int (zI x3)), (4, .int (zI (1 + 1)))]) [0, 1, 2, 3, 4] rfl ?_
            exact h
          · replace h := h.2 hc
            refine v_iload gC d_So_kindAt_32 4 rfl ?_
            exact gret _ _ _ _ d_So_kindAt_34 ⟨1, rfl, rfl, h⟩
        · skip
          refine v_aald (y := d0 4) gC 1 3 rfl rfl (by decide) rfl (by decide) rfl d_So_kindAt_16 ?_
          refine v_iload_n gC d_So_kindAt_17 rfl 1 rfl ?_
          refine v_bipush gC d_So_kindAt_18 (by decide) ?_
          refine v_imul gC d_So_kindAt_20 (x1 * 12) rfl ?_
          refine v_iload_n gC d_So_kindAt_21 rfl 3 rfl ?_
          refine v_iadd gC d_So_kindAt_22 ((x1 * 12) + x3) rfl ?_
          obtain ⟨hg3, h⟩ := h
          refine v_iald (g := (rSo_rowsOfKind s0 2)) gC 4 0 rfl rfl hg3 rfl (by decide) d_So_kindAt_23 ?_
          refine v_iload_n gC d_So_kindAt_24 rfl 2 rfl ?_
          obtain ⟨hg4, hg5, h⟩ := h
          refine v_ishr gC d_So_kindAt_25 hg5 hg4 ?_
          refine v_iconst gC d_So_kindAt_26 ?_
          refine v_iand gC d_So_kindAt_27 ?_
          refine v_iconst gC d_So_kindAt_28 ?_
          refine v_icmp_ne (tgt := 35) gC d_So_kindAt_29 (by decide) (rg_of _) (by decide) (fun hc => ?_) (fun hc => ?_)
          · replace h := h.1 hc
            refine v_iinc (lv' := [(0, .ref (d0 0)), (1, .int (zI x1)), (2, .int (zI x2)), (3, .int (zI x3)), (4, .int (zI (2 + 1)))]) gC d_So_kindAt_35 4 rfl (by decide) (2 + 1) rfl [1, 2, 3, 4, 0] rfl ?_
            refine v_goto (tgt := 3) gC d_So_kindAt_38 (by decide) ?_
            refine v_loc (lv' := [(0, .ref (d0 0)), (1, .int (zI x1)), (2, .int (zI x2)), (3, .int (zI x3)), (4, .int (zI (2 + 1)))]) [0, 1, 2, 3, 4] rfl ?_
            exact h
          · replace h := h.2 hc
            refine v_iload gC d_So_kindAt_32 4 rfl ?_
            exact gret _ _ _ _ d_So_kindAt_34 ⟨2, rfl, rfl, h⟩
        · skip
          refine v_aald (y := d0 5) gC 1 3 rfl rfl (by decide) rfl (by decide) rfl d_So_kindAt_16 ?_
          refine v_iload_n gC d_So_kindAt_17 rfl 1 rfl ?_
          refine v_bipush gC d_So_kindAt_18 (by decide) ?_
          refine v_imul gC d_So_kindAt_20 (x1 * 12) rfl ?_
          refine v_iload_n gC d_So_kindAt_21 rfl 3 rfl ?_
          refine v_iadd gC d_So_kindAt_22 ((x1 * 12) + x3) rfl ?_
          obtain ⟨hg3, h⟩ := h
          refine v_iald (g := (rSo_rowsOfKind s0 3)) gC 5 0 rfl rfl hg3 rfl (by decide) d_So_kindAt_23 ?_
          refine v_iload_n gC d_So_kindAt_24 rfl 2 rfl ?_
          obtain ⟨hg4, hg5, h⟩ := h
          refine v_ishr gC d_So_kindAt_25 hg5 hg4 ?_
          refine v_iconst gC d_So_kindAt_26 ?_
          refine v_iand gC d_So_kindAt_27 ?_
          refine v_iconst gC d_So_kindAt_28 ?_
          refine v_icmp_ne (tgt := 35) gC d_So_kindAt_29 (by decide) (rg_of _) (by decide) (fun hc => ?_) (fun hc => ?_)
          · replace h := h.1 hc
            refine v_iinc (lv' := [(0, .ref (d0 0)), (1, .int (zI x1)), (2, .int (zI x2)), (3, .int (zI x3)), (4, .int (zI (3 + 1)))]) gC d_So_kindAt_35 4 rfl (by decide) (3 + 1) rfl [1, 2, 3, 4, 0] rfl ?_
            refine v_goto (tgt := 3) gC d_So_kindAt_38 (by decide) ?_
            refine v_loc (lv' := [(0, .ref (d0 0)), (1, .int (zI x1)), (2, .int (zI x2)), (3, .int (zI x3)), (4, .int (zI (3 + 1)))]) [0, 1, 2, 3, 4] rfl ?_
            exact h
          · replace h := h.2 hc
            refine v_iload gC d_So_kindAt_32 4 rfl ?_
            exact gret _ _ _ _ d_So_kindAt_34 ⟨3, rfl, rfl, h⟩
        · skip
          refine v_aald (y := d0 6) gC 1 3 rfl rfl (by decide) rfl (by decide) rfl d_So_kindAt_16 ?_
          refine v_iload_n gC d_So_kindAt_17 rfl 1 rfl ?_
          refine v_bipush gC d_So_kindAt_18 (by decide) ?_
          refine v_imul gC d_So_kindAt_20 (x1 * 12) rfl ?_
          refine v_iload_n gC d_So_kindAt_21 rfl 3 rfl ?_
          refine v_iadd gC d_So_kindAt_22 ((x1 * 12) + x3) rfl ?_
          obtain ⟨hg3, h⟩ := h
          refine v_iald (g := (rSo_rowsOfKind s0 4)) gC 6 0 rfl rfl hg3 rfl (by decide) d_So_kindAt_23 ?_
          refine v_iload_n gC d_So_kindAt_24 rfl 2 rfl ?_
          obtain ⟨hg4, hg5, h⟩ := h
          refine v_ishr gC d_So_kindAt_25 hg5 hg4 ?_
          refine v_iconst gC d_So_kindAt_26 ?_
          refine v_iand gC d_So_kindAt_27 ?_
          refine v_iconst gC d_So_kindAt_28 ?_
          refine v_icmp_ne (tgt := 35) gC d_So_kindAt_29 (by decide) (rg_of _) (by decide) (fun hc => ?_) (fun hc => ?_)
          · replace h := h.1 hc
            refine v_iinc (lv' := [(0, .ref (d0 0)), (1, .int (zI x1)), (2, .int (zI x2)), (3, .int (zI x3)), (4, .int (zI (4 + 1)))]) gC d_So_kindAt_35 4 rfl (by decide) (4 + 1) rfl [1, 2, 3, 4, 0] rfl ?_
            refine v_goto (tgt := 3) gC d_So_kindAt_38 (by decide) ?_
            refine v_loc (lv' := [(0, .ref (d0 0)), (1, .int (zI x1)), (2, .int (zI x2)), (3, .int (zI x3)), (4, .int (zI (4 + 1)))]) [0, 1, 2, 3, 4] rfl ?_
            exact h
          · replace h := h.2 hc
            refine v_iload gC d_So_kindAt_32 4 rfl ?_
            exact gret _ _ _ _ d_So_kindAt_34 ⟨4, rfl, rfl, h⟩
        · skip
          refine v_aald (y := d0 7) gC 1 3 rfl rfl (by decide) rfl (by decide) rfl d_So_kindAt_16 ?_
          refine v_iload_n gC d_So_kindAt_17 rfl 1 rfl ?_
          refine v_bipush gC d_So_kindAt_18 (by decide) ?_
          refine v_imul gC d_So_kindAt_20 (x1 * 12) rfl ?_
          refine v_iload_n gC d_So_kindAt_21 rfl 3 rfl ?_
          refine v_iadd gC d_So_kindAt_22 ((x1 * 12) + x3) rfl ?_
          obtain ⟨hg3, h⟩ := h
          refine v_iald (g := (rSo_rowsOfKind s0 5)) gC 7 0 rfl rfl hg3 rfl (by decide) d_So_kindAt_23 ?_
          refine v_iload_n gC d_So_kindAt_24 rfl 2 rfl ?_
          obtain ⟨hg4, hg5, h⟩ := h
          refine v_ishr gC d_So_kindAt_25 hg5 hg4 ?_
          refine v_iconst gC d_So_kindAt_26 ?_
          refine v_iand gC d_So_kindAt_27 ?_
          refine v_iconst gC d_So_kindAt_28 ?_
          refine v_icmp_ne (tgt := 35) gC d_So_kindAt_29 (by decide) (rg_of _) (by decide) (fun hc => ?_) (fun hc => ?_)
          · replace h := h.1 hc
            refine v_iinc (lv' := [(0, .ref (d0 0)), (1, .int (zI x1)), (2, .int (zI x2)), (3, .int (zI x3)), (4, .int (zI (5 + 1)))]) gC d_So_kindAt_35 4 rfl (by decide) (5 + 1) rfl [1, 2, 3, 4, 0] rfl ?_
            refine v_goto (tgt := 3) gC d_So_kindAt_38 (by decide) ?_
            refine v_loc (lv' := [(0, .ref (d0 0)), (1, .int (zI x1)), (2, .int (zI x2)), (3, .int (zI x3)), (4, .int (zI (5 + 1)))]) [0, 1, 2, 3, 4] rfl ?_
            exact h
          · replace h := h.2 hc
            refine v_iload gC d_So_kindAt_32 4 rfl ?_
            exact gret _ _ _ _ d_So_kindAt_34 ⟨5, rfl, rfl, h⟩
        · skip
          refine v_aald (y := d0 8) gC 1 3 rfl rfl (by decide) rfl (by decide) rfl d_So_kindAt_16 ?_
          refine v_iload_n gC d_So_kindAt_17 rfl 1 rfl ?_
          refine v_bipush gC d_So_kindAt_18 (by decide) ?_
          refine v_imul gC d_So_kindAt_20 (x1 * 12) rfl ?_
          refine v_iload_n gC d_So_kindAt_21 rfl 3 rfl ?_
          refine v_iadd gC d_So_kindAt_22 ((x1 * 12) + x3) rfl ?_
          obtain ⟨hg3, h⟩ := h
          refine v_iald (g := (rSo_rowsOfKind s0 6)) gC 8 0 rfl rfl hg3 rfl (by decide) d_So_kindAt_23 ?_
          refine v_iload_n gC d_So_kindAt_24 rfl 2 rfl ?_
          obtain ⟨hg4, hg5, h⟩ := h
          refine v_ishr gC d_So_kindAt_25 hg5 hg4 ?_
          refine v_iconst gC d_So_kindAt_26 ?_
          refine v_iand gC d_So_kindAt_27 ?_
          refine v_iconst gC d_So_kindAt_28 ?_
          refine v_icmp_ne (tgt := 35) gC d_So_kindAt_29 (by decide) (rg_of _) (by decide) (fun hc => ?_) (fun hc => ?_)
          · replace h := h.1 hc
            refine v_iinc (lv' := [(0, .ref (d0 0)), (1, .int (zI x1)), (2, .int (zI x2)), (3, .int (zI x3)), (4, .int (zI (6 + 1)))]) gC d_So_kindAt_35 4 rfl (by decide) (6 + 1) rfl [1, 2, 3, 4, 0] rfl ?_
            refine v_goto (tgt := 3) gC d_So_kindAt_38 (by decide) ?_
            refine v_loc (lv' := [(0, .ref (d0 0)), (1, .int (zI x1)), (2, .int (zI x2)), (3, .int (zI x3)), (4, .int (zI (6 + 1)))]) [0, 1, 2, 3, 4] rfl ?_
            exact h
          · replace h := h.2 hc
            refine v_iload gC d_So_kindAt_32 4 rfl ?_
            exact gret _ _ _ _ d_So_kindAt_34 ⟨6, rfl, rfl, h⟩)
  refine v_iconst gC d_So_kindAt_0 ?_
  refine v_istore (lv' := [(0, .ref (d0 0)), (1, .int (zI x1)), (2, .int (zI x2)), (3, .int (zI x3)), (4, .int (zI 1))]) gC d_So_kindAt_1 (by decide) [1, 2, 3, 4, 0] rfl ?_
  refine v_loc (lv' := [(0, .ref (d0 0)), (1, .int (zI x1)), (2, .int (zI x2)), (3, .int (zI x3)), (4, .int (zI 1))]) [0, 1, 2, 3, 4] rfl ?_
  exact h

set_option maxHeartbeats 4000000 in
set_option maxRecDepth 100000 in
theorem k_LS_kind (l : Launch) (D : va_G) (K : Nat → ClassId) (d0 : Nat → Nat) (x1 : Int) (x2 : Int) (x3 : Int) (s0 : s_LS) (Q : Int → Prop) (h : wp_LS_kind x1 x2 x3 s0 Q) : Kt l D K y_LS_kind b_LS_kind 4 (some .int) 2 43 [.ref (d0 0), .int (zI x1), .int (zI x2), .int (zI x3)] (w_LS K d0 s0) (fun v w1 => ∃ (r : Int), v = some (.int (zI r)) ∧ w1 = (w_LS K d0 s0) ∧ Q r) := by
  refine Kt.ofI (by decide +kernel) (Nat.le_of_ble_eq_true rfl) (lv0 := [(0, .ref (d0 0)), (1, .int (zI x1)), (2, .int (zI x2)), (3, .int (zI x3))]) rfl ?_
  intro gp ge gR gs gm ga gb gh gc gA gQ gRf gRl gC gret
  unfold wp_LS_kind at h
  refine v_aload_n gC d_LS_kind_0 rfl 0 rfl ?_
  refine v_get (v := .ref (d0 12)) gC in_LS 0 rfl rfl 2 (by decide) fl_LS_26 rfl d_LS_kind_1 ?_
  refine v_iload_n gC d_LS_kind_4 rfl 1 rfl ?_
  refine v_iload_n gC d_LS_kind_5 rfl 3 rfl ?_
  refine v_callV (rest := []) gC (k_Sl_hasRow l D K (fun i => d0 (i + 12)) x1 x3 (gLS_slices s0) _ h) wV_LS_115 rfl ⟨by omega, by omega, Nat.zero_le _, Nat.zero_le _⟩ 0 rfl rfl [12, 13, 14, 15, 16, 17, 18, 19] [0, 1, 2, 3, 4, 5, 6, 7, 8, 9, 10, 11, 20, 21, 22, 23, 24, 25, 26, 27, 28, 29, 30, 31, 32, 33, 34] rfl (by decide) rfl (by decide) (by decide) rfl (Nat.le_of_ble_eq_true rfl) d_LS_kind_6 (fun v w1 hp => ?_)
  obtain ⟨r1, rfl, rfl, h⟩ := hp
  refine v_after (ws' := (w_LS K d0 s0)) (st' := [.int (zI r1)]) [0, 1, 2, 3, 4, 5, 6, 7, 8, 9, 10, 11, 27, 28, 29, 30, 31, 32, 33, 34, 12, 13, 14, 15, 16, 17, 18, 19, 20, 21, 22, 23, 24, 25, 26] (by decide) rfl rfl ?_
  obtain ⟨hg2, h⟩ := h
  refine v_if_eq (tgt := 35) gC d_LS_kind_9 (by decide) hg2 (fun hc => ?_) (fun hc => ?_)
  · replace h := h.1 hc
    refine v_iconst gC d_LS_kind_35 ?_
    exact gret _ _ _ _ d_LS_kind_36 ⟨0, rfl, rfl, h⟩
  · replace h := h.2 hc
    refine v_iload_n gC d_LS_kind_12 rfl 2 rfl ?_
    obtain ⟨hg3, h⟩ := h
    refine v_if_lt (tgt := 35) gC d_LS_kind_13 (by decide) hg3 (fun hc => ?_) (fun hc => ?_)
    · replace h := h.1 hc
      refine v_iconst gC d_LS_kind_35 ?_
      exact gret _ _ _ _ d_LS_kind_36 ⟨0, rfl, rfl, h⟩
    · replace h := h.2 hc
      refine v_iload_n gC d_LS_kind_16 rfl 2 rfl ?_
      refine v_bipush gC d_LS_kind_17 (by decide) ?_
      refine v_icmp_ge (tgt := 35) gC d_LS_kind_19 (by decide) hg3 (by decide) (fun hc => ?_) (fun hc => ?_)
      · replace h := h.1 hc
        refine v_iconst gC d_LS_kind_35 ?_
        exact gret _ _ _ _ d_LS_kind_36 ⟨0, rfl, rfl, h⟩
      · replace h := h.2 hc
        refine v_aload_n gC d_LS_kind_22 rfl 0 rfl ?_
        refine v_get (v := .ref (d0 20)) gC in_LS 0 rfl rfl 3 (by decide) fl_LS_33 rfl d_LS_kind_23 ?_
        refine v_iload_n gC d_LS_kind_26 rfl 1 rfl ?_
        refine v_iload_n gC d_LS_kind_27 rfl 2 rfl ?_
        refine v_iload_n gC d_LS_kind_28 rfl 3 rfl ?_
        refine v_callV (rest := []) gC (k_So_kindAt l D K (fun i => d0 (i + 20)) x1 x2 x3 (gLS_sorter s0) _ h) wV_LS_118 rfl ⟨by omega, by omega, Nat.zero_le _, Nat.zero_le _⟩ 0 rfl rfl [20, 21, 22, 23, 24, 25, 26, 27, 28, 29] [0, 1, 2, 3, 4, 5, 6, 7, 8, 9, 10, 11, 12, 13, 14, 15, 16, 17, 18, 19, 30, 31, 32, 33, 34] rfl (by decide) rfl (by decide) (by decide) rfl (Nat.le_of_ble_eq_true rfl) d_LS_kind_29 (fun v w1 hp => ?_)
        obtain ⟨r4, rfl, rfl, h⟩ := hp
        refine v_after (ws' := (w_LS K d0 s0)) (st' := [.int (zI r4)]) [0, 1, 2, 3, 4, 5, 6, 7, 8, 9, 10, 11, 12, 13, 14, 15, 16, 17, 18, 19, 25, 26, 27, 28, 29, 30, 31, 32, 33, 34, 20, 21, 22, 23, 24] (by decide) rfl rfl ?_
        refine v_goto (tgt := 36) gC d_LS_kind_32 (by decide) ?_
        exact gret _ _ _ _ d_LS_kind_36 ⟨r4, rfl, rfl, h⟩

set_option maxHeartbeats 4000000 in
set_option maxRecDepth 100000 in
theorem k_Ro_isPrinted (l : Launch) (D : va_G) (K : Nat → ClassId) (x0 : Int) (Q : Int → Prop) (h : wp_Ro_isPrinted x0 Q) : Kt l D K y_Ro_isPrinted b_Ro_isPrinted 1 (some .boolean) 0 0 [.int (zI x0)] [] (fun v w1 => ∃ (r : Int), v = some (.int (zI r)) ∧ w1 = [] ∧ Q r) := by
  refine Kt.ofZ (by decide +kernel) (Nat.le_of_ble_eq_true rfl) (lv0 := [(0, .int (zI x0))]) rfl ?_
  intro gp ge gR gs gm ga gb gh gc gA gQ gRf gRl gC gret
  unfold wp_Ro_isPrinted at h
  refine v_iload_n gC d_Ro_isPrinted_0 rfl 0 rfl ?_
  refine v_iconst gC d_Ro_isPrinted_1 ?_
  obtain ⟨hg1, h⟩ := h
  refine v_icmp_eq (tgt := 20) gC d_Ro_isPrinted_2 (by decide) hg1 (by decide) (fun hc => ?_) (fun hc => ?_)
  · replace h := h.1 hc
    refine v_iconst gC d_Ro_isPrinted_20 ?_
    refine v_goto (tgt := 25) gC d_Ro_isPrinted_21 (by decide) ?_
    exact gret _ _ _ _ d_Ro_isPrinted_25 rfl ⟨1, rfl, rfl, h⟩
  · replace h := h.2 hc
    refine v_iload_n gC d_Ro_isPrinted_5 rfl 0 rfl ?_
    refine v_iconst gC d_Ro_isPrinted_6 ?_
    refine v_icmp_eq (tgt := 20) gC d_Ro_isPrinted_7 (by decide) hg1 (by decide) (fun hc => ?_) (fun hc => ?_)
    · replace h := h.1 hc
      refine v_iconst gC d_Ro_isPrinted_20 ?_
      refine v_goto (tgt := 25) gC d_Ro_isPrinted_21 (by decide) ?_
      exact gret _ _ _ _ d_Ro_isPrinted_25 rfl ⟨1, rfl, rfl, h⟩
    · replace h := h.2 hc
      refine v_iload_n gC d_Ro_isPrinted_10 rfl 0 rfl ?_
      refine v_iconst gC d_Ro_isPrinted_11 ?_
      refine v_icmp_eq (tgt := 20) gC d_Ro_isPrinted_12 (by decide) hg1 (by decide) (fun hc => ?_) (fun hc => ?_)
      · replace h := h.1 hc
        refine v_iconst gC d_Ro_isPrinted_20 ?_
        refine v_goto (tgt := 25) gC d_Ro_isPrinted_21 (by decide) ?_
        exact gret _ _ _ _ d_Ro_isPrinted_25 rfl ⟨1, rfl, rfl, h⟩
      · replace h := h.2 hc
        refine v_iload_n gC d_Ro_isPrinted_15 rfl 0 rfl ?_
        refine v_iconst gC d_Ro_isPrinted_16 ?_
        refine v_icmp_ne (tgt := 24) gC d_Ro_isPrinted_17 (by decide) hg1 (by decide) (fun hc => ?_) (fun hc => ?_)
        · replace h := h.1 hc
          refine v_iconst gC d_Ro_isPrinted_24 ?_
          exact gret _ _ _ _ d_Ro_isPrinted_25 rfl ⟨0, rfl, rfl, h⟩
        · replace h := h.2 hc
          refine v_iconst gC d_Ro_isPrinted_20 ?_
          refine v_goto (tgt := 25) gC d_Ro_isPrinted_21 (by decide) ?_
          exact gret _ _ _ _ d_Ro_isPrinted_25 rfl ⟨1, rfl, rfl, h⟩

set_option maxHeartbeats 4000000 in
set_option maxRecDepth 100000 in
theorem k_Ro_beginRun (l : Launch) (D : va_G) (K : Nat → ClassId) (d0 : Nat → Nat) (x1 : Int) (x2 : Int) (x3 : Int) (x4 : Int) (s0 : s_Ro) (Q : s_Ro → Prop) (h : wp_Ro_beginRun x1 x2 x3 x4 s0 Q) : Kt l D K y_Ro_beginRun b_Ro_beginRun 5 none 0 0 [.ref (d0 0), .int (zI x1), .int (zI x2), .int (zI x3), .int (zI x4)] (w_Ro K d0 s0) (fun v w1 => ∃ (u0 : s_Ro), v = none ∧ w1 = (w_Ro K d0 u0) ∧ Q u0) := by
  refine Kt.ofV (by decide +kernel) (Nat.le_of_ble_eq_true rfl) (lv0 := [(0, .ref (d0 0)), (1, .int (zI x1)), (2, .int (zI x2)), (3, .int (zI x3)), (4, .int (zI x4))]) rfl ?_
  intro gp ge gR gs gm ga gb gh gc gA gQ gRf gRl gC gret
  unfold wp_Ro_beginRun at h
  refine v_aload_n gC d_Ro_beginRun_0 rfl 0 rfl ?_
  refine v_get (v := .ref (d0 1)) gC in_Ro 0 rfl rfl 0 (by decide) fl_Ro_9 rfl d_Ro_beginRun_1 ?_
  refine v_iconst gC d_Ro_beginRun_4 ?_
  refine v_iload_n gC d_Ro_beginRun_5 rfl 1 rfl ?_
  refine v_imul gC d_Ro_beginRun_6 (4 * x1) rfl ?_
  refine v_iload_n gC d_Ro_beginRun_7 rfl 2 rfl ?_
  obtain ⟨hg1, h⟩ := h
  refine v_iast (g := (gRo_runs s0)) (ws' := (w_Ro K d0 (mkRo (iset (gRo_runs s0) (4 * x1) x2)))) gC 1 0 rfl rfl hg1 rfl (by decide) rfl d_Ro_beginRun_8 ?_
  refine v_aload_n gC d_Ro_beginRun_9 rfl 0 rfl ?_
  refine v_get (v := .ref (d0 1)) gC in_Ro 0 rfl rfl 0 (by decide) fl_Ro_9 rfl d_Ro_beginRun_10 ?_
  refine v_iconst gC d_Ro_beginRun_13 ?_
  refine v_iload_n gC d_Ro_beginRun_14 rfl 1 rfl ?_
  refine v_imul gC d_Ro_beginRun_15 (4 * x1) rfl ?_
  refine v_iconst gC d_Ro_beginRun_16 ?_
  refine v_iadd gC d_Ro_beginRun_17 ((4 * x1) + 1) rfl ?_
  refine v_iload_n gC d_Ro_beginRun_18 rfl 3 rfl ?_
  obtain ⟨hg2, h⟩ := h
  refine v_iast (g := (iset (gRo_runs s0) (4 * x1) x2)) (ws' := (w_Ro K d0 (mkRo (iset (iset (gRo_runs s0) (4 * x1) x2) ((4 * x1) + 1) x3)))) gC 1 0 rfl rfl hg2 rfl (by decide) rfl d_Ro_beginRun_19 ?_
  refine v_aload_n gC d_Ro_beginRun_20 rfl 0 rfl ?_
  refine v_get (v := .ref (d0 1)) gC in_Ro 0 rfl rfl 0 (by decide) fl_Ro_9 rfl d_Ro_beginRun_21 ?_
  refine v_iconst gC d_Ro_beginRun_24 ?_
  refine v_iload_n gC d_Ro_beginRun_25 rfl 1 rfl ?_
  refine v_imul gC d_Ro_beginRun_26 (4 * x1) rfl ?_
  refine v_iconst gC d_Ro_beginRun_27 ?_
  refine v_iadd gC d_Ro_beginRun_28 ((4 * x1) + 2) rfl ?_
  refine v_iload gC d_Ro_beginRun_29 4 rfl ?_
  obtain ⟨hg3, h⟩ := h
  refine v_iast (g := (iset (iset (gRo_runs s0) (4 * x1) x2) ((4 * x1) + 1) x3)) (ws' := (w_Ro K d0 (mkRo (iset (iset (iset (gRo_runs s0) (4 * x1) x2) ((4 * x1) + 1) x3) ((4 * x1) + 2) x4)))) gC 1 0 rfl rfl hg3 rfl (by decide) rfl d_Ro_beginRun_31 ?_
  refine v_aload_n gC d_Ro_beginRun_32 rfl 0 rfl ?_
  refine v_get (v := .ref (d0 1)) gC in_Ro 0 rfl rfl 0 (by decide) fl_Ro_9 rfl d_Ro_beginRun_33 ?_
  refine v_iconst gC d_Ro_beginRun_36 ?_
  refine v_iload_n gC d_Ro_beginRun_37 rfl 1 rfl ?_
  refine v_imul gC d_Ro_beginRun_38 (4 * x1) rfl ?_
  refine v_iconst gC d_Ro_beginRun_39 ?_
  refine v_iadd gC d_Ro_beginRun_40 ((4 * x1) + 3) rfl ?_
  refine v_iconst gC d_Ro_beginRun_41 ?_
  obtain ⟨hg4, h⟩ := h
  refine v_iast (g := (iset (iset (iset (gRo_runs s0) (4 * x1) x2) ((4 * x1) + 1) x3) ((4 * x1) + 2) x4)) (ws' := (w_Ro K d0 (mkRo (iset (iset (iset (iset (gRo_runs s0) (4 * x1) x2) ((4 * x1) + 1) x3) ((4 * x1) + 2) x4) ((4 * x1) + 3) 0)))) gC 1 0 rfl rfl hg4 rfl (by decide) rfl d_Ro_beginRun_42 ?_
  exact gret _ _ _ d_Ro_beginRun_43 ⟨(mkRo (iset (iset (iset (iset (gRo_runs s0) (4 * x1) x2) ((4 * x1) + 1) x3) ((4 * x1) + 2) x4) ((4 * x1) + 3) 0)), rfl, rfl, h⟩

set_option maxHeartbeats 4000000 in
set_option maxRecDepth 100000 in
theorem k_Ro_findRuns (l : Launch) (D : va_G) (K : Nat → ClassId) (d0 : Nat → Nat) (d1 : Nat → Nat) (x2 : Int) (s0 : s_Ro) (s1 : s_So) (Q : Int → s_Ro → Prop) (h : wp_Ro_findRuns x2 s0 s1 Q) : Kt l D K y_Ro_findRuns b_Ro_findRuns 8 (some .int) 1 24 [.ref (d0 0), .ref (d1 0), .int (zI x2)] (w_Ro K d0 s0 ++ w_So K d1 s1) (fun v w1 => ∃ (r : Int), ∃ (u0 : s_Ro), v = some (.int (zI r)) ∧ w1 = (w_Ro K d0 u0 ++ w_So K d1 s1) ∧ Q r u0) := by
  refine Kt.ofI (by decide +kernel) (Nat.le_of_ble_eq_true rfl) (lv0 := [(0, .ref (d0 0)), (1, .ref (d1 0)), (2, .int (zI x2))]) rfl ?_
  intro gp ge gR gs gm ga gb gh gc gA gQ gRf gRl gC gret
  unfold wp_Ro_findRuns at h
  replace h := h
    (fun (v3 : Int) (v4 : Int) (s0 : s_Ro) => V gp l ge gR gs gm ga gb gh gc D gA 8 0 0 gQ (w_Ro K d0 s0 ++ w_So K d1 s1) 5 [(0, .ref (d0 0)), (1, .ref (d1 0)), (2, .int (zI x2)), (3, .int (zI v3)), (4, .int (zI v4))] [])
    (fun (v3 : Int) (v4 : Int) (v5 : Int) (v6 : Int) (s0 : s_Ro) => V gp l ge gR gs gm ga gb gh gc D gA 8 0 0 gQ (w_Ro K d0 s0 ++ w_So K d1 s1) 18 [(0, .ref (d0 0)), (1, .ref (d1 0)), (2, .int (zI x2)), (3, .int (zI v3)), (4, .int (zI v4)), (5, .int (zI v5)), (6, .int (zI v6))] [])
    (fun (v3 : Int) (v4 : Int) (v6 : Int) (v7 : Int) (s0 : s_Ro) => V gp l ge gR gs gm ga gb gh gc D gA 8 0 0 gQ (w_Ro K d0 s0 ++ w_So K d1 s1) 65 [(0, .ref (d0 0)), (1, .ref (d1 0)), (2, .int (zI x2)), (3, .int (zI v3)), (4, .int (zI v4)), (6, .int (zI v6)), (7, .int (zI v7))] [])
    (by
      intro v3 v4 s0 h
      refine v_iload gC d_Ro_findRuns_5 4 rfl ?_
      refine v_bipush gC d_Ro_findRuns_7 (by decide) ?_
      obtain ⟨hg1, h⟩ := h
      refine v_icmp_ge (tgt := 95) gC d_Ro_findRuns_9 (by decide) hg1 (by decide) (fun hc => ?_) (fun hc => ?_)
      · replace h := h.1 hc
        refine v_iload_n gC d_Ro_findRuns_95 rfl 3 rfl ?_
        exact gret _ _ _ _ d_Ro_findRuns_96 ⟨v3, s0, rfl, rfl, h⟩
      · replace h := h.2 hc
        refine v_iconst gC d_Ro_findRuns_12 ?_
        refine v_istore (lv' := [(0, .ref (d0 0)), (1, .ref (d1 0)), (2, .int (zI x2)), (3, .int (zI v3)), (4, .int (zI v4)), (5, .int (zI 0))]) gC d_Ro_findRuns_13 (by decide) [1, 2, 3, 4, 5, 0] rfl ?_
        refine v_iconst gC d_Ro_findRuns_15 ?_
        refine v_istore (lv' := [(0, .ref (d0 0)), (1, .ref (d1 0)), (2, .int (zI x2)), (3, .int (zI v3)), (4, .int (zI v4)), (5, .int (zI 0)), (6, .int (zI 0))]) gC d_Ro_findRuns_16 (by decide) [1, 2, 3, 4, 5, 6, 0] rfl ?_
        refine v_loc (lv' := [(0, .ref (d0 0)), (1, .ref (d1 0)), (2, .int (zI x2)), (3, .int (zI v3)), (4, .int (zI v4)), (5, .int (zI 0)), (6, .int (zI 0))]) [0, 1, 2, 3, 4, 5, 6] rfl ?_
        exact h)
    (by
      intro v3 v4 v5 v6 s0 h
      refine v_iload gC d_Ro_findRuns_18 6 rfl ?_
      refine v_bipush gC d_Ro_findRuns_20 (by decide) ?_
      obtain ⟨hg2, h⟩ := h
      refine v_icmp_ge (tgt := 89) gC d_Ro_findRuns_22 (by decide) hg2 (by decide) (fun hc => ?_) (fun hc => ?_)
      · replace h := h.1 hc
        refine v_iinc (lv' := [(0, .ref (d0 0)), (1, .ref (d1 0)), (2, .int (zI x2)), (3, .int (zI v3)), (4, .int (zI (v4 + 1))), (5, .int (zI v5)), (6, .int (zI v6))]) gC d_Ro_findRuns_89 4 rfl (by decide) (v4 + 1) rfl [1, 2, 3, 4, 0, 5, 6] rfl ?_
        refine v_goto (tgt := 5) gC d_Ro_findRuns_92 (by decide) ?_
        refine v_loc (lv' := [(0, .ref (d0 0)), (1, .ref (d1 0)), (2, .int (zI x2)), (3, .int (zI v3)), (4, .int (zI (v4 + 1)))]) [0, 1, 2, 3, 4] rfl ?_
        exact h
      · replace h := h.2 hc
        refine v_aload_n gC d_Ro_findRuns_25 rfl 1 rfl ?_
        refine v_iload_n gC d_Ro_findRuns_26 rfl 2 rfl ?_
        refine v_iload gC d_Ro_findRuns_27 6 rfl ?_
        refine v_iload gC d_Ro_findRuns_29 4 rfl ?_
        refine v_callV (rest := []) gC (k_So_kindAt l D K d1 x2 v6 v4 s1 _ h) wV_Ro_15 rfl ⟨by omega, by omega, Nat.zero_le _, Nat.zero_le _⟩ 0 rfl rfl [2, 3, 4, 5, 6, 7, 8, 9, 10, 11] [0, 1] rfl (by decide) rfl (by decide) (by decide) rfl (Nat.le_of_ble_eq_true rfl) d_Ro_findRuns_31 (fun v w1 hp => ?_)
        obtain ⟨r3, rfl, rfl, h⟩ := hp
        refine v_after (ws' := (w_Ro K d0 s0 ++ w_So K d1 s1)) (st' := [.int (zI r3)]) [0, 1, 2, 3, 4, 5, 6, 7, 8, 9, 10, 11] (by decide) rfl rfl ?_
        refine v_istore (lv' := [(0, .ref (d0 0)), (1, .ref (d1 0)), (2, .int (zI x2)), (3, .int (zI v3)), (4, .int (zI v4)), (5, .int (zI v5)), (6, .int (zI v6)), (7, .int (zI r3))]) gC d_Ro_findRuns_34 (by decide) [1, 2, 3, 4, 5, 6, 7, 0] rfl ?_
        refine v_iload gC d_Ro_findRuns_36 7 rfl ?_
        refine v_callS (rest := []) gC (k_Ro_isPrinted l D K r3 _ h) wS_Ro_21 rfl ⟨by omega, by omega, Nat.zero_le _, Nat.zero_le _⟩ [] [0, 1, 2, 3, 4, 5, 6, 7, 8, 9, 10, 11] rfl (by decide) rfl (by decide) (by decide) rfl (Nat.le_of_ble_eq_true rfl) d_Ro_findRuns_38 (fun v w1 hp => ?_)
        obtain ⟨r4, rfl, rfl, h⟩ := hp
        refine v_after (ws' := (w_Ro K d0 s0 ++ w_So K d1 s1)) (st' := [.int (zI r4)]) [0, 1, 2, 3, 4, 5, 6, 7, 8, 9, 10, 11] (by decide) rfl rfl ?_
        obtain ⟨hg5, h⟩ := h
        refine v_if_eq (tgt := 79) gC d_Ro_findRuns_41 (by decide) hg5 (fun hc => ?_) (fun hc => ?_)
        · replace h := h.1 hc
          refine v_iload gC d_Ro_findRuns_79 7 rfl ?_
          refine v_istore (lv' := [(0, .ref (d0 0)), (1, .ref (d1 0)), (2, .int (zI x2)), (3, .int (zI v3)), (4, .int (zI v4)), (5, .int (zI r3)), (6, .int (zI v6)), (7, .int (zI r3))]) gC d_Ro_findRuns_81 (by decide) [1, 2, 3, 4, 5, 0, 6, 7] rfl ?_
          refine v_iinc (lv' := [(0, .ref (d0 0)), (1, .ref (d1 0)), (2, .int (zI x2)), (3, .int (zI v3)), (4, .int (zI v4)), (5, .int (zI r3)), (6, .int (zI (v6 + 1))), (7, .int (zI r3))]) gC d_Ro_findRuns_83 6 rfl (by decide) (v6 + 1) rfl [1, 2, 3, 4, 5, 6, 0, 7] rfl ?_
          refine v_goto (tgt := 18) gC d_Ro_findRuns_86 (by decide) ?_
          refine v_loc (lv' := [(0, .ref (d0 0)), (1, .ref (d1 0)), (2, .int (zI x2)), (3, .int (zI v3)), (4, .int (zI v4)), (5, .int (zI r3)), (6, .int (zI (v6 + 1)))]) [0, 1, 2, 3, 4, 5, 6] rfl ?_
          exact h
        · replace h := h.2 hc
          refine v_iload gC d_Ro_findRuns_44 7 rfl ?_
          refine v_iload gC d_Ro_findRuns_46 5 rfl ?_
          obtain ⟨hg6, hg7, h⟩ := h
          refine v_icmp_eq (tgt := 65) gC d_Ro_findRuns_48 (by decide) hg6 hg7 (fun hc => ?_) (fun hc => ?_)
          · replace h := h.1 hc
            refine v_loc (lv' := [(0, .ref (d0 0)), (1, .ref (d1 0)), (2, .int (zI x2)), (3, .int (zI v3)), (4, .int (zI v4)), (6, .int (zI v6)), (7, .int (zI r3))]) [0, 1, 2, 3, 4, 6, 7] rfl ?_
            exact h
          · replace h := h.2 hc
            refine v_aload_n gC d_Ro_findRuns_51 rfl 0 rfl ?_
            refine v_iload_n gC d_Ro_findRuns_52 rfl 3 rfl ?_
            refine v_iload gC d_Ro_findRuns_53 7 rfl ?_
            refine v_iload gC d_Ro_findRuns_55 6 rfl ?_
            refine v_iload gC d_Ro_findRuns_57 4 rfl ?_
            refine v_callV (rest := []) gC (k_Ro_beginRun l D K d0 v3 r3 v6 v4 s0 _ h) wV_Ro_25 rfl ⟨by omega, by omega, Nat.zero_le _, Nat.zero_le _⟩ 0 rfl rfl [0, 1] [2, 3, 4, 5, 6, 7, 8, 9, 10, 11] rfl (by decide) rfl (by decide) (by decide) rfl (Nat.le_of_ble_eq_true rfl) d_Ro_findRuns_59 (fun v w1 hp => ?_)
            obtain ⟨u8, rfl, rfl, h⟩ := hp
            refine v_after (ws' := (w_Ro K d0 u8 ++ w_So K d1 s1)) (st' := []) [10, 11, 0, 1, 2, 3, 4, 5, 6, 7, 8, 9] (by decide) rfl rfl ?_
            refine v_iinc (lv' := [(0, .ref (d0 0)), (1, .ref (d1 0)), (2, .int (zI x2)), (3, .int (zI (v3 + 1))), (4, .int (zI v4)), (5, .int (zI v5)), (6, .int (zI v6)), (7, .int (zI r3))]) gC d_Ro_findRuns_62 3 rfl (by decide) (v3 + 1) rfl [1, 2, 3, 0, 4, 5, 6, 7] rfl ?_
            refine v_loc (lv' := [(0, .ref (d0 0)), (1, .ref (d1 0)), (2, .int (zI x2)), (3, .int (zI (v3 + 1))), (4, .int (zI v4)), (6, .int (zI v6)), (7, .int (zI r3))]) [0, 1, 2, 3, 4, 6, 7] rfl ?_
            exact h)
    (by
      intro v3 v4 v6 v7 s0 h
      refine v_aload_n gC d_Ro_findRuns_65 rfl 0 rfl ?_
      refine v_get (v := .ref (d0 1)) gC in_Ro 0 rfl rfl 0 (by decide) fl_Ro_9 rfl d_Ro_findRuns_66 ?_
      refine v_iconst gC d_Ro_findRuns_69 ?_
      refine v_iload_n gC d_Ro_findRuns_70 rfl 3 rfl ?_
      refine v_imul gC d_Ro_findRuns_71 (4 * v3) rfl ?_
      refine v_iconst gC d_Ro_findRuns_72 ?_
      refine v_isub gC d_Ro_findRuns_73 ((4 * v3) - 1) rfl ?_
      refine v_dup2 gC d_Ro_findRuns_74 rfl rfl ?_
      obtain ⟨hg9, h⟩ := h
      refine v_iald (g := (gRo_runs s0)) gC 1 0 rfl rfl hg9 rfl (by decide) d_Ro_findRuns_75 ?_
      refine v_iconst gC d_Ro_findRuns_76 ?_
      refine v_iadd gC d_Ro_findRuns_77 (((gRo_runs s0) ((4 * v3) - 1)) + 1) rfl ?_
      refine v_iast (g := (gRo_runs s0)) (ws' := (w_Ro K d0 (mkRo (iset (gRo_runs s0) ((4 * v3) - 1) (((gRo_runs s0) ((4 * v3) - 1)) + 1))) ++ w_So K d1 s1)) gC 1 0 rfl rfl hg9 rfl (by decide) rfl d_Ro_findRuns_78 ?_
      refine v_iload gC d_Ro_findRuns_79 6 rfl ?_
      refine v_istore (lv' := [(0, .ref (d0 0)), (1, .ref (d1 0)), (2, .int (zI x2)), (3, .int (zI v3)), (4, .int (zI v4)), (5, .int (zI v7)), (6, .int (zI v6)), (7, .int (zI v7))]) gC d_Ro_findRuns_81 (by decide) [1, 2, 3, 4, 5, 0, 6, 7] rfl ?_
      refine v_iinc (lv' := [(0, .ref (d0 0)), (1, .ref (d1 0)), (2, .int (zI x2)), (3, .int (zI v3)), (4, .int (zI v4)), (5, .int (zI v7)), (6, .int (zI (v6 + 1))), (7, .int (zI v7))]) gC d_Ro_findRuns_83 6 rfl (by decide) (v6 + 1) rfl [1, 2, 3, 4, 5, 6, 0, 7] rfl ?_
      refine v_goto (tgt := 18) gC d_Ro_findRuns_86 (by decide) ?_
      refine v_loc (lv' := [(0, .ref (d0 0)), (1, .ref (d1 0)), (2, .int (zI x2)), (3, .int (zI v3)), (4, .int (zI v4)), (5, .int (zI v7)), (6, .int (zI (v6 + 1)))]) [0, 1, 2, 3, 4, 5, 6] rfl ?_
      exact h)
  refine v_iconst gC d_Ro_findRuns_0 ?_
  refine v_istore_n (lv' := [(0, .ref (d0 0)), (1, .ref (d1 0)), (2, .int (zI x2)), (3, .int (zI 0))]) gC d_Ro_findRuns_1 rfl (by decide) [1, 2, 3, 0] rfl ?_
  refine v_iconst gC d_Ro_findRuns_2 ?_
  refine v_istore (lv' := [(0, .ref (d0 0)), (1, .ref (d1 0)), (2, .int (zI x2)), (3, .int (zI 0)), (4, .int (zI 0))]) gC d_Ro_findRuns_3 (by decide) [1, 2, 3, 4, 0] rfl ?_
  refine v_loc (lv' := [(0, .ref (d0 0)), (1, .ref (d1 0)), (2, .int (zI x2)), (3, .int (zI 0)), (4, .int (zI 0))]) [0, 1, 2, 3, 4] rfl ?_
  exact h

set_option maxHeartbeats 4000000 in
set_option maxRecDepth 100000 in
theorem k_LS_paths (l : Launch) (D : va_G) (K : Nat → ClassId) (d0 : Nat → Nat) (x1 : Int) (s0 : s_LS) (Q : Int → s_LS → Prop) (h : wp_LS_paths x1 s0 Q) : Kt l D K y_LS_paths b_LS_paths 2 (some .int) 2 51 [.ref (d0 0), .int (zI x1)] (w_LS K d0 s0) (fun v w1 => ∃ (r : Int), ∃ (u0 : s_LS), v = some (.int (zI r)) ∧ w1 = (w_LS K d0 u0) ∧ Q r u0) := by
  refine Kt.ofI (by decide +kernel) (Nat.le_of_ble_eq_true rfl) (lv0 := [(0, .ref (d0 0)), (1, .int (zI x1))]) rfl ?_
  intro gp ge gR gs gm ga gb gh gc gA gQ gRf gRl gC gret
  unfold wp_LS_paths at h
  refine v_aload_n gC d_LS_paths_0 rfl 0 rfl ?_
  refine v_get (v := .ref (d0 12)) gC in_LS 0 rfl rfl 2 (by decide) fl_LS_26 rfl d_LS_paths_1 ?_
  refine v_iload_n gC d_LS_paths_4 rfl 1 rfl ?_
  refine v_callV (rest := []) gC (k_Sl_hasLayer l D K (fun i => d0 (i + 12)) x1 (gLS_slices s0) _ h) wV_LS_121 rfl ⟨by omega, by omega, Nat.zero_le _, Nat.zero_le _⟩ 0 rfl rfl [12, 13, 14, 15, 16, 17, 18, 19] [0, 1, 2, 3, 4, 5, 6, 7, 8, 9, 10, 11, 20, 21, 22, 23, 24, 25, 26, 27, 28, 29, 30, 31, 32, 33, 34] rfl (by decide) rfl (by decide) (by decide) rfl (Nat.le_of_ble_eq_true rfl) d_LS_paths_5 (fun v w1 hp => ?_)
  obtain ⟨r1, rfl, rfl, h⟩ := hp
  refine v_after (ws' := (w_LS K d0 s0)) (st' := [.int (zI r1)]) [0, 1, 2, 3, 4, 5, 6, 7, 8, 9, 10, 11, 27, 28, 29, 30, 31, 32, 33, 34, 12, 13, 14, 15, 16, 17, 18, 19, 20, 21, 22, 23, 24, 25, 26] (by decide) rfl rfl ?_
  obtain ⟨hg2, h⟩ := h
  refine v_if_eq (tgt := 26) gC d_LS_paths_8 (by decide) hg2 (fun hc => ?_) (fun hc => ?_)
  · replace h := h.1 hc
    refine v_iconst gC d_LS_paths_26 ?_
    exact gret _ _ _ _ d_LS_paths_27 ⟨0, s0, rfl, rfl, h⟩
  · replace h := h.2 hc
    refine v_aload_n gC d_LS_paths_11 rfl 0 rfl ?_
    refine v_get (v := .ref (d0 30)) gC in_LS 0 rfl rfl 4 (by decide) fl_LS_40 rfl d_LS_paths_12 ?_
    refine v_aload_n gC d_LS_paths_15 rfl 0 rfl ?_
    refine v_get (v := .ref (d0 20)) gC in_LS 0 rfl rfl 3 (by decide) fl_LS_33 rfl d_LS_paths_16 ?_
    refine v_iload_n gC d_LS_paths_19 rfl 1 rfl ?_
    refine v_callV (rest := []) gC (k_Ro_findRuns l D K (fun i => d0 (i + 30)) (fun i => d0 (i + 20)) x1 (gLS_router s0) (gLS_sorter s0) _ h) wV_LS_125 rfl ⟨by omega, by omega, Nat.zero_le _, Nat.zero_le _⟩ 0 rfl rfl [30, 31, 20, 21, 22, 23, 24, 25, 26, 27, 28, 29] [0, 1, 2, 3, 4, 5, 6, 7, 8, 9, 10, 11, 12, 13, 14, 15, 16, 17, 18, 19, 32, 33, 34] rfl (by decide) rfl (by decide) (by decide) rfl (Nat.le_of_ble_eq_true rfl) d_LS_paths_20 (fun v w1 hp => ?_)
    obtain ⟨r3, u4, rfl, rfl, h⟩ := hp
    refine v_after (ws' := (w_LS K d0 (mkLS (gLS_mesh s0) (gLS_mender s0) (gLS_slices s0) (gLS_sorter s0) u4 (gLS_printer s0)))) (st' := [.int (zI r3)]) [0, 1, 2, 3, 4, 5, 6, 7, 8, 9, 10, 11, 12, 13, 14, 15, 16, 17, 18, 19, 25, 26, 27, 28, 29, 30, 31, 32, 33, 34, 23, 24, 20, 21, 22] (by decide) rfl rfl ?_
    refine v_goto (tgt := 27) gC d_LS_paths_23 (by decide) ?_
    exact gret _ _ _ _ d_LS_paths_27 ⟨r3, (mkLS (gLS_mesh s0) (gLS_mender s0) (gLS_slices s0) (gLS_sorter s0) u4 (gLS_printer s0)), rfl, rfl, h⟩

set_option maxHeartbeats 4000000 in
set_option maxRecDepth 100000 in
theorem k_LS_path (l : Launch) (D : va_G) (K : Nat → ClassId) (d0 : Nat → Nat) (x1 : Int) (x2 : Int) (x3 : Int) (s0 : s_LS) (Q : Int → s_LS → Prop) (h : wp_LS_path x1 x2 x3 s0 Q) : Kt l D K y_LS_path b_LS_path 4 (some .int) 6 88 [.ref (d0 0), .int (zI x1), .int (zI x2), .int (zI x3)] (w_LS K d0 s0) (fun v w1 => ∃ (r : Int), ∃ (u0 : s_LS), v = some (.int (zI r)) ∧ w1 = (w_LS K d0 u0) ∧ Q r u0) := by
  refine Kt.ofI (by decide +kernel) (Nat.le_of_ble_eq_true rfl) (lv0 := [(0, .ref (d0 0)), (1, .int (zI x1)), (2, .int (zI x2)), (3, .int (zI x3))]) rfl ?_
  intro gp ge gR gs gm ga gb gh gc gA gQ gRf gRl gC gret
  unfold wp_LS_path at h
  refine v_iload_n gC d_LS_path_0 rfl 3 rfl ?_
  obtain ⟨hg1, h⟩ := h
  refine v_if_lt (tgt := 40) gC d_LS_path_1 (by decide) hg1 (fun hc => ?_) (fun hc => ?_)
  · replace h := h.1 hc
    exact h.elim
  · replace h := h.2 hc
    refine v_iload_n gC d_LS_path_4 rfl 3 rfl ?_
    refine v_iconst gC d_LS_path_5 ?_
    refine v_icmp_gt (tgt := 40) gC d_LS_path_6 (by decide) hg1 (by decide) (fun hc => ?_) (fun hc => ?_)
    · replace h := h.1 hc
      exact h.elim
    · replace h := h.2 hc
      refine v_iload_n gC d_LS_path_9 rfl 2 rfl ?_
      obtain ⟨hg2, h⟩ := h
      refine v_if_lt (tgt := 40) gC d_LS_path_10 (by decide) hg2 (fun hc => ?_) (fun hc => ?_)
      · replace h := h.1 hc
        exact h.elim
      · replace h := h.2 hc
        refine v_aload_n gC d_LS_path_13 rfl 0 rfl ?_
        refine v_get (v := .ref (d0 12)) gC in_LS 0 rfl rfl 2 (by decide) fl_LS_26 rfl d_LS_path_14 ?_
        refine v_iload_n gC d_LS_path_17 rfl 1 rfl ?_
        refine v_callV (rest := []) gC (k_Sl_hasLayer l D K (fun i => d0 (i + 12)) x1 (gLS_slices s0) _ h) wV_LS_121 rfl ⟨by omega, by omega, Nat.zero_le _, Nat.zero_le _⟩ 0 rfl rfl [12, 13, 14, 15, 16, 17, 18, 19] [0, 1, 2, 3, 4, 5, 6, 7, 8, 9, 10, 11, 20, 21, 22, 23, 24, 25, 26, 27, 28, 29, 30, 31, 32, 33, 34] rfl (by decide) rfl (by decide) (by decide) rfl (Nat.le_of_ble_eq_true rfl) d_LS_path_18 (fun v w1 hp => ?_)
        obtain ⟨r3, rfl, rfl, h⟩ := hp
        refine v_after (ws' := (w_LS K d0 s0)) (st' := [.int (zI r3)]) [0, 1, 2, 3, 4, 5, 6, 7, 8, 9, 10, 11, 27, 28, 29, 30, 31, 32, 33, 34, 12, 13, 14, 15, 16, 17, 18, 19, 20, 21, 22, 23, 24, 25, 26] (by decide) rfl rfl ?_
        obtain ⟨hg4, h⟩ := h
        refine v_if_eq (tgt := 40) gC d_LS_path_21 (by decide) hg4 (fun hc => ?_) (fun hc => ?_)
        · replace h := h.1 hc
          exact h.elim
        · replace h := h.2 hc
          refine v_iload_n gC d_LS_path_24 rfl 2 rfl ?_
          refine v_aload_n gC d_LS_path_25 rfl 0 rfl ?_
          refine v_get (v := .ref (d0 30)) gC in_LS 0 rfl rfl 4 (by decide) fl_LS_40 rfl d_LS_path_26 ?_
          refine v_aload_n gC d_LS_path_29 rfl 0 rfl ?_
          refine v_get (v := .ref (d0 20)) gC in_LS 0 rfl rfl 3 (by decide) fl_LS_33 rfl d_LS_path_30 ?_
          refine v_iload_n gC d_LS_path_33 rfl 1 rfl ?_
          refine v_callV (rest := [.int (zI x2)]) gC (k_Ro_findRuns l D K (fun i => d0 (i + 30)) (fun i => d0 (i + 20)) x1 (gLS_router s0) (gLS_sorter s0) _ h) wV_LS_125 rfl ⟨by omega, by omega, Nat.zero_le _, Nat.zero_le _⟩ 0 rfl rfl [30, 31, 20, 21, 22, 23, 24, 25, 26, 27, 28, 29] [0, 1, 2, 3, 4, 5, 6, 7, 8, 9, 10, 11, 12, 13, 14, 15, 16, 17, 18, 19, 32, 33, 34] rfl (by decide) rfl (by decide) (by decide) rfl (Nat.le_of_ble_eq_true rfl) d_LS_path_34 (fun v w1 hp => ?_)
          obtain ⟨r5, u6, rfl, rfl, h⟩ := hp
          refine v_after (ws' := (w_LS K d0 (mkLS (gLS_mesh s0) (gLS_mender s0) (gLS_slices s0) (gLS_sorter s0) u6 (gLS_printer s0)))) (st' := [.int (zI r5), .int (zI x2)]) [0, 1, 2, 3, 4, 5, 6, 7, 8, 9, 10, 11, 12, 13, 14, 15, 16, 17, 18, 19, 25, 26, 27, 28, 29, 30, 31, 32, 33, 34, 23, 24, 20, 21, 22] (by decide) rfl rfl ?_
          obtain ⟨hg7, h⟩ := h
          refine v_icmp_lt (tgt := 48) gC d_LS_path_37 (by decide) hg2 hg7 (fun hc => ?_) (fun hc => ?_)
          · replace h := h.1 hc
            refine v_aload_n gC d_LS_path_48 rfl 0 rfl ?_
            refine v_get (v := .ref (d0 30)) gC in_LS 0 rfl rfl 4 (by decide) fl_LS_40 rfl d_LS_path_49 ?_
            refine v_get (v := .ref (d0 31)) gC in_Ro 30 rfl rfl 0 (by decide) fl_LS_129 rfl d_LS_path_52 ?_
            refine v_iconst gC d_LS_path_55 ?_
            refine v_iload_n gC d_LS_path_56 rfl 2 rfl ?_
            refine v_imul gC d_LS_path_57 (4 * x2) rfl ?_
            refine v_iload_n gC d_LS_path_58 rfl 3 rfl ?_
            refine v_iadd gC d_LS_path_59 ((4 * x2) + x3) rfl ?_
            obtain ⟨hg8, h⟩ := h
            refine v_iald (g := (gRo_runs u6)) gC 31 0 rfl rfl hg8 rfl (by decide) d_LS_path_60 ?_
            exact gret _ _ _ _ d_LS_path_61 ⟨(gRo_runs u6) ((4 * x2) + x3), (mkLS (gLS_mesh s0) (gLS_mender s0) (gLS_slices s0) (gLS_sorter s0) u6 (gLS_printer s0)), rfl, rfl, h⟩
          · replace h := h.2 hc
            exact h.elim

set_option maxHeartbeats 4000000 in
set_option maxRecDepth 100000 in
theorem k_Pr_addByte (l : Launch) (D : va_G) (K : Nat → ClassId) (d0 : Nat → Nat) (x1 : Int) (s0 : s_Pr) (Q : s_Pr → Prop) (h : wp_Pr_addByte x1 s0 Q) : Kt l D K y_Pr_addByte b_Pr_addByte 2 none 0 0 [.ref (d0 0), .int (zI x1)] (w_Pr K d0 s0) (fun v w1 => ∃ (u0 : s_Pr), v = none ∧ w1 = (w_Pr K d0 u0) ∧ Q u0) := by
  refine Kt.ofV (by decide +kernel) (Nat.le_of_ble_eq_true rfl) (lv0 := [(0, .ref (d0 0)), (1, .int (zI x1))]) rfl ?_
  intro gp ge gR gs gm ga gb gh gc gA gQ gRf gRl gC gret
  unfold wp_Pr_addByte at h
  refine v_aload_n gC d_Pr_addByte_0 rfl 0 rfl ?_
  refine v_get (v := .ref (d0 1)) gC in_Pr 0 rfl rfl 0 (by decide) fl_Pr_9 rfl d_Pr_addByte_1 ?_
  refine v_aload_n gC d_Pr_addByte_4 rfl 0 rfl ?_
  refine v_get (v := .int (zI (gPr_length s0))) gC in_Pr 0 rfl rfl 1 (by decide) fl_Pr_22 rfl d_Pr_addByte_5 ?_
  refine v_iload_n gC d_Pr_addByte_8 rfl 1 rfl ?_
  obtain ⟨hg1, h⟩ := h
  refine v_iast (g := (gPr_program s0)) (ws' := (w_Pr K d0 (mkPr (iset (gPr_program s0) (gPr_length s0) x1) (gPr_length s0) (gPr_beads s0) (gPr_at s0) (gPr_layer s0)))) gC 1 0 rfl rfl hg1 rfl (by decide) rfl d_Pr_addByte_9 ?_
  refine v_aload_n gC d_Pr_addByte_10 rfl 0 rfl ?_
  refine v_dup gC d_Pr_addByte_11 rfl ?_
  refine v_get (v := .int (zI (gPr_length s0))) gC in_Pr 0 rfl rfl 1 (by decide) fl_Pr_22 rfl d_Pr_addByte_12 ?_
  refine v_iconst gC d_Pr_addByte_15 ?_
  refine v_iadd gC d_Pr_addByte_16 ((gPr_length s0) + 1) rfl ?_
  refine v_puti (ws' := (w_Pr K d0 (mkPr (iset (gPr_program s0) (gPr_length s0) x1) ((gPr_length s0) + 1) (gPr_beads s0) (gPr_at s0) (gPr_layer s0)))) gC in_Pr t_Pr ok_Pr n_Pr 0 rfl rfl 1 (by decide) fl_Pr_22 rfl (by decide +kernel) (Nat.le_of_ble_eq_true rfl) rfl d_Pr_addByte_17 ?_
  exact gret _ _ _ d_Pr_addByte_20 ⟨(mkPr (iset (gPr_program s0) (gPr_length s0) x1) ((gPr_length s0) + 1) (gPr_beads s0) (gPr_at s0) (gPr_layer s0)), rfl, rfl, h⟩

set_option maxHeartbeats 4000000 in
set_option maxRecDepth 100000 in
theorem k_Pr_addLayer (l : Launch) (D : va_G) (K : Nat → ClassId) (d0 : Nat → Nat) (d1 : Nat → Nat) (x2 : Int) (s0 : s_Pr) (s1 : s_Ro) (Q : s_Pr → Prop) (h : wp_Pr_addLayer x2 s0 s1 Q) : Kt l D K y_Pr_addLayer b_Pr_addLayer 4 none 1 21 [.ref (d0 0), .ref (d1 0), .int (zI x2)] (w_Pr K d0 s0 ++ w_Ro K d1 s1) (fun v w1 => ∃ (u0 : s_Pr), v = none ∧ w1 = (w_Pr K d0 u0 ++ w_Ro K d1 s1) ∧ Q u0) := by
  refine Kt.ofV (by decide +kernel) (Nat.le_of_ble_eq_true rfl) (lv0 := [(0, .ref (d0 0)), (1, .ref (d1 0)), (2, .int (zI x2))]) rfl ?_
  intro gp ge gR gs gm ga gb gh gc gA gQ gRf gRl gC gret
  unfold wp_Pr_addLayer at h
  replace h := h
    (fun (v3 : Int) (s0 : s_Pr) => V gp l ge gR gs gm ga gb gh gc D gA 4 0 0 gQ (w_Pr K d0 s0 ++ w_Ro K d1 s1) 9 [(0, .ref (d0 0)), (1, .ref (d1 0)), (2, .int (zI x2)), (3, .int (zI v3))] [])
    (by
      intro v3 s0 h
      refine v_iload_n gC d_Pr_addLayer_9 rfl 3 rfl ?_
      refine v_iload_n gC d_Pr_addLayer_10 rfl 2 rfl ?_
      obtain ⟨hg2, hg3, h⟩ := h
      refine v_icmp_ge (tgt := 81) gC d_Pr_addLayer_11 (by decide) hg2 hg3 (fun hc => ?_) (fun hc => ?_)
      · replace h := h.1 hc
        exact gret _ _ _ d_Pr_addLayer_81 ⟨s0, rfl, rfl, h⟩
      · replace h := h.2 hc
        refine v_aload_n gC d_Pr_addLayer_14 rfl 0 rfl ?_
        refine v_sipush gC d_Pr_addLayer_15 (by decide) ?_
        refine v_callV (rest := []) gC (k_Pr_addByte l D K d0 201 s0 _ h) wV_Pr_34 rfl ⟨by omega, by omega, Nat.zero_le _, Nat.zero_le _⟩ 0 rfl rfl [0, 1, 2] [3, 4] rfl (by decide) rfl (by decide) (by decide) rfl (Nat.le_of_ble_eq_true rfl) d_Pr_addLayer_18 (fun v w1 hp => ?_)
        obtain ⟨u4, rfl, rfl, h⟩ := hp
        refine v_after (ws' := (w_Pr K d0 u4 ++ w_Ro K d1 s1)) (st' := []) [2, 3, 4, 0, 1] (by decide) rfl rfl ?_
        refine v_aload_n gC d_Pr_addLayer_21 rfl 0 rfl ?_
        refine v_aload_n gC d_Pr_addLayer_22 rfl 1 rfl ?_
        refine v_get (v := .ref (d1 1)) gC in_Ro 3 rfl rfl 0 (by decide) fl_Pr_38 rfl d_Pr_addLayer_23 ?_
        refine v_iconst gC d_Pr_addLayer_26 ?_
        refine v_iload_n gC d_Pr_addLayer_27 rfl 3 rfl ?_
        refine v_imul gC d_Pr_addLayer_28 (4 * v3) rfl ?_
        refine v_iconst gC d_Pr_addLayer_29 ?_
        refine v_iadd gC d_Pr_addLayer_30 ((4 * v3) + 1) rfl ?_
        obtain ⟨hg5, h⟩ := h
        refine v_iald (g := (gRo_runs s1)) gC 4 0 rfl rfl hg5 rfl (by decide) d_Pr_addLayer_31 ?_
        refine v_callV (rest := []) gC (k_Pr_addByte l D K d0 ((gRo_runs s1) ((4 * v3) + 1)) u4 _ h) wV_Pr_34 rfl ⟨by omega, by omega, Nat.zero_le _, Nat.zero_le _⟩ 0 rfl rfl [0, 1, 2] [3, 4] rfl (by decide) rfl (by decide) (by decide) rfl (Nat.le_of_ble_eq_true rfl) d_Pr_addLayer_32 (fun v w1 hp => ?_)
        obtain ⟨u6, rfl, rfl, h⟩ := hp
        refine v_after (ws' := (w_Pr K d0 u6 ++ w_Ro K d1 s1)) (st' := []) [2, 3, 4, 0, 1] (by decide) rfl rfl ?_
        refine v_aload_n gC d_Pr_addLayer_35 rfl 0 rfl ?_
        refine v_aload_n gC d_Pr_addLayer_36 rfl 1 rfl ?_
        refine v_get (v := .ref (d1 1)) gC in_Ro 3 rfl rfl 0 (by decide) fl_Pr_38 rfl d_Pr_addLayer_37 ?_
        refine v_iconst gC d_Pr_addLayer_40 ?_
        refine v_iload_n gC d_Pr_addLayer_41 rfl 3 rfl ?_
        refine v_imul gC d_Pr_addLayer_42 (4 * v3) rfl ?_
        refine v_iconst gC d_Pr_addLayer_43 ?_
        refine v_iadd gC d_Pr_addLayer_44 ((4 * v3) + 2) rfl ?_
        obtain ⟨hg7, h⟩ := h
        refine v_iald (g := (gRo_runs s1)) gC 4 0 rfl rfl hg7 rfl (by decide) d_Pr_addLayer_45 ?_
        refine v_callV (rest := []) gC (k_Pr_addByte l D K d0 ((gRo_runs s1) ((4 * v3) + 2)) u6 _ h) wV_Pr_34 rfl ⟨by omega, by omega, Nat.zero_le _, Nat.zero_le _⟩ 0 rfl rfl [0, 1, 2] [3, 4] rfl (by decide) rfl (by decide) (by decide) rfl (Nat.le_of_ble_eq_true rfl) d_Pr_addLayer_46 (fun v w1 hp => ?_)
        obtain ⟨u8, rfl, rfl, h⟩ := hp
        refine v_after (ws' := (w_Pr K d0 u8 ++ w_Ro K d1 s1)) (st' := []) [2, 3, 4, 0, 1] (by decide) rfl rfl ?_
        refine v_aload_n gC d_Pr_addLayer_49 rfl 0 rfl ?_
        refine v_aload_n gC d_Pr_addLayer_50 rfl 1 rfl ?_
        refine v_get (v := .ref (d1 1)) gC in_Ro 3 rfl rfl 0 (by decide) fl_Pr_38 rfl d_Pr_addLayer_51 ?_
        refine v_iconst gC d_Pr_addLayer_54 ?_
        refine v_iload_n gC d_Pr_addLayer_55 rfl 3 rfl ?_
        refine v_imul gC d_Pr_addLayer_56 (4 * v3) rfl ?_
        obtain ⟨hg9, h⟩ := h
        refine v_iald (g := (gRo_runs s1)) gC 4 0 rfl rfl hg9 rfl (by decide) d_Pr_addLayer_57 ?_
        refine v_callV (rest := []) gC (k_Pr_addByte l D K d0 ((gRo_runs s1) (4 * v3)) u8 _ h) wV_Pr_34 rfl ⟨by omega, by omega, Nat.zero_le _, Nat.zero_le _⟩ 0 rfl rfl [0, 1, 2] [3, 4] rfl (by decide) rfl (by decide) (by decide) rfl (Nat.le_of_ble_eq_true rfl) d_Pr_addLayer_58 (fun v w1 hp => ?_)
        obtain ⟨u10, rfl, rfl, h⟩ := hp
        refine v_after (ws' := (w_Pr K d0 u10 ++ w_Ro K d1 s1)) (st' := []) [2, 3, 4, 0, 1] (by decide) rfl rfl ?_
        refine v_aload_n gC d_Pr_addLayer_61 rfl 0 rfl ?_
        refine v_aload_n gC d_Pr_addLayer_62 rfl 1 rfl ?_
        refine v_get (v := .ref (d1 1)) gC in_Ro 3 rfl rfl 0 (by decide) fl_Pr_38 rfl d_Pr_addLayer_63 ?_
        refine v_iconst gC d_Pr_addLayer_66 ?_
        refine v_iload_n gC d_Pr_addLayer_67 rfl 3 rfl ?_
        refine v_imul gC d_Pr_addLayer_68 (4 * v3) rfl ?_
        refine v_iconst gC d_Pr_addLayer_69 ?_
        refine v_iadd gC d_Pr_addLayer_70 ((4 * v3) + 3) rfl ?_
        obtain ⟨hg11, h⟩ := h
        refine v_iald (g := (gRo_runs s1)) gC 4 0 rfl rfl hg11 rfl (by decide) d_Pr_addLayer_71 ?_
        refine v_callV (rest := []) gC (k_Pr_addByte l D K d0 ((gRo_runs s1) ((4 * v3) + 3)) u10 _ h) wV_Pr_34 rfl ⟨by omega, by omega, Nat.zero_le _, Nat.zero_le _⟩ 0 rfl rfl [0, 1, 2] [3, 4] rfl (by decide) rfl (by decide) (by decide) rfl (Nat.le_of_ble_eq_true rfl) d_Pr_addLayer_72 (fun v w1 hp => ?_)
        obtain ⟨u12, rfl, rfl, h⟩ := hp
        refine v_after (ws' := (w_Pr K d0 u12 ++ w_Ro K d1 s1)) (st' := []) [2, 3, 4, 0, 1] (by decide) rfl rfl ?_
        refine v_iinc (lv' := [(0, .ref (d0 0)), (1, .ref (d1 0)), (2, .int (zI x2)), (3, .int (zI (v3 + 1)))]) gC d_Pr_addLayer_75 3 rfl (by decide) (v3 + 1) rfl [1, 2, 3, 0] rfl ?_
        refine v_goto (tgt := 9) gC d_Pr_addLayer_78 (by decide) ?_
        refine v_loc (lv' := [(0, .ref (d0 0)), (1, .ref (d1 0)), (2, .int (zI x2)), (3, .int (zI (v3 + 1)))]) [0, 1, 2, 3] rfl ?_
        exact h)
  refine v_aload_n gC d_Pr_addLayer_0 rfl 0 rfl ?_
  refine v_sipush gC d_Pr_addLayer_1 (by decide) ?_
  refine v_callV (rest := []) gC (k_Pr_addByte l D K d0 200 s0 _ h) wV_Pr_34 rfl ⟨by omega, by omega, Nat.zero_le _, Nat.zero_le _⟩ 0 rfl rfl [0, 1, 2] [3, 4] rfl (by decide) rfl (by decide) (by decide) rfl (Nat.le_of_ble_eq_true rfl) d_Pr_addLayer_4 (fun v w1 hp => ?_)
  obtain ⟨u1, rfl, rfl, h⟩ := hp
  refine v_after (ws' := (w_Pr K d0 u1 ++ w_Ro K d1 s1)) (st' := []) [2, 3, 4, 0, 1] (by decide) rfl rfl ?_
  refine v_iconst gC d_Pr_addLayer_7 ?_
  refine v_istore_n (lv' := [(0, .ref (d0 0)), (1, .ref (d1 0)), (2, .int (zI x2)), (3, .int (zI 0))]) gC d_Pr_addLayer_8 rfl (by decide) [1, 2, 3, 0] rfl ?_
  refine v_loc (lv' := [(0, .ref (d0 0)), (1, .ref (d1 0)), (2, .int (zI x2)), (3, .int (zI 0))]) [0, 1, 2, 3] rfl ?_
  exact h
