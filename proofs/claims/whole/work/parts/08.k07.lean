set_option maxHeartbeats 4000000 in
set_option maxRecDepth 100000 in
theorem k_LS_emit (l : Launch) (D : va_G) (K : Nat → ClassId) (d0 : Nat → Nat) (s0 : s_LS) (Q : Int → s_LS → Prop) (h : wp_LS_emit s0 Q) : Kt l D K y_LS_emit b_LS_emit 2 (some .int) 2 51 [.ref (d0 0)] (w_LS K d0 s0) (fun v w1 => ∃ (r : Int), ∃ (u0 : s_LS), v = some (.int (zI r)) ∧ w1 = (w_LS K d0 u0) ∧ Q r u0) := by
  refine Kt.ofI (by decide +kernel) (Nat.le_of_ble_eq_true rfl) (lv0 := [(0, .ref (d0 0))]) rfl ?_
  intro gp ge gR gs gm ga gb gh gc gA gQ gRf gRl gC gret
  unfold wp_LS_emit at h
  replace h := h
    (fun (v1 : Int) (s0 : s_LS) => V gp l ge gR gs gm ga gb gh gc D gA 2 0 0 gQ (w_LS K d0 s0) 9 [(0, .ref (d0 0)), (1, .int (zI v1))] [])
    (by
      intro v1 s0 h
      refine v_iload_n gC d_LS_emit_9 rfl 1 rfl ?_
      refine v_aload_n gC d_LS_emit_10 rfl 0 rfl ?_
      refine v_get (v := .ref (d0 12)) gC in_LS 0 rfl rfl 2 (by decide) fl_LS_26 rfl d_LS_emit_11 ?_
      refine v_get (v := .int (zI (gSl_count (gLS_slices s0)))) gC in_Sl 12 rfl rfl 0 (by decide) fl_LS_94 rfl d_LS_emit_14 ?_
      obtain ⟨hg2, hg3, h⟩ := h
      refine v_icmp_ge (tgt := 49) gC d_LS_emit_17 (by decide) hg2 hg3 (fun hc => ?_) (fun hc => ?_)
      · replace h := h.1 hc
        refine v_aload_n gC d_LS_emit_49 rfl 0 rfl ?_
        refine v_get (v := .ref (d0 32)) gC in_LS 0 rfl rfl 5 (by decide) fl_LS_47 rfl d_LS_emit_50 ?_
        refine v_get (v := .int (zI (gPr_length (gLS_printer s0)))) gC in_Pr 32 rfl rfl 1 (by decide) fl_LS_136 rfl d_LS_emit_53 ?_
        exact gret _ _ _ _ d_LS_emit_56 ⟨(gPr_length (gLS_printer s0)), s0, rfl, rfl, h⟩
      · replace h := h.2 hc
        refine v_aload_n gC d_LS_emit_20 rfl 0 rfl ?_
        refine v_get (v := .ref (d0 32)) gC in_LS 0 rfl rfl 5 (by decide) fl_LS_47 rfl d_LS_emit_21 ?_
        refine v_aload_n gC d_LS_emit_24 rfl 0 rfl ?_
        refine v_get (v := .ref (d0 30)) gC in_LS 0 rfl rfl 4 (by decide) fl_LS_40 rfl d_LS_emit_25 ?_
        refine v_aload_n gC d_LS_emit_28 rfl 0 rfl ?_
        refine v_get (v := .ref (d0 30)) gC in_LS 0 rfl rfl 4 (by decide) fl_LS_40 rfl d_LS_emit_29 ?_
        refine v_aload_n gC d_LS_emit_32 rfl 0 rfl ?_
        refine v_get (v := .ref (d0 20)) gC in_LS 0 rfl rfl 3 (by decide) fl_LS_33 rfl d_LS_emit_33 ?_
        refine v_iload_n gC d_LS_emit_36 rfl 1 rfl ?_
        refine v_callV (rest := [.ref (d0 30), .ref (d0 32)]) gC (k_Ro_findRuns l D K (fun i => d0 (i + 30)) (fun i => d0 (i + 20)) v1 (gLS_router s0) (gLS_sorter s0) _ h) wV_LS_125 rfl ⟨by omega, by omega, Nat.zero_le _, Nat.zero_le _⟩ 0 rfl rfl [30, 31, 20, 21, 22, 23, 24, 25, 26, 27, 28, 29] [0, 1, 2, 3, 4, 5, 6, 7, 8, 9, 10, 11, 12, 13, 14, 15, 16, 17, 18, 19, 32, 33, 34] rfl (by decide) rfl (by decide) (by decide) rfl (Nat.le_of_ble_eq_true rfl) d_LS_emit_37 (fun v w1 hp => ?_)
        obtain ⟨r4, u5, rfl, rfl, h⟩ := hp
        refine v_after (ws' := (w_LS K d0 (mkLS (gLS_mesh s0) (gLS_mender s0) (gLS_slices s0) (gLS_sorter s0) u5 (gLS_printer s0)))) (st' := [.int (zI r4), .ref (d0 30), .ref (d0 32)]) [0, 1, 2, 3, 4, 5, 6, 7, 8, 9, 10, 11, 12, 13, 14, 15, 16, 17, 18, 19, 25, 26, 27, 28, 29, 30, 31, 32, 33, 34, 23, 24, 20, 21, 22] (by decide) rfl rfl ?_
        refine v_callV (rest := []) gC (k_Pr_addLayer l D K (fun i => d0 (i + 32)) (fun i => d0 (i + 30)) r4 (gLS_printer s0) u5 _ h) wV_LS_132 rfl ⟨by omega, by omega, Nat.zero_le _, Nat.zero_le _⟩ 0 rfl rfl [32, 33, 34, 30, 31] [0, 1, 2, 3, 4, 5, 6, 7, 8, 9, 10, 11, 12, 13, 14, 15, 16, 17, 18, 19, 20, 21, 22, 23, 24, 25, 26, 27, 28, 29] rfl (by decide) rfl (by decide) (by decide) rfl (Nat.le_of_ble_eq_true rfl) d_LS_emit_40 (fun v w1 hp => ?_)
        obtain ⟨u6, rfl, rfl, h⟩ := hp
        refine v_after (ws' := (w_LS K d0 (mkLS (gLS_mesh s0) (gLS_mender s0) (gLS_slices s0) (gLS_sorter s0) u5 u6))) (st' := []) [0, 1, 2, 3, 4, 5, 6, 7, 8, 9, 10, 11, 12, 13, 14, 15, 16, 17, 18, 19, 20, 21, 22, 23, 24, 25, 26, 27, 28, 29, 33, 34, 30, 31, 32] (by decide) rfl rfl ?_
        refine v_iinc (lv' := [(0, .ref (d0 0)), (1, .int (zI (v1 + 1)))]) gC d_LS_emit_43 1 rfl (by decide) (v1 + 1) rfl [1, 0] rfl ?_
        refine v_goto (tgt := 9) gC d_LS_emit_46 (by decide) ?_
        refine v_loc (lv' := [(0, .ref (d0 0)), (1, .int (zI (v1 + 1)))]) [0, 1] rfl ?_
        exact h)
  refine v_aload_n gC d_LS_emit_0 rfl 0 rfl ?_
  refine v_get (v := .ref (d0 32)) gC in_LS 0 rfl rfl 5 (by decide) fl_LS_47 rfl d_LS_emit_1 ?_
  refine v_callV (rest := []) gC (k_Pr_clear l D K (fun i => d0 (i + 32)) (gLS_printer s0) _ h) wV_LS_91 rfl ⟨by omega, by omega, Nat.zero_le _, Nat.zero_le _⟩ 0 rfl rfl [32, 33, 34] [0, 1, 2, 3, 4, 5, 6, 7, 8, 9, 10, 11, 12, 13, 14, 15, 16, 17, 18, 19, 20, 21, 22, 23, 24, 25, 26, 27, 28, 29, 30, 31] rfl (by decide) rfl (by decide) (by decide) rfl (Nat.le_of_ble_eq_true rfl) d_LS_emit_4 (fun v w1 hp => ?_)
  obtain ⟨u1, rfl, rfl, h⟩ := hp
  refine v_after (ws' := (w_LS K d0 (mkLS (gLS_mesh s0) (gLS_mender s0) (gLS_slices s0) (gLS_sorter s0) (gLS_router s0) u1))) (st' := []) [0, 1, 2, 3, 4, 5, 6, 7, 8, 9, 10, 11, 12, 13, 14, 15, 16, 17, 18, 19, 20, 21, 22, 23, 24, 25, 26, 27, 28, 29, 30, 31, 32, 33, 34] (by decide) rfl rfl ?_
  refine v_iconst gC d_LS_emit_7 ?_
  refine v_istore_n (lv' := [(0, .ref (d0 0)), (1, .int (zI 0))]) gC d_LS_emit_8 rfl (by decide) [1, 0] rfl ?_
  refine v_loc (lv' := [(0, .ref (d0 0)), (1, .int (zI 0))]) [0, 1] rfl ?_
  exact h

set_option maxHeartbeats 4000000 in
set_option maxRecDepth 100000 in
theorem k_LS_byteOf (l : Launch) (D : va_G) (K : Nat → ClassId) (d0 : Nat → Nat) (x1 : Int) (s0 : s_LS) (Q : Int → Prop) (h : wp_LS_byteOf x1 s0 Q) : Kt l D K y_LS_byteOf b_LS_byteOf 2 (some .int) 0 0 [.ref (d0 0), .int (zI x1)] (w_LS K d0 s0) (fun v w1 => ∃ (r : Int), v = some (.int (zI r)) ∧ w1 = (w_LS K d0 s0) ∧ Q r) := by
  refine Kt.ofI (by decide +kernel) (Nat.le_of_ble_eq_true rfl) (lv0 := [(0, .ref (d0 0)), (1, .int (zI x1))]) rfl ?_
  intro gp ge gR gs gm ga gb gh gc gA gQ gRf gRl gC gret
  unfold wp_LS_byteOf at h
  refine v_iload_n gC d_LS_byteOf_0 rfl 1 rfl ?_
  obtain ⟨hg1, h⟩ := h
  refine v_if_lt (tgt := 27) gC d_LS_byteOf_1 (by decide) hg1 (fun hc => ?_) (fun hc => ?_)
  · replace h := h.1 hc
    refine v_iconst gC d_LS_byteOf_27 ?_
    exact gret _ _ _ _ d_LS_byteOf_28 ⟨(-1), rfl, rfl, h⟩
  · replace h := h.2 hc
    refine v_iload_n gC d_LS_byteOf_4 rfl 1 rfl ?_
    refine v_aload_n gC d_LS_byteOf_5 rfl 0 rfl ?_
    refine v_get (v := .ref (d0 32)) gC in_LS 0 rfl rfl 5 (by decide) fl_LS_47 rfl d_LS_byteOf_6 ?_
    refine v_get (v := .int (zI (gPr_length (gLS_printer s0)))) gC in_Pr 32 rfl rfl 1 (by decide) fl_LS_136 rfl d_LS_byteOf_9 ?_
    obtain ⟨hg2, h⟩ := h
    refine v_icmp_ge (tgt := 27) gC d_LS_byteOf_12 (by decide) hg1 hg2 (fun hc => ?_) (fun hc => ?_)
    · replace h := h.1 hc
      refine v_iconst gC d_LS_byteOf_27 ?_
      exact gret _ _ _ _ d_LS_byteOf_28 ⟨(-1), rfl, rfl, h⟩
    · replace h := h.2 hc
      refine v_aload_n gC d_LS_byteOf_15 rfl 0 rfl ?_
      refine v_get (v := .ref (d0 32)) gC in_LS 0 rfl rfl 5 (by decide) fl_LS_47 rfl d_LS_byteOf_16 ?_
      refine v_get (v := .ref (d0 33)) gC in_Pr 32 rfl rfl 0 (by decide) fl_LS_139 rfl d_LS_byteOf_19 ?_
      refine v_iload_n gC d_LS_byteOf_22 rfl 1 rfl ?_
      obtain ⟨hg3, h⟩ := h
      refine v_iald (g := (gPr_program (gLS_printer s0))) gC 33 0 rfl rfl hg3 rfl (by decide) d_LS_byteOf_23 ?_
      refine v_goto (tgt := 28) gC d_LS_byteOf_24 (by decide) ?_
      exact gret _ _ _ _ d_LS_byteOf_28 ⟨(gPr_program (gLS_printer s0)) x1, rfl, rfl, h⟩

set_option maxHeartbeats 4000000 in
set_option maxRecDepth 100000 in
theorem k_LS_cellIndex (l : Launch) (D : va_G) (K : Nat → ClassId) (x0 : Int) (x1 : Int) (x2 : Int) (Q : Int → Prop) (h : wp_LS_cellIndex x0 x1 x2 Q) : Kt l D K y_LS_cellIndex b_LS_cellIndex 3 (some .int) 0 0 [.int (zI x0), .int (zI x1), .int (zI x2)] [] (fun v w1 => ∃ (r : Int), v = some (.int (zI r)) ∧ w1 = [] ∧ Q r) := by
  refine Kt.ofI (by decide +kernel) (Nat.le_of_ble_eq_true rfl) (lv0 := [(0, .int (zI x0)), (1, .int (zI x1)), (2, .int (zI x2))]) rfl ?_
  intro gp ge gR gs gm ga gb gh gc gA gQ gRf gRl gC gret
  unfold wp_LS_cellIndex at h
  refine v_iload_n gC d_LS_cellIndex_0 rfl 0 rfl ?_
  refine v_bipush gC d_LS_cellIndex_1 (by decide) ?_
  refine v_imul gC d_LS_cellIndex_3 (x0 * 12) rfl ?_
  refine v_iload_n gC d_LS_cellIndex_4 rfl 2 rfl ?_
  refine v_iadd gC d_LS_cellIndex_5 ((x0 * 12) + x2) rfl ?_
  refine v_bipush gC d_LS_cellIndex_6 (by decide) ?_
  refine v_imul gC d_LS_cellIndex_8 (((x0 * 12) + x2) * 12) rfl ?_
  refine v_iload_n gC d_LS_cellIndex_9 rfl 1 rfl ?_
  refine v_iadd gC d_LS_cellIndex_10 ((((x0 * 12) + x2) * 12) + x1) rfl ?_
  exact gret _ _ _ _ d_LS_cellIndex_11 ⟨(((x0 * 12) + x2) * 12) + x1, rfl, rfl, h⟩

set_option maxHeartbeats 4000000 in
set_option maxRecDepth 100000 in
theorem k_Pr_layRun (l : Launch) (D : va_G) (K : Nat → ClassId) (d0 : Nat → Nat) (x1 : Int) (x2 : Int) (x3 : Int) (s0 : s_Pr) (Q : s_Pr → Prop) (h : wp_Pr_layRun x1 x2 x3 s0 Q) : Kt l D K y_Pr_layRun b_Pr_layRun 5 none 1 22 [.ref (d0 0), .int (zI x1), .int (zI x2), .int (zI x3)] (w_Pr K d0 s0) (fun v w1 => ∃ (u0 : s_Pr), v = none ∧ w1 = (w_Pr K d0 u0) ∧ Q u0) := by
  refine Kt.ofV (by decide +kernel) (Nat.le_of_ble_eq_true rfl) (lv0 := [(0, .ref (d0 0)), (1, .int (zI x1)), (2, .int (zI x2)), (3, .int (zI x3))]) rfl ?_
  intro gp ge gR gs gm ga gb gh gc gA gQ gRf gRl gC gret
  unfold wp_Pr_layRun at h
  replace h := h
    (fun (v4 : Int) (s0 : s_Pr) => V gp l ge gR gs gm ga gb gh gc D gA 5 0 0 gQ (w_Pr K d0 s0) 3 [(0, .ref (d0 0)), (1, .int (zI x1)), (2, .int (zI x2)), (3, .int (zI x3)), (4, .int (zI v4))] [])
    (by
      intro v4 s0 h
      refine v_iload gC d_Pr_layRun_3 4 rfl ?_
      refine v_iload_n gC d_Pr_layRun_5 rfl 3 rfl ?_
      obtain ⟨hg1, hg2, h⟩ := h
      refine v_icmp_ge (tgt := 36) gC d_Pr_layRun_6 (by decide) hg1 hg2 (fun hc => ?_) (fun hc => ?_)
      · replace h := h.1 hc
        exact gret _ _ _ d_Pr_layRun_36 ⟨s0, rfl, rfl, h⟩
      · replace h := h.2 hc
        refine v_aload_n gC d_Pr_layRun_9 rfl 0 rfl ?_
        refine v_get (v := .ref (d0 2)) gC in_Pr 0 rfl rfl 2 (by decide) fl_Pr_15 rfl d_Pr_layRun_10 ?_
        refine v_aload_n gC d_Pr_layRun_13 rfl 0 rfl ?_
        refine v_get (v := .int (zI (gPr_layer s0))) gC in_Pr 0 rfl rfl 4 (by decide) fl_Pr_18 rfl d_Pr_layRun_14 ?_
        refine v_iload_n gC d_Pr_layRun_17 rfl 1 rfl ?_
        refine v_iload gC d_Pr_layRun_18 4 rfl ?_
        refine v_iadd gC d_Pr_layRun_20 (x1 + v4) rfl ?_
        refine v_iload_n gC d_Pr_layRun_21 rfl 2 rfl ?_
        refine v_callN (rest := [.ref (d0 2)]) gC (k_LS_cellIndex l D K (gPr_layer s0) (x1 + v4) x2 _ h) wN_Pr_47 rfl ⟨by omega, by omega, Nat.zero_le _, Nat.zero_le _⟩ [] [0, 1, 2] rfl (by decide) rfl (by decide) (by decide) rfl (Nat.le_of_ble_eq_true rfl) d_Pr_layRun_22 (fun v w1 hp => ?_)
        obtain ⟨r3, rfl, rfl, h⟩ := hp
        refine v_after (ws' := (w_Pr K d0 s0)) (st' := [.int (zI r3), .ref (d0 2)]) [0, 1, 2] (by decide) rfl rfl ?_
        refine v_dup2 gC d_Pr_layRun_25 rfl rfl ?_
        obtain ⟨hg4, h⟩ := h
        refine v_iald (g := (gPr_beads s0)) gC 2 0 rfl rfl hg4 rfl (by decide) d_Pr_layRun_26 ?_
        refine v_iconst gC d_Pr_layRun_27 ?_
        refine v_iadd gC d_Pr_layRun_28 (((gPr_beads s0) r3) + 1) rfl ?_
        refine v_iast (g := (gPr_beads s0)) (ws' := (w_Pr K d0 (mkPr (gPr_program s0) (gPr_length s0) (iset (gPr_beads s0) r3 (((gPr_beads s0) r3) + 1)) (gPr_at s0) (gPr_layer s0)))) gC 2 0 rfl rfl hg4 rfl (by decide) rfl d_Pr_layRun_29 ?_
        refine v_iinc (lv' := [(0, .ref (d0 0)), (1, .int (zI x1)), (2, .int (zI x2)), (3, .int (zI x3)), (4, .int (zI (v4 + 1)))]) gC d_Pr_layRun_30 4 rfl (by decide) (v4 + 1) rfl [1, 2, 3, 4, 0] rfl ?_
        refine v_goto (tgt := 3) gC d_Pr_layRun_33 (by decide) ?_
        refine v_loc (lv' := [(0, .ref (d0 0)), (1, .int (zI x1)), (2, .int (zI x2)), (3, .int (zI x3)), (4, .int (zI (v4 + 1)))]) [0, 1, 2, 3, 4] rfl ?_
        exact h)
  refine v_iconst gC d_Pr_layRun_0 ?_
  refine v_istore (lv' := [(0, .ref (d0 0)), (1, .int (zI x1)), (2, .int (zI x2)), (3, .int (zI x3)), (4, .int (zI 0))]) gC d_Pr_layRun_1 (by decide) [1, 2, 3, 4, 0] rfl ?_
  refine v_loc (lv' := [(0, .ref (d0 0)), (1, .int (zI x1)), (2, .int (zI x2)), (3, .int (zI x3)), (4, .int (zI 0))]) [0, 1, 2, 3, 4] rfl ?_
  exact h

set_option maxHeartbeats 4000000 in
set_option maxRecDepth 100000 in
theorem k_Pr_playCommands (l : Launch) (D : va_G) (K : Nat → ClassId) (d0 : Nat → Nat) (x1 : Int) (s0 : s_Pr) (Q : Int → s_Pr → Prop) (h : wp_Pr_playCommands x1 s0 Q) : Kt l D K y_Pr_playCommands b_Pr_playCommands 3 (some .int) 2 46 [.ref (d0 0), .int (zI x1)] (w_Pr K d0 s0) (fun v w1 => ∃ (r : Int), ∃ (u0 : s_Pr), v = some (.int (zI r)) ∧ w1 = (w_Pr K d0 u0) ∧ Q r u0) := by
  refine Kt.ofI (by decide +kernel) (Nat.le_of_ble_eq_true rfl) (lv0 := [(0, .ref (d0 0)), (1, .int (zI x1))]) rfl ?_
  intro gp ge gR gs gm ga gb gh gc gA gQ gRf gRl gC gret
  unfold wp_Pr_playCommands at h
  replace h := h
    (fun (v2 : Int) (s0 : s_Pr) => V gp l ge gR gs gm ga gb gh gc D gA 3 0 0 gQ (w_Pr K d0 s0) 2 [(0, .ref (d0 0)), (1, .int (zI x1)), (2, .int (zI v2))] [])
    (by
      intro v2 s0 h
      refine v_iload_n gC d_Pr_playCommands_2 rfl 2 rfl ?_
      refine v_iload_n gC d_Pr_playCommands_3 rfl 1 rfl ?_
      obtain ⟨hg1, hg2, h⟩ := h
      refine v_icmp_ge (tgt := 109) gC d_Pr_playCommands_4 (by decide) hg1 hg2 (fun hc => ?_) (fun hc => ?_)
      · replace h := h.1 hc
        refine v_iload_n gC d_Pr_playCommands_109 rfl 2 rfl ?_
        exact gret _ _ _ _ d_Pr_playCommands_110 ⟨v2, s0, rfl, rfl, h⟩
      · replace h := h.2 hc
        refine v_aload_n gC d_Pr_playCommands_7 rfl 0 rfl ?_
        refine v_get (v := .int (zI (gPr_at s0))) gC in_Pr 0 rfl rfl 3 (by decide) fl_Pr_25 rfl d_Pr_playCommands_8 ?_
        refine v_aload_n gC d_Pr_playCommands_11 rfl 0 rfl ?_
        refine v_get (v := .int (zI (gPr_length s0))) gC in_Pr 0 rfl rfl 1 (by decide) fl_Pr_22 rfl d_Pr_playCommands_12 ?_
        obtain ⟨hg3, hg4, h⟩ := h
        refine v_icmp_ge (tgt := 109) gC d_Pr_playCommands_15 (by decide) hg3 hg4 (fun hc => ?_) (fun hc => ?_)
        · replace h := h.1 hc
          refine v_iload_n gC d_Pr_playCommands_109 rfl 2 rfl ?_
          exact gret _ _ _ _ d_Pr_playCommands_110 ⟨v2, s0, rfl, rfl, h⟩
        · replace h := h.2 hc
          refine v_aload_n gC d_Pr_playCommands_18 rfl 0 rfl ?_
          refine v_get (v := .ref (d0 1)) gC in_Pr 0 rfl rfl 0 (by decide) fl_Pr_9 rfl d_Pr_playCommands_19 ?_
          refine v_aload_n gC d_Pr_playCommands_22 rfl 0 rfl ?_
          refine v_get (v := .int (zI (gPr_at s0))) gC in_Pr 0 rfl rfl 3 (by decide) fl_Pr_25 rfl d_Pr_playCommands_23 ?_
          obtain ⟨hg5, h⟩ := h
          refine v_iald (g := (gPr_program s0)) gC 1 0 rfl rfl hg5 rfl (by decide) d_Pr_playCommands_26 ?_
          refine v_sipush gC d_Pr_playCommands_27 (by decide) ?_
          obtain ⟨hg6, h⟩ := h
          refine v_icmp_ne (tgt := 56) gC d_Pr_playCommands_30 (by decide) hg6 (by decide) (fun hc => ?_) (fun hc => ?_)
          · replace h := h.1 hc
            refine v_aload_n gC d_Pr_playCommands_56 rfl 0 rfl ?_
            refine v_aload_n gC d_Pr_playCommands_57 rfl 0 rfl ?_
            refine v_get (v := .ref (d0 1)) gC in_Pr 0 rfl rfl 0 (by decide) fl_Pr_9 rfl d_Pr_playCommands_58 ?_
            refine v_aload_n gC d_Pr_playCommands_61 rfl 0 rfl ?_
            refine v_get (v := .int (zI (gPr_at s0))) gC in_Pr 0 rfl rfl 3 (by decide) fl_Pr_25 rfl d_Pr_playCommands_62 ?_
            refine v_iconst gC d_Pr_playCommands_65 ?_
            refine v_iadd gC d_Pr_playCommands_66 ((gPr_at s0) + 1) rfl ?_
            obtain ⟨hg7, h⟩ := h
            refine v_iald (g := (gPr_program s0)) gC 1 0 rfl rfl hg7 rfl (by decide) d_Pr_playCommands_67 ?_
            refine v_aload_n gC d_Pr_playCommands_68 rfl 0 rfl ?_
            refine v_get (v := .ref (d0 1)) gC in_Pr 0 rfl rfl 0 (by decide) fl_Pr_9 rfl d_Pr_playCommands_69 ?_
            refine v_aload_n gC d_Pr_playCommands_72 rfl 0 rfl ?_
            refine v_get (v := .int (zI (gPr_at s0))) gC in_Pr 0 rfl rfl 3 (by decide) fl_Pr_25 rfl d_Pr_playCommands_73 ?_
            refine v_iconst gC d_Pr_playCommands_76 ?_
            refine v_iadd gC d_Pr_playCommands_77 ((gPr_at s0) + 2) rfl ?_
            obtain ⟨hg8, h⟩ := h
            refine v_iald (g := (gPr_program s0)) gC 1 0 rfl rfl hg8 rfl (by decide) d_Pr_playCommands_78 ?_
            refine v_aload_n gC d_Pr_playCommands_79 rfl 0 rfl ?_
            refine v_get (v := .ref (d0 1)) gC in_Pr 0 rfl rfl 0 (by decide) fl_Pr_9 rfl d_Pr_playCommands_80 ?_
            refine v_aload_n gC d_Pr_playCommands_83 rfl 0 rfl ?_
            refine v_get (v := .int (zI (gPr_at s0))) gC in_Pr 0 rfl rfl 3 (by decide) fl_Pr_25 rfl d_Pr_playCommands_84 ?_
            refine v_iconst gC d_Pr_playCommands_87 ?_
            refine v_iadd gC d_Pr_playCommands_88 ((gPr_at s0) + 4) rfl ?_
            obtain ⟨hg9, h⟩ := h
            refine v_iald (g := (gPr_program s0)) gC 1 0 rfl rfl hg9 rfl (by decide) d_Pr_playCommands_89 ?_
            refine v_callV (rest := []) gC (k_Pr_layRun l D K d0 ((gPr_program s0) ((gPr_at s0) + 1)) ((gPr_program s0) ((gPr_at s0) + 2)) ((gPr_program s0) ((gPr_at s0) + 4)) s0 _ h) wV_Pr_43 rfl ⟨by omega, by omega, Nat.zero_le _, Nat.zero_le _⟩ 0 rfl rfl [0, 1, 2] [] rfl (by decide) rfl (by decide) (by decide) rfl (Nat.le_of_ble_eq_true rfl) d_Pr_playCommands_90 (fun v w1 hp => ?_)
            obtain ⟨u10, rfl, rfl, h⟩ := hp
            refine v_after (ws' := (w_Pr K d0 u10)) (st' := []) [0, 1, 2] (by decide) rfl rfl ?_
            refine v_aload_n gC d_Pr_playCommands_93 rfl 0 rfl ?_
            refine v_dup gC d_Pr_playCommands_94 rfl ?_
            refine v_get (v := .int (zI (gPr_at u10))) gC in_Pr 0 rfl rfl 3 (by decide) fl_Pr_25 rfl d_Pr_playCommands_95 ?_
            refine v_iconst gC d_Pr_playCommands_98 ?_
            refine v_iadd gC d_Pr_playCommands_99 ((gPr_at u10) + 5) rfl ?_
            refine v_puti (ws' := (w_Pr K d0 (mkPr (gPr_program u10) (gPr_length u10) (gPr_beads u10) ((gPr_at u10) + 5) (gPr_layer u10)))) gC in_Pr t_Pr ok_Pr n_Pr 0 rfl rfl 3 (by decide) fl_Pr_25 rfl (by decide +kernel) (Nat.le_of_ble_eq_true rfl) rfl d_Pr_playCommands_100 ?_
            refine v_iinc (lv' := [(0, .ref (d0 0)), (1, .int (zI x1)), (2, .int (zI (v2 + 1)))]) gC d_Pr_playCommands_103 2 rfl (by decide) (v2 + 1) rfl [1, 2, 0] rfl ?_
            refine v_goto (tgt := 2) gC d_Pr_playCommands_106 (by decide) ?_
            refine v_loc (lv' := [(0, .ref (d0 0)), (1, .int (zI x1)), (2, .int (zI (v2 + 1)))]) [0, 1, 2] rfl ?_
            exact h
          · replace h := h.2 hc
            refine v_aload_n gC d_Pr_playCommands_33 rfl 0 rfl ?_
            refine v_dup gC d_Pr_playCommands_34 rfl ?_
            refine v_get (v := .int (zI (gPr_layer s0))) gC in_Pr 0 rfl rfl 4 (by decide) fl_Pr_18 rfl d_Pr_playCommands_35 ?_
            refine v_iconst gC d_Pr_playCommands_38 ?_
            refine v_iadd gC d_Pr_playCommands_39 ((gPr_layer s0) + 1) rfl ?_
            refine v_puti (ws' := (w_Pr K d0 (mkPr (gPr_program s0) (gPr_length s0) (gPr_beads s0) (gPr_at s0) ((gPr_layer s0) + 1)))) gC in_Pr t_Pr ok_Pr n_Pr 0 rfl rfl 4 (by decide) fl_Pr_18 rfl (by decide +kernel) (Nat.le_of_ble_eq_true rfl) rfl d_Pr_playCommands_40 ?_
            refine v_aload_n gC d_Pr_playCommands_43 rfl 0 rfl ?_
            refine v_dup gC d_Pr_playCommands_44 rfl ?_
            refine v_get (v := .int (zI (gPr_at s0))) gC in_Pr 0 rfl rfl 3 (by decide) fl_Pr_25 rfl d_Pr_playCommands_45 ?_
            refine v_iconst gC d_Pr_playCommands_48 ?_
            refine v_iadd gC d_Pr_playCommands_49 ((gPr_at s0) + 1) rfl ?_
            refine v_puti (ws' := (w_Pr K d0 (mkPr (gPr_program s0) (gPr_length s0) (gPr_beads s0) ((gPr_at s0) + 1) ((gPr_layer s0) + 1)))) gC in_Pr t_Pr ok_Pr n_Pr 0 rfl rfl 3 (by decide) fl_Pr_25 rfl (by decide +kernel) (Nat.le_of_ble_eq_true rfl) rfl d_Pr_playCommands_50 ?_
            refine v_goto (tgt := 103) gC d_Pr_playCommands_53 (by decide) ?_
            refine v_iinc (lv' := [(0, .ref (d0 0)), (1, .int (zI x1)), (2, .int (zI (v2 + 1)))]) gC d_Pr_playCommands_103 2 rfl (by decide) (v2 + 1) rfl [1, 2, 0] rfl ?_
            refine v_goto (tgt := 2) gC d_Pr_playCommands_106 (by decide) ?_
            refine v_loc (lv' := [(0, .ref (d0 0)), (1, .int (zI x1)), (2, .int (zI (v2 + 1)))]) [0, 1, 2] rfl ?_
            exact h)
  refine v_iconst gC d_Pr_playCommands_0 ?_
  refine v_istore_n (lv' := [(0, .ref (d0 0)), (1, .int (zI x1)), (2, .int (zI 0))]) gC d_Pr_playCommands_1 rfl (by decide) [1, 2, 0] rfl ?_
  refine v_loc (lv' := [(0, .ref (d0 0)), (1, .int (zI x1)), (2, .int (zI 0))]) [0, 1, 2] rfl ?_
  exact h

set_option maxHeartbeats 4000000 in
set_option maxRecDepth 100000 in
theorem k_LS_play (l : Launch) (D : va_G) (K : Nat → ClassId) (d0 : Nat → Nat) (x1 : Int) (s0 : s_LS) (Q : Int → s_LS → Prop) (h : wp_LS_play x1 s0 Q) : Kt l D K y_LS_play b_LS_play 2 (some .int) 3 68 [.ref (d0 0), .int (zI x1)] (w_LS K d0 s0) (fun v w1 => ∃ (r : Int), ∃ (u0 : s_LS), v = some (.int (zI r)) ∧ w1 = (w_LS K d0 u0) ∧ Q r u0) := by
  refine Kt.ofI (by decide +kernel) (Nat.le_of_ble_eq_true rfl) (lv0 := [(0, .ref (d0 0)), (1, .int (zI x1))]) rfl ?_
  intro gp ge gR gs gm ga gb gh gc gA gQ gRf gRl gC gret
  unfold wp_LS_play at h
  refine v_aload_n gC d_LS_play_0 rfl 0 rfl ?_
  refine v_get (v := .ref (d0 32)) gC in_LS 0 rfl rfl 5 (by decide) fl_LS_47 rfl d_LS_play_1 ?_
  refine v_iload_n gC d_LS_play_4 rfl 1 rfl ?_
  refine v_callV (rest := []) gC (k_Pr_playCommands l D K (fun i => d0 (i + 32)) x1 (gLS_printer s0) _ h) wV_LS_142 rfl ⟨by omega, by omega, Nat.zero_le _, Nat.zero_le _⟩ 0 rfl rfl [32, 33, 34] [0, 1, 2, 3, 4, 5, 6, 7, 8, 9, 10, 11, 12, 13, 14, 15, 16, 17, 18, 19, 20, 21, 22, 23, 24, 25, 26, 27, 28, 29, 30, 31] rfl (by decide) rfl (by decide) (by decide) rfl (Nat.le_of_ble_eq_true rfl) d_LS_play_5 (fun v w1 hp => ?_)
  obtain ⟨r1, u2, rfl, rfl, h⟩ := hp
  refine v_after (ws' := (w_LS K d0 (mkLS (gLS_mesh s0) (gLS_mender s0) (gLS_slices s0) (gLS_sorter s0) (gLS_router s0) u2))) (st' := [.int (zI r1)]) [0, 1, 2, 3, 4, 5, 6, 7, 8, 9, 10, 11, 12, 13, 14, 15, 16, 17, 18, 19, 20, 21, 22, 23, 24, 25, 26, 27, 28, 29, 30, 31, 32, 33, 34] (by decide) rfl rfl ?_
  exact gret _ _ _ _ d_LS_play_8 ⟨r1, (mkLS (gLS_mesh s0) (gLS_mender s0) (gLS_slices s0) (gLS_sorter s0) (gLS_router s0) u2), rfl, rfl, h⟩

set_option maxHeartbeats 4000000 in
set_option maxRecDepth 100000 in
theorem k_LS_isCell (l : Launch) (D : va_G) (K : Nat → ClassId) (x0 : Int) (x1 : Int) (x2 : Int) (Q : Int → Prop) (h : wp_LS_isCell x0 x1 x2 Q) : Kt l D K y_LS_isCell b_LS_isCell 3 (some .boolean) 0 0 [.int (zI x0), .int (zI x1), .int (zI x2)] [] (fun v w1 => ∃ (r : Int), v = some (.int (zI r)) ∧ w1 = [] ∧ Q r) := by
  refine Kt.ofZ (by decide +kernel) (Nat.le_of_ble_eq_true rfl) (lv0 := [(0, .int (zI x0)), (1, .int (zI x1)), (2, .int (zI x2))]) rfl ?_
  intro gp ge gR gs gm ga gb gh gc gA gQ gRf gRl gC gret
  unfold wp_LS_isCell at h
  refine v_iload_n gC d_LS_isCell_0 rfl 0 rfl ?_
  obtain ⟨hg1, h⟩ := h
  refine v_if_lt (tgt := 34) gC d_LS_isCell_1 (by decide) hg1 (fun hc => ?_) (fun hc => ?_)
  · replace h := h.1 hc
    refine v_iconst gC d_LS_isCell_34 ?_
    exact gret _ _ _ _ d_LS_isCell_35 rfl ⟨0, rfl, rfl, h⟩
  · replace h := h.2 hc
    refine v_iload_n gC d_LS_isCell_4 rfl 0 rfl ?_
    refine v_bipush gC d_LS_isCell_5 (by decide) ?_
    refine v_icmp_ge (tgt := 34) gC d_LS_isCell_7 (by decide) hg1 (by decide) (fun hc => ?_) (fun hc => ?_)
    · replace h := h.1 hc
      refine v_iconst gC d_LS_isCell_34 ?_
      exact gret _ _ _ _ d_LS_isCell_35 rfl ⟨0, rfl, rfl, h⟩
    · replace h := h.2 hc
      refine v_iload_n gC d_LS_isCell_10 rfl 1 rfl ?_
      obtain ⟨hg2, h⟩ := h
      refine v_if_lt (tgt := 34) gC d_LS_isCell_11 (by decide) hg2 (fun hc => ?_) (fun hc => ?_)
      · replace h := h.1 hc
        refine v_iconst gC d_LS_isCell_34 ?_
        exact gret _ _ _ _ d_LS_isCell_35 rfl ⟨0, rfl, rfl, h⟩
      · replace h := h.2 hc
        refine v_iload_n gC d_LS_isCell_14 rfl 1 rfl ?_
        refine v_bipush gC d_LS_isCell_15 (by decide) ?_
        refine v_icmp_ge (tgt := 34) gC d_LS_isCell_17 (by decide) hg2 (by decide) (fun hc => ?_) (fun hc => ?_)
        · replace h := h.1 hc
          refine v_iconst gC d_LS_isCell_34 ?_
          exact gret _ _ _ _ d_LS_isCell_35 rfl ⟨0, rfl, rfl, h⟩
        · replace h := h.2 hc
          refine v_iload_n gC d_LS_isCell_20 rfl 2 rfl ?_
          obtain ⟨hg3, h⟩ := h
          refine v_if_lt (tgt := 34) gC d_LS_isCell_21 (by decide) hg3 (fun hc => ?_) (fun hc => ?_)
          · replace h := h.1 hc
            refine v_iconst gC d_LS_isCell_34 ?_
            exact gret _ _ _ _ d_LS_isCell_35 rfl ⟨0, rfl, rfl, h⟩
          · replace h := h.2 hc
            refine v_iload_n gC d_LS_isCell_24 rfl 2 rfl ?_
            refine v_bipush gC d_LS_isCell_25 (by decide) ?_
            refine v_icmp_ge (tgt := 34) gC d_LS_isCell_27 (by decide) hg3 (by decide) (fun hc => ?_) (fun hc => ?_)
            · replace h := h.1 hc
              refine v_iconst gC d_LS_isCell_34 ?_
              exact gret _ _ _ _ d_LS_isCell_35 rfl ⟨0, rfl, rfl, h⟩
            · replace h := h.2 hc
              refine v_iconst gC d_LS_isCell_30 ?_
              refine v_goto (tgt := 35) gC d_LS_isCell_31 (by decide) ?_
              exact gret _ _ _ _ d_LS_isCell_35 rfl ⟨1, rfl, rfl, h⟩

set_option maxHeartbeats 4000000 in
set_option maxRecDepth 100000 in
theorem k_LS_laid (l : Launch) (D : va_G) (K : Nat → ClassId) (d0 : Nat → Nat) (x1 : Int) (x2 : Int) (x3 : Int) (s0 : s_LS) (Q : Int → Prop) (h : wp_LS_laid x1 x2 x3 s0 Q) : Kt l D K y_LS_laid b_LS_laid 4 (some .int) 1 22 [.ref (d0 0), .int (zI x1), .int (zI x2), .int (zI x3)] (w_LS K d0 s0) (fun v w1 => ∃ (r : Int), v = some (.int (zI r)) ∧ w1 = (w_LS K d0 s0) ∧ Q r) := by
  refine Kt.ofI (by decide +kernel) (Nat.le_of_ble_eq_true rfl) (lv0 := [(0, .ref (d0 0)), (1, .int (zI x1)), (2, .int (zI x2)), (3, .int (zI x3))]) rfl ?_
  intro gp ge gR gs gm ga gb gh gc gA gQ gRf gRl gC gret
  unfold wp_LS_laid at h
  refine v_iload_n gC d_LS_laid_0 rfl 1 rfl ?_
  refine v_iload_n gC d_LS_laid_1 rfl 2 rfl ?_
  refine v_iload_n gC d_LS_laid_2 rfl 3 rfl ?_
  refine v_callS (rest := []) gC (k_LS_isCell l D K x1 x2 x3 _ h) wS_LS_146 rfl ⟨by omega, by omega, Nat.zero_le _, Nat.zero_le _⟩ [] [0, 1, 2, 3, 4, 5, 6, 7, 8, 9, 10, 11, 12, 13, 14, 15, 16, 17, 18, 19, 20, 21, 22, 23, 24, 25, 26, 27, 28, 29, 30, 31, 32, 33, 34] rfl (by decide) rfl (by decide) (by decide) rfl (Nat.le_of_ble_eq_true rfl) d_LS_laid_3 (fun v w1 hp => ?_)
  obtain ⟨r1, rfl, rfl, h⟩ := hp
  refine v_after (ws' := (w_LS K d0 s0)) (st' := [.int (zI r1)]) [0, 1, 2, 3, 4, 5, 6, 7, 8, 9, 10, 11, 12, 13, 14, 15, 16, 17, 18, 19, 20, 21, 22, 23, 24, 25, 26, 27, 28, 29, 30, 31, 32, 33, 34] (by decide) rfl rfl ?_
  obtain ⟨hg2, h⟩ := h
  refine v_if_eq (tgt := 26) gC d_LS_laid_6 (by decide) hg2 (fun hc => ?_) (fun hc => ?_)
  · replace h := h.1 hc
    refine v_iconst gC d_LS_laid_26 ?_
    exact gret _ _ _ _ d_LS_laid_27 ⟨0, rfl, rfl, h⟩
  · replace h := h.2 hc
    refine v_aload_n gC d_LS_laid_9 rfl 0 rfl ?_
    refine v_get (v := .ref (d0 32)) gC in_LS 0 rfl rfl 5 (by decide) fl_LS_47 rfl d_LS_laid_10 ?_
    refine v_get (v := .ref (d0 34)) gC in_Pr 32 rfl rfl 2 (by decide) fl_LS_150 rfl d_LS_laid_13 ?_
    refine v_iload_n gC d_LS_laid_16 rfl 1 rfl ?_
    refine v_iload_n gC d_LS_laid_17 rfl 2 rfl ?_
    refine v_iload_n gC d_LS_laid_18 rfl 3 rfl ?_
    refine v_callS (rest := [.ref (d0 34)]) gC (k_LS_cellIndex l D K x1 x2 x3 _ h) wS_LS_153 rfl ⟨by omega, by omega, Nat.zero_le _, Nat.zero_le _⟩ [] [0, 1, 2, 3, 4, 5, 6, 7, 8, 9, 10, 11, 12, 13, 14, 15, 16, 17, 18, 19, 20, 21, 22, 23, 24, 25, 26, 27, 28, 29, 30, 31, 32, 33, 34] rfl (by decide) rfl (by decide) (by decide) rfl (Nat.le_of_ble_eq_true rfl) d_LS_laid_19 (fun v w1 hp => ?_)
    obtain ⟨r3, rfl, rfl, h⟩ := hp
    refine v_after (ws' := (w_LS K d0 s0)) (st' := [.int (zI r3), .ref (d0 34)]) [0, 1, 2, 3, 4, 5, 6, 7, 8, 9, 10, 11, 12, 13, 14, 15, 16, 17, 18, 19, 20, 21, 22, 23, 24, 25, 26, 27, 28, 29, 30, 31, 32, 33, 34] (by decide) rfl rfl ?_
    obtain ⟨hg4, h⟩ := h
    refine v_iald (g := (gPr_beads (gLS_printer s0))) gC 34 0 rfl rfl hg4 rfl (by decide) d_LS_laid_22 ?_
    refine v_goto (tgt := 27) gC d_LS_laid_23 (by decide) ?_
    exact gret _ _ _ _ d_LS_laid_27 ⟨(gPr_beads (gLS_printer s0)) r3, rfl, rfl, h⟩

set_option maxHeartbeats 4000000 in
set_option maxRecDepth 100000 in
theorem k_Int_bitCount (l : Launch) (D : va_G) (K : Nat → ClassId) (x0 : Int) (Q : Int → Prop) (h : wp_Int_bitCount x0 Q) : Kt l D K y_Int_bitCount b_Int_bitCount 1 (some .int) 0 0 [.int (zI x0)] [] (fun v w1 => ∃ (r : Int), v = some (.int (zI r)) ∧ w1 = [] ∧ Q r) := by
  refine Kt.ofI (by decide +kernel) (Nat.le_of_ble_eq_true rfl) (lv0 := [(0, .int (zI x0))]) rfl ?_
  intro gp ge gR gs gm ga gb gh gc gA gQ gRf gRl gC gret
  unfold wp_Int_bitCount at h
  refine v_iload_n gC d_Int_bitCount_0 rfl 0 rfl ?_
  refine v_iload_n gC d_Int_bitCount_1 rfl 0 rfl ?_
  refine v_iconst gC d_Int_bitCount_2 ?_
  obtain ⟨hg1, hg2, h⟩ := h
  refine v_iushr gC d_Int_bitCount_3 hg1 hg2 (by decide) ?_
  refine v_ldcw gC kc_Int_265 d_Int_bitCount_4 ?_
  refine v_iand gC d_Int_bitCount_7 ?_
  refine v_isub gC d_Int_bitCount_8 (x0 - (iand (x0 / 2 ^ Int.toNat 1) 1431655765)) rfl ?_
  refine v_istore_n (lv' := [(0, .int (zI (x0 - (iand (x0 / 2 ^ Int.toNat 1) 1431655765))))]) gC d_Int_bitCount_9 rfl (by decide) [0] rfl ?_
  refine v_iload_n gC d_Int_bitCount_10 rfl 0 rfl ?_
  refine v_ldcw gC kc_Int_266 d_Int_bitCount_11 ?_
  refine v_iand gC d_Int_bitCount_14 ?_
  refine v_iload_n gC d_Int_bitCount_15 rfl 0 rfl ?_
  refine v_iconst gC d_Int_bitCount_16 ?_
  obtain ⟨hg3, hg4, h⟩ := h
  refine v_iushr gC d_Int_bitCount_17 hg3 hg4 (by decide) ?_
  refine v_ldcw gC kc_Int_266 d_Int_bitCount_18 ?_
  refine v_iand gC d_Int_bitCount_21 ?_
  refine v_iadd gC d_Int_bitCount_22 ((iand (x0 - (iand (x0 / 2 ^ Int.toNat 1) 1431655765)) 858993459) + (iand ((x0 - (iand (x0 / 2 ^ Int.toNat 1) 1431655765)) / 2 ^ Int.toNat 2) 858993459)) rfl ?_
  refine v_istore_n (lv' := [(0, .int (zI ((iand (x0 - (iand (x0 / 2 ^ Int.toNat 1) 1431655765)) 858993459) + (iand ((x0 - (iand (x0 / 2 ^ Int.toNat 1) 1431655765)) / 2 ^ Int.toNat 2) 858993459))))]) gC d_Int_bitCount_23 rfl (by decide) [0] rfl ?_
  refine v_iload_n gC d_Int_bitCount_24 rfl 0 rfl ?_
  refine v_iload_n gC d_Int_bitCount_25 rfl 0 rfl ?_
  refine v_iconst gC d_Int_bitCount_26 ?_
  obtain ⟨hg5, hg6, h⟩ := h
  refine v_iushr gC d_Int_bitCount_27 hg5 hg6 (by decide) ?_
  refine v_iadd gC d_Int_bitCount_28 (((iand (x0 - (iand (x0 / 2 ^ Int.toNat 1) 1431655765)) 858993459) + (iand ((x0 - (iand (x0 / 2 ^ Int.toNat 1) 1431655765)) / 2 ^ Int.toNat 2) 858993459)) + (((iand (x0 - (iand (x0 / 2 ^ Int.toNat 1) 1431655765)) 858993459) + (iand ((x0 - (iand (x0 / 2 ^ Int.toNat 1) 1431655765)) / 2 ^ Int.toNat 2) 858993459)) / 2 ^ Int.toNat 4)) rfl ?_
  refine v_ldcw gC kc_Int_267 d_Int_bitCount_29 ?_
  refine v_iand gC d_Int_bitCount_32 ?_
  refine v_istore_n (lv' := [(0, .int (zI (iand (((iand (x0 - (iand (x0 / 2 ^ Int.toNat 1) 1431655765)) 858993459) + (iand ((x0 - (iand (x0 / 2 ^ Int.toNat 1) 1431655765)) / 2 ^ Int.toNat 2) 858993459)) + (((iand (x0 - (iand (x0 / 2 ^ Int.toNat 1) 1431655765)) 858993459) + (iand ((x0 - (iand (x0 / 2 ^ Int.toNat 1) 1431655765)) / 2 ^ Int.toNat 2) 858993459)) / 2 ^ Int.toNat 4)) 252645135)))]) gC d_Int_bitCount_33 rfl (by decide) [0] rfl ?_
  refine v_iload_n gC d_Int_bitCount_34 rfl 0 rfl ?_
  refine v_iload_n gC d_Int_bitCount_35 rfl 0 rfl ?_
  refine v_bipush gC d_Int_bitCount_36 (by decide) ?_
  obtain ⟨hg7, h⟩ := h
  refine v_iushr gC d_Int_bitCount_38 (rg_of _) hg7 (by decide) ?_
  refine v_iadd gC d_Int_bitCount_39 ((iand (((iand (x0 - (iand (x0 / 2 ^ Int.toNat 1) 1431655765)) 858993459) + (iand ((x0 - (iand (x0 / 2 ^ Int.toNat 1) 1431655765)) / 2 ^ Int.toNat 2) 858993459)) + (((iand (x0 - (iand (x0 / 2 ^ Int.toNat 1) 1431655765)) 858993459) + (iand ((x0 - (iand (x0 / 2 ^ Int.toNat 1) 1431655765)) / 2 ^ Int.toNat 2) 858993459)) / 2 ^ Int.toNat 4)) 252645135) + ((iand (((iand (x0 - (iand (x0 / 2 ^ Int.toNat 1) 1431655765)) 858993459) + (iand ((x0 - (iand (x0 / 2 ^ Int.toNat 1) 1431655765)) / 2 ^ Int.toNat 2) 858993459)) + (((iand (x0 - (iand (x0 / 2 ^ Int.toNat 1) 1431655765)) 858993459) + (iand ((x0 - (iand (x0 / 2 ^ Int.toNat 1) 1431655765)) / 2 ^ Int.toNat 2) 858993459)) / 2 ^ Int.toNat 4)) 252645135) / 2 ^ Int.toNat 8)) rfl ?_
  refine v_istore_n (lv' := [(0, .int (zI ((iand (((iand (x0 - (iand (x0 / 2 ^ Int.toNat 1) 1431655765)) 858993459) + (iand ((x0 - (iand (x0 / 2 ^ Int.toNat 1) 1431655765)) / 2 ^ Int.toNat 2) 858993459)) + (((iand (x0 - (iand (x0 / 2 ^ Int.toNat 1) 1431655765)) 858993459) + (iand ((x0 - (iand (x0 / 2 ^ Int.toNat 1) 1431655765)) / 2 ^ Int.toNat 2) 858993459)) / 2 ^ Int.toNat 4)) 252645135) + ((iand (((iand (x0 - (iand (x0 / 2 ^ Int.toNat 1) 1431655765)) 858993459) + (iand ((x0 - (iand (x0 / 2 ^ Int.toNat 1) 1431655765)) / 2 ^ Int.toNat 2) 858993459)) + (((iand (x0 - (iand (x0 / 2 ^ Int.toNat 1) 1431655765)) 858993459) + (iand ((x0 - (iand (x0 / 2 ^ Int.toNat 1) 1431655765)) / 2 ^ Int.toNat 2) 858993459)) / 2 ^ Int.toNat 4)) 252645135) / 2 ^ Int.toNat 8))))]) gC d_Int_bitCount_40 rfl (by decide) [0] rfl ?_
  refine v_iload_n gC d_Int_bitCount_41 rfl 0 rfl ?_
  refine v_iload_n gC d_Int_bitCount_42 rfl 0 rfl ?_
  refine v_bipush gC d_Int_bitCount_43 (by decide) ?_
  obtain ⟨hg8, hg9, h⟩ := h
  refine v_iushr gC d_Int_bitCount_45 hg8 hg9 (by decide) ?_
  refine v_iadd gC d_Int_bitCount_46 (((iand (((iand (x0 - (iand (x0 / 2 ^ Int.toNat 1) 1431655765)) 858993459) + (iand ((x0 - (iand (x0 / 2 ^ Int.toNat 1) 1431655765)) / 2 ^ Int.toNat 2) 858993459)) + (((iand (x0 - (iand (x0 / 2 ^ Int.toNat 1) 1431655765)) 858993459) + (iand ((x0 - (iand (x0 / 2 ^ Int.toNat 1) 1431655765)) / 2 ^ Int.toNat 2) 858993459)) / 2 ^ Int.toNat 4)) 252645135) + ((iand (((iand (x0 - (iand (x0 / 2 ^ Int.toNat 1) 1431655765)) 858993459) + (iand ((x0 - (iand (x0 / 2 ^ Int.toNat 1) 1431655765)) / 2 ^ Int.toNat 2) 858993459)) + (((iand (x0 - (iand (x0 / 2 ^ Int.toNat 1) 1431655765)) 858993459) + (iand ((x0 - (iand (x0 / 2 ^ Int.toNat 1) 1431655765)) / 2 ^ Int.toNat 2) 858993459)) / 2 ^ Int.toNat 4)) 252645135) / 2 ^ Int.toNat 8)) + (((iand (((iand (x0 - (iand (x0 / 2 ^ Int.toNat 1) 1431655765)) 858993459) + (iand ((x0 - (iand (x0 / 2 ^ Int.toNat 1) 1431655765)) / 2 ^ Int.toNat 2) 858993459)) + (((iand (x0 - (iand (x0 / 2 ^ Int.toNat 1) 1431655765)) 858993459) + (iand ((x0 - (iand (x0 / 2 ^ Int.toNat 1) 1431655765)) / 2 ^ Int.toNat 2) 858993459)) / 2 ^ Int.toNat 4)) 252645135) + ((iand (((iand (x0 - (iand (x0 / 2 ^ Int.toNat 1) 1431655765)) 858993459) + (iand ((x0 - (iand (x0 / 2 ^ Int.toNat 1) 1431655765)) / 2 ^ Int.toNat 2) 858993459)) + (((iand (x0 - (iand (x0 / 2 ^ Int.toNat 1) 1431655765)) 858993459) + (iand ((x0 - (iand (x0 / 2 ^ Int.toNat 1) 1431655765)) / 2 ^ Int.toNat 2) 858993459)) / 2 ^ Int.toNat 4)) 252645135) / 2 ^ Int.toNat 8)) / 2 ^ Int.toNat 16)) rfl ?_
  refine v_istore_n (lv' := [(0, .int (zI (((iand (((iand (x0 - (iand (x0 / 2 ^ Int.toNat 1) 1431655765)) 858993459) + (iand ((x0 - (iand (x0 / 2 ^ Int.toNat 1) 1431655765)) / 2 ^ Int.toNat 2) 858993459)) + (((iand (x0 - (iand (x0 / 2 ^ Int.toNat 1) 1431655765)) 858993459) + (iand ((x0 - (iand (x0 / 2 ^ Int.toNat 1) 1431655765)) / 2 ^ Int.toNat 2) 858993459)) / 2 ^ Int.toNat 4)) 252645135) + ((iand (((iand (x0 - (iand (x0 / 2 ^ Int.toNat 1) 1431655765)) 858993459) + (iand ((x0 - (iand (x0 / 2 ^ Int.toNat 1) 1431655765)) / 2 ^ Int.toNat 2) 858993459)) + (((iand (x0 - (iand (x0 / 2 ^ Int.toNat 1) 1431655765)) 858993459) + (iand ((x0 - (iand (x0 / 2 ^ Int.toNat 1) 1431655765)) / 2 ^ Int.toNat 2) 858993459)) / 2 ^ Int.toNat 4)) 252645135) / 2 ^ Int.toNat 8)) + (((iand (((iand (x0 - (iand (x0 / 2 ^ Int.toNat 1) 1431655765)) 858993459) + (iand ((x0 - (iand (x0 / 2 ^ Int.toNat 1) 1431655765)) / 2 ^ Int.toNat 2) 858993459)) + (((iand (x0 - (iand (x0 / 2 ^ Int.toNat 1) 1431655765)) 858993459) + (iand ((x0 - (iand (x0 / 2 ^ Int.toNat 1) 1431655765)) / 2 ^ Int.toNat 2) 858993459)) / 2 ^ Int.toNat 4)) 252645135) + ((iand (((iand (x0 - (iand (x0 / 2 ^ Int.toNat 1) 1431655765)) 858993459) + (iand ((x0 - (iand (x0 / 2 ^ Int.toNat 1) 1431655765)) / 2 ^ Int.toNat 2) 858993459)) + (((iand (x0 - (iand (x0 / 2 ^ Int.toNat 1) 1431655765)) 858993459) + (iand ((x0 - (iand (x0 / 2 ^ Int.toNat 1) 1431655765)) / 2 ^ Int.toNat 2) 858993459)) / 2 ^ Int.toNat 4)) 252645135) / 2 ^ Int.toNat 8)) / 2 ^ Int.toNat 16))))]) gC d_Int_bitCount_47 rfl (by decide) [0] rfl ?_
  refine v_iload_n gC d_Int_bitCount_48 rfl 0 rfl ?_
  refine v_bipush gC d_Int_bitCount_49 (by decide) ?_
  refine v_iand gC d_Int_bitCount_51 ?_
  exact gret _ _ _ _ d_Int_bitCount_52 ⟨iand (((iand (((iand (x0 - (iand (x0 / 2 ^ Int.toNat 1) 1431655765)) 858993459) + (iand ((x0 - (iand (x0 / 2 ^ Int.toNat 1) 1431655765)) / 2 ^ Int.toNat 2) 858993459)) + (((iand (x0 - (iand (x0 / 2 ^ Int.toNat 1) 1431655765)) 858993459) + (iand ((x0 - (iand (x0 / 2 ^ Int.toNat 1) 1431655765)) / 2 ^ Int.toNat 2) 858993459)) / 2 ^ Int.toNat 4)) 252645135) + ((iand (((iand (x0 - (iand (x0 / 2 ^ Int.toNat 1) 1431655765)) 858993459) + (iand ((x0 - (iand (x0 / 2 ^ Int.toNat 1) 1431655765)) / 2 ^ Int.toNat 2) 858993459)) + (((iand (x0 - (iand (x0 / 2 ^ Int.toNat 1) 1431655765)) 858993459) + (iand ((x0 - (iand (x0 / 2 ^ Int.toNat 1) 1431655765)) / 2 ^ Int.toNat 2) 858993459)) / 2 ^ Int.toNat 4)) 252645135) / 2 ^ Int.toNat 8)) + (((iand (((iand (x0 - (iand (x0 / 2 ^ Int.toNat 1) 1431655765)) 858993459) + (iand ((x0 - (iand (x0 / 2 ^ Int.toNat 1) 1431655765)) / 2 ^ Int.toNat 2) 858993459)) + (((iand (x0 - (iand (x0 / 2 ^ Int.toNat 1) 1431655765)) 858993459) + (iand ((x0 - (iand (x0 / 2 ^ Int.toNat 1) 1431655765)) / 2 ^ Int.toNat 2) 858993459)) / 2 ^ Int.toNat 4)) 252645135) + ((iand (((iand (x0 - (iand (x0 / 2 ^ Int.toNat 1) 1431655765)) 858993459) + (iand ((x0 - (iand (x0 / 2 ^ Int.toNat 1) 1431655765)) / 2 ^ Int.toNat 2) 858993459)) + (((iand (x0 - (iand (x0 / 2 ^ Int.toNat 1) 1431655765)) 858993459) + (iand ((x0 - (iand (x0 / 2 ^ Int.toNat 1) 1431655765)) / 2 ^ Int.toNat 2) 858993459)) / 2 ^ Int.toNat 4)) 252645135) / 2 ^ Int.toNat 8)) / 2 ^ Int.toNat 16)) 63, rfl, rfl, h⟩

set_option maxHeartbeats 4000000 in
set_option maxRecDepth 100000 in
theorem k_LS_countCells (l : Launch) (D : va_G) (K : Nat → ClassId) (d0 : Nat) (x1 : Int) (x2 : Int) (n0 : Nat) (f0 : Int → Int) (hn0 : (n0 : Int) ≤ 2147483647) (Q : Int → Prop) (h : wp_LS_countCells x1 x2 n0 f0 Q) : Kt l D K y_LS_countCells b_LS_countCells 5 (some .int) 1 20 [.ref (d0), .int (zI x1), .int (zI x2)] ([(d0, .inl (K 0, n0, .inl (zF f0)))]) (fun v w1 => ∃ (r : Int), v = some (.int (zI r)) ∧ w1 = ([(d0, .inl (K 0, n0, .inl (zF f0)))]) ∧ Q r) := by
  refine Kt.ofI (by decide +kernel) (Nat.le_of_ble_eq_true rfl) (lv0 := [(0, .ref (d0)), (1, .int (zI x1)), (2, .int (zI x2))]) rfl ?_
  intro gp ge gR gs gm ga gb gh gc gA gQ gRf gRl gC gret
  unfold wp_LS_countCells at h
  replace h := h
    (fun (v3 : Int) (v4 : Int) => V gp l ge gR gs gm ga gb gh gc D gA 5 0 0 gQ ([(d0, .inl (K 0, n0, .inl (zF f0)))]) 5 [(0, .ref (d0)), (2, .int (zI x2)), (3, .int (zI v3)), (4, .int (zI v4))] [])
    (by
      intro v3 v4 h
      refine v_iload gC d_LS_countCells_5 3 rfl ?_
      refine v_iload_n gC d_LS_countCells_7 rfl 1 rfl ?_
      obtain ⟨hg1, hg2, h⟩ := h
      refine v_icmp_ge (tgt := 27) gC d_LS_countCells_8 (by decide) hg1 hg2 (fun hc => ?_) (fun hc => ?_)
      · replace h := h.1 hc
        refine v_iload_n gC d_LS_countCells_27 rfl 2 rfl ?_
        exact gret _ _ _ _ d_LS_countCells_28 ⟨v3, rfl, rfl, h⟩
      · replace h := h.2 hc
        refine v_iload_n gC d_LS_countCells_11 rfl 2 rfl ?_
        refine v_aload_n gC d_LS_countCells_12 rfl 0 rfl ?_
        refine v_iload gC d_LS_countCells_13 3 rfl ?_
        obtain ⟨hg3, h⟩ := h
        refine v_iald (g := f0) gC 0 0 rfl rfl hg3 rfl hn0 d_LS_countCells_15 ?_
        refine v_callS (rest := [.int (zI v3)]) gC (k_Int_bitCount l D K (f0 v4) _ h) wS_LS_167 rfl ⟨by omega, by omega, Nat.zero_le _, Nat.zero_le _⟩ [] [0] rfl (by decide) rfl (by decide) (by decide) rfl (Nat.le_of_ble_eq_true rfl) d_LS_countCells_16 (fun v w1 hp => ?_)
        obtain ⟨r4, rfl, rfl, h⟩ := hp
        refine v_after (ws' := ([(d0, .inl (K 0, n0, .inl (zF f0)))])) (st' := [.int (zI r4), .int (zI v3)]) [0] (by decide) rfl rfl ?_
        refine v_iadd gC d_LS_countCells_19 (v3 + r4) rfl ?_
        refine v_istore_n (lv' := [(0, .ref (d0)), (2, .int (zI x2)), (3, .int (zI (v3 + r4))), (4, .int (zI v4))]) gC d_LS_countCells_20 rfl (by decide) [1, 2, 0, 3] rfl ?_
        refine v_iinc (lv' := [(0, .ref (d0)), (2, .int (zI x2)), (3, .int (zI (v3 + r4))), (4, .int (zI (v4 + 1)))]) gC d_LS_countCells_21 3 rfl (by decide) (v4 + 1) rfl [1, 2, 3, 0] rfl ?_
        refine v_goto (tgt := 5) gC d_LS_countCells_24 (by decide) ?_
        refine v_loc (lv' := [(0, .ref (d0)), (2, .int (zI x2)), (3, .int (zI (v3 + r4))), (4, .int (zI (v4 + 1)))]) [0, 1, 2, 3] rfl ?_
        exact h)
  refine v_iconst gC d_LS_countCells_0 ?_
  refine v_istore_n (lv' := [(0, .ref (d0)), (1, .int (zI x1)), (2, .int (zI x2)), (3, .int (zI 0))]) gC d_LS_countCells_1 rfl (by decide) [1, 2, 3, 0] rfl ?_
  refine v_iload_n gC d_LS_countCells_2 rfl 1 rfl ?_
  refine v_istore (lv' := [(0, .ref (d0)), (1, .int (zI x1)), (2, .int (zI x2)), (3, .int (zI 0)), (4, .int (zI x1))]) gC d_LS_countCells_3 (by decide) [1, 2, 3, 4, 0] rfl ?_
  refine v_loc (lv' := [(0, .ref (d0)), (2, .int (zI x2)), (3, .int (zI 0)), (4, .int (zI x1))]) [0, 2, 3, 4] rfl ?_
  exact h

set_option maxHeartbeats 4000000 in
set_option maxRecDepth 100000 in
theorem k_LS_overhang (l : Launch) (D : va_G) (K : Nat → ClassId) (d0 : Nat → Nat) (x1 : Int) (s0 : s_LS) (Q : Int → Prop) (h : wp_LS_overhang x1 s0 Q) : Kt l D K y_LS_overhang b_LS_overhang 2 (some .int) 2 44 [.ref (d0 0), .int (zI x1)] (w_LS K d0 s0) (fun v w1 => ∃ (r : Int), v = some (.int (zI r)) ∧ w1 = (w_LS K d0 s0) ∧ Q r) := by
  refine Kt.ofI (by decide +kernel) (Nat.le_of_ble_eq_true rfl) (lv0 := [(0, .ref (d0 0)), (1, .int (zI x1))]) rfl ?_
  intro gp ge gR gs gm ga gb gh gc gA gQ gRf gRl gC gret
  unfold wp_LS_overhang at h
  refine v_aload_n gC d_LS_overhang_0 rfl 0 rfl ?_
  refine v_get (v := .ref (d0 12)) gC in_LS 0 rfl rfl 2 (by decide) fl_LS_26 rfl d_LS_overhang_1 ?_
  refine v_iload_n gC d_LS_overhang_4 rfl 1 rfl ?_
  refine v_callV (rest := []) gC (k_Sl_hasLayer l D K (fun i => d0 (i + 12)) x1 (gLS_slices s0) _ h) wV_LS_121 rfl ⟨by omega, by omega, Nat.zero_le _, Nat.zero_le _⟩ 0 rfl rfl [12, 13, 14, 15, 16, 17, 18, 19] [0, 1, 2, 3, 4, 5, 6, 7, 8, 9, 10, 11, 20, 21, 22, 23, 24, 25, 26, 27, 28, 29, 30, 31, 32, 33, 34] rfl (by decide) rfl (by decide) (by decide) rfl (Nat.le_of_ble_eq_true rfl) d_LS_overhang_5 (fun v w1 hp => ?_)
  obtain ⟨r1, rfl, rfl, h⟩ := hp
  refine v_after (ws' := (w_LS K d0 s0)) (st' := [.int (zI r1)]) [0, 1, 2, 3, 4, 5, 6, 7, 8, 9, 10, 11, 27, 28, 29, 30, 31, 32, 33, 34, 12, 13, 14, 15, 16, 17, 18, 19, 20, 21, 22, 23, 24, 25, 26] (by decide) rfl rfl ?_
  obtain ⟨hg2, h⟩ := h
  refine v_if_eq (tgt := 35) gC d_LS_overhang_8 (by decide) hg2 (fun hc => ?_) (fun hc => ?_)
  · replace h := h.1 hc
    refine v_iconst gC d_LS_overhang_35 ?_
    exact gret _ _ _ _ d_LS_overhang_36 ⟨0, rfl, rfl, h⟩
  · replace h := h.2 hc
    refine v_aload_n gC d_LS_overhang_11 rfl 0 rfl ?_
    refine v_get (v := .ref (d0 20)) gC in_LS 0 rfl rfl 3 (by decide) fl_LS_33 rfl d_LS_overhang_12 ?_
    refine v_get (v := .ref (d0 29)) gC in_So 20 rfl rfl 1 (by decide) fl_LS_156 rfl d_LS_overhang_15 ?_
    refine v_iload_n gC d_LS_overhang_18 rfl 1 rfl ?_
    refine v_bipush gC d_LS_overhang_19 (by decide) ?_
    refine v_imul gC d_LS_overhang_21 (x1 * 12) rfl ?_
    refine v_iload_n gC d_LS_overhang_22 rfl 1 rfl ?_
    refine v_bipush gC d_LS_overhang_23 (by decide) ?_
    refine v_imul gC d_LS_overhang_25 (x1 * 12) rfl ?_
    refine v_bipush gC d_LS_overhang_26 (by decide) ?_
    refine v_iadd gC d_LS_overhang_28 ((x1 * 12) + 12) rfl ?_
    refine v_callS (rest := []) gC (k_LS_countCells l D K (d0 29) (x1 * 12) ((x1 * 12) + 12) 288 (gSo_hanging (gLS_sorter s0)) (by decide) _ h) wS_LS_159 rfl ⟨by omega, by omega, Nat.zero_le _, Nat.zero_le _⟩ [29] [0, 1, 2, 3, 4, 5, 6, 7, 8, 9, 10, 11, 12, 13, 14, 15, 16, 17, 18, 19, 20, 21, 22, 23, 24, 25, 26, 27, 28, 30, 31, 32, 33, 34] rfl (by decide) rfl (by decide) (by decide) rfl (Nat.le_of_ble_eq_true rfl) d_LS_overhang_29 (fun v w1 hp => ?_)
    obtain ⟨r3, rfl, rfl, h⟩ := hp
    refine v_after (ws' := (w_LS K d0 s0)) (st' := [.int (zI r3)]) [0, 1, 2, 3, 4, 5, 6, 7, 8, 9, 10, 11, 12, 13, 14, 15, 16, 17, 18, 19, 20, 21, 22, 23, 24, 25, 26, 27, 28, 34, 29, 30, 31, 32, 33] (by decide) rfl rfl ?_
    refine v_goto (tgt := 36) gC d_LS_overhang_32 (by decide) ?_
    exact gret _ _ _ _ d_LS_overhang_36 ⟨r3, rfl, rfl, h⟩

set_option maxHeartbeats 4000000 in
set_option maxRecDepth 100000 in
theorem k_LS_volume (l : Launch) (D : va_G) (K : Nat → ClassId) (d0 : Nat → Nat) (x1 : Int) (s0 : s_LS) (Q : Int → Prop) (h : wp_LS_volume x1 s0 Q) : Kt l D K y_LS_volume b_LS_volume 2 (some .int) 2 44 [.ref (d0 0), .int (zI x1)] (w_LS K d0 s0) (fun v w1 => ∃ (r : Int), v = some (.int (zI r)) ∧ w1 = (w_LS K d0 s0) ∧ Q r) := by
  refine Kt.ofI (by decide +kernel) (Nat.le_of_ble_eq_true rfl) (lv0 := [(0, .ref (d0 0)), (1, .int (zI x1))]) rfl ?_
  intro gp ge gR gs gm ga gb gh gc gA gQ gRf gRl gC gret
  unfold wp_LS_volume at h
  refine v_iload_n gC d_LS_volume_0 rfl 1 rfl ?_
  obtain ⟨hg1, h⟩ := h
  refine v_if_lt (tgt := 36) gC d_LS_volume_1 (by decide) hg1 (fun hc => ?_) (fun hc => ?_)
  · replace h := h.1 hc
    refine v_iconst gC d_LS_volume_36 ?_
    exact gret _ _ _ _ d_LS_volume_37 ⟨(-1), rfl, rfl, h⟩
  · replace h := h.2 hc
    refine v_iload_n gC d_LS_volume_4 rfl 1 rfl ?_
    refine v_bipush gC d_LS_volume_5 (by decide) ?_
    refine v_icmp_ge (tgt := 36) gC d_LS_volume_7 (by decide) hg1 (by decide) (fun hc => ?_) (fun hc => ?_)
    · replace h := h.1 hc
      refine v_iconst gC d_LS_volume_36 ?_
      exact gret _ _ _ _ d_LS_volume_37 ⟨(-1), rfl, rfl, h⟩
    · replace h := h.2 hc
      refine v_aload_n gC d_LS_volume_10 rfl 0 rfl ?_
      refine v_get (v := .ref (d0 20)) gC in_LS 0 rfl rfl 3 (by decide) fl_LS_33 rfl d_LS_volume_11 ?_
      refine v_get (v := .ref (d0 21)) gC in_So 20 rfl rfl 0 (by decide) fl_LS_163 rfl d_LS_volume_14 ?_
      refine v_iload_n gC d_LS_volume_17 rfl 1 rfl ?_
      obtain ⟨hg2, h⟩ := h
      rcases ix_7 hg2 with rfl | rfl | rfl | rfl | rfl | rfl | rfl
      · skip
        refine v_aald (y := d0 22) gC 21 3 rfl rfl (by decide) rfl (by decide) rfl d_LS_volume_18 ?_
        refine v_iconst gC d_LS_volume_19 ?_
        refine v_aload_n gC d_LS_volume_20 rfl 0 rfl ?_
        refine v_get (v := .ref (d0 12)) gC in_LS 0 rfl rfl 2 (by decide) fl_LS_26 rfl d_LS_volume_21 ?_
        refine v_get (v := .int (zI (gSl_count (gLS_slices s0)))) gC in_Sl 12 rfl rfl 0 (by decide) fl_LS_94 rfl d_LS_volume_24 ?_
        refine v_bipush gC d_LS_volume_27 (by decide) ?_
        refine v_imul gC d_LS_volume_29 ((gSl_count (gLS_slices s0)) * 12) rfl ?_
        refine v_callS (rest := []) gC (k_LS_countCells l D K (d0 22) 0 ((gSl_count (gLS_slices s0)) * 12) 288 (rSo_rowsOfKind (gLS_sorter s0) 0) (by decide) _ h) wS_LS_159 rfl ⟨by omega, by omega, Nat.zero_le _, Nat.zero_le _⟩ [22] [0, 1, 2, 3, 4, 5, 6, 7, 8, 9, 10, 11, 12, 13, 14, 15, 16, 17, 18, 19, 20, 21, 23, 24, 25, 26, 27, 28, 29, 30, 31, 32, 33, 34] rfl (by decide) rfl (by decide) (by decide) rfl (Nat.le_of_ble_eq_true rfl) d_LS_volume_30 (fun v w1 hp => ?_)
        obtain ⟨r3, rfl, rfl, h⟩ := hp
        refine v_after (ws' := (w_LS K d0 s0)) (st' := [.int (zI r3)]) [0, 1, 2, 3, 4, 5, 6, 7, 8, 9, 10, 11, 12, 13, 14, 15, 16, 17, 18, 19, 20, 21, 34, 22, 23, 24, 25, 26, 27, 28, 29, 30, 31, 32, 33] (by decide) rfl rfl ?_
        refine v_goto (tgt := 37) gC d_LS_volume_33 (by decide) ?_
        exact gret _ _ _ _ d_LS_volume_37 ⟨r3, rfl, rfl, h⟩
      · skip
        refine v_aald (y := d0 23) gC 21 3 rfl rfl (by decide) rfl (by decide) rfl d_LS_volume_18 ?_
        refine v_iconst gC d_LS_volume_19 ?_
        refine v_aload_n gC d_LS_volume_20 rfl 0 rfl ?_
        refine v_get (v := .ref (d0 12)) gC in_LS 0 rfl rfl 2 (by decide) fl_LS_26 rfl d_LS_volume_21 ?_
        refine v_get (v := .int (zI (gSl_count (gLS_slices s0)))) gC in_Sl 12 rfl rfl 0 (by decide) fl_LS_94 rfl d_LS_volume_24 ?_
        refine v_bipush gC d_LS_volume_27 (by decide) ?_
        refine v_imul gC d_LS_volume_29 ((gSl_count (gLS_slices s0)) * 12) rfl ?_
        refine v_callS (rest := []) gC (k_LS_countCells l D K (d0 23) 0 ((gSl_count (gLS_slices s0)) * 12) 288 (rSo_rowsOfKind (gLS_sorter s0) 1) (by decide) _ h) wS_LS_159 rfl ⟨by omega, by omega, Nat.zero_le _, Nat.zero_le _⟩ [23] [0, 1, 2, 3, 4, 5, 6, 7, 8, 9, 10, 11, 12, 13, 14, 15, 16, 17, 18, 19, 20, 21, 22, 24, 25, 26, 27, 28, 29, 30, 31, 32, 33, 34] rfl (by decide) rfl (by decide) (by decide) rfl (Nat.le_of_ble_eq_true rfl) d_LS_volume_30 (fun v w1 hp => ?_)
        obtain ⟨r3, rfl, rfl, h⟩ := hp
        refine v_after (ws' := (w_LS K d0 s0)) (st' := [.int (zI r3)]) [0, 1, 2, 3, 4, 5, 6, 7, 8, 9, 10, 11, 12, 13, 14, 15, 16, 17, 18, 19, 20, 21, 22, 34, 23, 24, 25, 26, 27, 28, 29, 30, 31, 32, 33] (by decide) rfl rfl ?_
        refine v_goto (tgt := 37) gC d_LS_volume_33 (by decide) ?_
        exact gret _ _ _ _ d_LS_volume_37 ⟨r3, rfl, rfl, h⟩
      · skip
        refine v_aald (y := d0 24) gC 21 3 rfl rfl (by decide) rfl (by decide) rfl d_LS_volume_18 ?_
        refine v_iconst gC d_LS_volume_19 ?_
        refine v_aload_n gC d_LS_volume_20 rfl 0 rfl ?_
        refine v_get (v := .ref (d0 12)) gC in_LS 0 rfl rfl 2 (by decide) fl_LS_26 rfl d_LS_volume_21 ?_
        refine v_get (v := .int (zI (gSl_count (gLS_slices s0)))) gC in_Sl 12 rfl rfl 0 (by decide) fl_LS_94 rfl d_LS_volume_24 ?_
        refine v_bipush gC d_LS_volume_27 (by decide) ?_
        refine v_imul gC d_LS_volume_29 ((gSl_count (gLS_slices s0)) * 12) rfl ?_
        refine v_callS (rest := []) gC (k_LS_countCells l D K (d0 24) 0 ((gSl_count (gLS_slices s0)) * 12) 288 (rSo_rowsOfKind (gLS_sorter s0) 2) (by decide) _ h) wS_LS_159 rfl ⟨by omega, by omega, Nat.zero_le _, Nat.zero_le _⟩ [24] [0, 1, 2, 3, 4, 5, 6, 7, 8, 9, 10, 11, 12, 13, 14, 15, 16, 17, 18, 19, 20, 21, 22, 23, 25, 26, 27, 28, 29, 30, 31, 32, 33, 34] rfl (by decide) rfl (by decide) (by decide) rfl (Nat.le_of_ble_eq_true rfl) d_LS_volume_30 (fun v w1 hp => ?_)
        obtain ⟨r3, rfl, rfl, h⟩ := hp
        refine v_after (ws' := (w_LS K d0 s0)) (st' := [.int (zI r3)]) [0, 1, 2, 3, 4, 5, 6, 7, 8, 9, 10, 11, 12, 13, 14, 15, 16, 17, 18, 19, 20, 21, 22, 23, 34, 24, 25, 26, 27, 28, 29, 30, 31, 32, 33] (by decide) rfl rfl ?_
        refine v_goto (tgt := 37) gC d_LS_volume_33 (by decide) ?_
        exact gret _ _ _ _ d_LS_volume_37 ⟨r3, rfl, rfl, h⟩
      · skip
        refine v_aald (y := d0 25) gC 21 3 rfl rfl (by decide) rfl (by decide) rfl d_LS_volume_18 ?_
        refine v_iconst gC d_LS_volume_19 ?_
        refine v_aload_n gC d_LS_volume_20 rfl 0 rfl ?_
        refine v_get (v := .ref (d0 12)) gC in_LS 0 rfl rfl 2 (by decide) fl_LS_26 rfl d_LS_volume_21 ?_
        refine v_get (v := .int (zI (gSl_count (gLS_slices s0)))) gC in_Sl 12 rfl rfl 0 (by decide) fl_LS_94 rfl d_LS_volume_24 ?_
        refine v_bipush gC d_LS_volume_27 (by decide) ?_
        refine v_imul gC d_LS_volume_29 ((gSl_count (gLS_slices s0)) * 12) rfl ?_
        refine v_callS (rest := []) gC (k_LS_countCells l D K (d0 25) 0 ((gSl_count (gLS_slices s0)) * 12) 288 (rSo_rowsOfKind (gLS_sorter s0) 3) (by decide) _ h) wS_LS_159 rfl ⟨by omega, by omega, Nat.zero_le _, Nat.zero_le _⟩ [25] [0, 1, 2, 3, 4, 5, 6, 7, 8, 9, 10, 11, 12, 13, 14, 15, 16, 17, 18, 19, 20, 21, 22, 23, 24, 26, 27, 28, 29, 30, 31, 32, 33, 34] rfl (by decide) rfl (by decide) (by decide) rfl (Nat.le_of_ble_eq_true rfl) d_LS_volume_30 (fun v w1 hp => ?_)
        obtain ⟨r3, rfl, rfl, h⟩ := hp
        refine v_after (ws' := (w_LS K d0 s0)) (st' := [.int (zI r3)]) [0, 1, 2, 3, 4, 5, 6, 7, 8, 9, 10, 11, 12, 13, 14, 15, 16, 17, 18, 19, 20, 21, 22, 23, 24, 34, 25, 26, 27, 28, 29, 30, 31, 32, 33] (by decide) rfl rfl ?_
        refine v_goto (tgt := 37) gC d_LS_volume_33 (by decide) ?_
        exact gret _ _ _ _ d_LS_volume_37 ⟨r3, rfl, rfl, h⟩
      · skip
        refine v_aald (y := d0 26) gC 21 3 rfl rfl (by decide) rfl (by decide) rfl d_LS_volume_18 ?_
        refine v_iconst gC d_LS_volume_19 ?_
        refine v_aload_n gC d_LS_volume_20 rfl 0 rfl ?_
        refine v_get (v := .ref (d0 12)) gC in_LS 0 rfl rfl 2 (by decide) fl_LS_26 rfl d_LS_volume_21 ?_
        refine v_get (v := .int (zI (gSl_count (gLS_slices s0)))) gC in_Sl 12 rfl rfl 0 (by decide) fl_LS_94 rfl d_LS_volume_24 ?_
        refine v_bipush gC d_LS_volume_27 (by decide) ?_
        refine v_imul gC d_LS_volume_29 ((gSl_count (gLS_slices s0)) * 12) rfl ?_
        refine v_callS (rest := []) gC (k_LS_countCells l D K (d0 26) 0 ((gSl_count (gLS_slices s0)) * 12) 288 (rSo_rowsOfKind (gLS_sorter s0) 4) (by decide) _ h) wS_LS_159 rfl ⟨by omega, by omega, Nat.zero_le _, Nat.zero_le _⟩ [26] [0, 1, 2, 3, 4, 5, 6, 7, 8, 9, 10, 11, 12, 13, 14, 15, 16, 17, 18, 19, 20, 21, 22, 23, 24, 25, 27, 28, 29, 30, 31, 32, 33, 34] rfl (by decide) rfl (by decide) (by decide) rfl (Nat.le_of_ble_eq_true rfl) d_LS_volume_30 (fun v w1 hp => ?_)
        obtain ⟨r3, rfl, rfl, h⟩ := hp
        refine v_after (ws' := (w_LS K d0 s0)) (st' := [.int (zI r3)]) [0, 1, 2, 3, 4, 5, 6, 7, 8, 9, 10, 11, 12, 13, 14, 15, 16, 17, 18, 19, 20, 21, 22, 23, 24, 25, 34, 26, 27, 28, 29, 30, 31, 32, 33] (by decide) rfl rfl ?_
        refine v_goto (tgt := 37) gC d_LS_volume_33 (by decide) ?_
        exact gret _ _ _ _ d_LS_volume_37 ⟨r3, rfl, rfl, h⟩
      · skip
        refine v_aald (y := d0 27) gC 21 3 rfl rfl (by decide) rfl (by decide) rfl d_LS_volume_18 ?_
        refine v_iconst gC d_LS_volume_19 ?_
        refine v_aload_n gC d_LS_volume_20 rfl 0 rfl ?_
        refine v_get (v := .ref (d0 12)) gC in_LS 0 rfl rfl 2 (by decide) fl_LS_26 rfl d_LS_volume_21 ?_
        refine v_get (v := .int (zI (gSl_count (gLS_slices s0)))) gC in_Sl 12 rfl rfl 0 (by decide) fl_LS_94 rfl d_LS_volume_24 ?_
        refine v_bipush gC d_LS_volume_27 (by decide) ?_
        refine v_imul gC d_LS_volume_29 ((gSl_count (gLS_slices s0)) * 12) rfl ?_
        refine v_callS (rest := []) gC (k_LS_countCells l D K (d0 27) 0 ((gSl_count (gLS_slices s0)) * 12) 288 (rSo_rowsOfKind (gLS_sorter s0) 5) (by decide) _ h) wS_LS_159 rfl ⟨by omega, by omega, Nat.zero_le _, Nat.zero_le _⟩ [27] [0, 1, 2, 3, 4, 5, 6, 7, 8, 9, 10, 11, 12, 13, 14, 15, 16, 17, 18, 19, 20, 21, 22, 23, 24, 25, 26, 28, 29, 30, 31, 32, 33, 34] rfl (by decide) rfl (by decide) (by decide) rfl (Nat.le_of_ble_eq_true rfl) d_LS_volume_30 (fun v w1 hp => ?_)
        obtain ⟨r3, rfl, rfl, h⟩ := hp
        refine v_after (ws' := (w_LS K d0 s0)) (st' := [.int (zI r3)]) [0, 1, 2, 3, 4, 5, 6, 7, 8, 9, 10, 11, 12, 13, 14, 15, 16, 17, 18, 19, 20, 21, 22, 23, 24, 25, 26, 34, 27, 28, 29, 30, 31, 32, 33] (by decide) rfl rfl ?_
        refine v_goto (tgt := 37) gC d_LS_volume_33 (by decide) ?_
        exact gret _ _ _ _ d_LS_volume_37 ⟨r3, rfl, rfl, h⟩
      · skip
        refine v_aald (y := d0 28) gC 21 3 rfl rfl (by decide) rfl (by decide) rfl d_LS_volume_18 ?_
        refine v_iconst gC d_LS_volume_19 ?_
        refine v_aload_n gC d_LS_volume_20 rfl 0 rfl ?_
        refine v_get (v := .ref (d0 12)) gC in_LS 0 rfl rfl 2 (by decide) fl_LS_26 rfl d_LS_volume_21 ?_
        refine v_get (v := .int (zI (gSl_count (gLS_slices s0)))) gC in_Sl 12 rfl rfl 0 (by decide) fl_LS_94 rfl d_LS_volume_24 ?_
        refine v_bipush gC d_LS_volume_27 (by decide) ?_
        refine v_imul gC d_LS_volume_29 ((gSl_count (gLS_slices s0)) * 12) rfl ?_
        refine v_callS (rest := []) gC (k_LS_countCells l D K (d0 28) 0 ((gSl_count (gLS_slices s0)) * 12) 288 (rSo_rowsOfKind (gLS_sorter s0) 6) (by decide) _ h) wS_LS_159 rfl ⟨by omega, by omega, Nat.zero_le _, Nat.zero_le _⟩ [28] [0, 1, 2, 3, 4, 5, 6, 7, 8, 9, 10, 11, 12, 13, 14, 15, 16, 17, 18, 19, 20, 21, 22, 23, 24, 25, 26, 27, 29, 30, 31, 32, 33, 34] rfl (by decide) rfl (by decide) (by decide) rfl (Nat.le_of_ble_eq_true rfl) d_LS_volume_30 (fun v w1 hp => ?_)
        obtain ⟨r3, rfl, rfl, h⟩ := hp
        refine v_after (ws' := (w_LS K d0 s0)) (st' := [.int (zI r3)]) [0, 1, 2, 3, 4, 5, 6, 7, 8, 9, 10, 11, 12, 13, 14, 15, 16, 17, 18, 19, 20, 21, 22, 23, 24, 25, 26, 27, 34, 28, 29, 30, 31, 32, 33] (by decide) rfl rfl ?_
        refine v_goto (tgt := 37) gC d_LS_volume_33 (by decide) ?_
        exact gret _ _ _ _ d_LS_volume_37 ⟨r3, rfl, rfl, h⟩

set_option maxHeartbeats 4000000 in
set_option maxRecDepth 100000 in
theorem k_Mo_thrown (l : Launch) (D : va_G) (K : Nat → ClassId) (d0 : Nat → Nat) (s0 : s_Mo) (Q : Int → Prop) (h : wp_Mo_thrown s0 Q) : Kt l D K y_Mo_thrown b_Mo_thrown 1 (some .int) 0 0 [.ref (d0 0)] (w_Mo K d0 s0) (fun v w1 => ∃ (r : Int), v = some (.int (zI r)) ∧ w1 = (w_Mo K d0 s0) ∧ Q r) := by
  refine Kt.ofI (by decide +kernel) (Nat.le_of_ble_eq_true rfl) (lv0 := [(0, .ref (d0 0))]) rfl ?_
  intro gp ge gR gs gm ga gb gh gc gA gQ gRf gRl gC gret
  unfold wp_Mo_thrown at h
  refine v_aload_n gC d_Mo_thrown_0 rfl 0 rfl ?_
  refine v_get (v := .int (zI (gMo_thrown s0))) gC in_Mo 0 rfl rfl 0 (by decide) fl_Mo_60 rfl d_Mo_thrown_1 ?_
  exact gret _ _ _ _ d_Mo_thrown_4 ⟨(gMo_thrown s0), rfl, rfl, h⟩

set_option maxHeartbeats 4000000 in
set_option maxRecDepth 100000 in
theorem k_Mo_in (l : Launch) (D : va_G) (K : Nat → ClassId) (x0 : Int) (x1 : Int) (x2 : Int) (Q : Int → Prop) (h : wp_Mo_in x0 x1 x2 Q) : Kt l D K y_Mo_in b_Mo_in 3 (some .boolean) 0 0 [.int (zI x0), .int (zI x1), .int (zI x2)] [] (fun v w1 => ∃ (r : Int), v = some (.int (zI r)) ∧ w1 = [] ∧ Q r) := by
  refine Kt.ofZ (by decide +kernel) (Nat.le_of_ble_eq_true rfl) (lv0 := [(0, .int (zI x0)), (1, .int (zI x1)), (2, .int (zI x2))]) rfl ?_
  intro gp ge gR gs gm ga gb gh gc gA gQ gRf gRl gC gret
  unfold wp_Mo_in at h
  refine v_iload_n gC d_Mo_in_0 rfl 0 rfl ?_
  refine v_iload_n gC d_Mo_in_1 rfl 1 rfl ?_
  obtain ⟨hg1, hg2, h⟩ := h
  refine v_icmp_lt (tgt := 14) gC d_Mo_in_2 (by decide) hg1 hg2 (fun hc => ?_) (fun hc => ?_)
  · replace h := h.1 hc
    refine v_iconst gC d_Mo_in_14 ?_
    exact gret _ _ _ _ d_Mo_in_15 rfl ⟨0, rfl, rfl, h⟩
  · replace h := h.2 hc
    refine v_iload_n gC d_Mo_in_5 rfl 0 rfl ?_
    refine v_iload_n gC d_Mo_in_6 rfl 2 rfl ?_
    obtain ⟨hg3, h⟩ := h
    refine v_icmp_gt (tgt := 14) gC d_Mo_in_7 (by decide) hg1 hg3 (fun hc => ?_) (fun hc => ?_)
    · replace h := h.1 hc
      refine v_iconst gC d_Mo_in_14 ?_
      exact gret _ _ _ _ d_Mo_in_15 rfl ⟨0, rfl, rfl, h⟩
    · replace h := h.2 hc
      refine v_iconst gC d_Mo_in_10 ?_
      refine v_goto (tgt := 15) gC d_Mo_in_11 (by decide) ?_
      exact gret _ _ _ _ d_Mo_in_15 rfl ⟨1, rfl, rfl, h⟩
