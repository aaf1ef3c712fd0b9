set_option maxHeartbeats 4000000 in
set_option maxRecDepth 100000 in
theorem k_Sl_rowNearSolid (l : Launch) (D : va_G) (K : Nat → ClassId) (d0 : Nat → Nat) (x1 : Int) (x2 : Int) (x3 : Int) (s0 : s_Sl) (Q : Int → Prop) (h : wp_Sl_rowNearSolid x1 x2 x3 s0 Q) : Kt l D K y_Sl_rowNearSolid b_Sl_rowNearSolid 8 (some .int) 3 65 [.ref (d0 0), .int (zI x1), .int (zI x2), .int (zI x3)] (w_Sl K d0 s0) (fun v w1 => ∃ (r : Int), v = some (.int (zI r)) ∧ w1 = (w_Sl K d0 s0) ∧ Q r) := by
  refine Kt.ofI (by decide +kernel) (Nat.le_of_ble_eq_true rfl) (lv0 := [(0, .ref (d0 0)), (1, .int (zI x1)), (2, .int (zI x2)), (3, .int (zI x3))]) rfl ?_
  intro gp ge gR gs gm ga gb gh gc gA gQ gRf gRl gC gret
  unfold wp_Sl_rowNearSolid at h
  replace h := h
    (fun (v4 : Int) (v5 : Int) => V gp l ge gR gs gm ga gb gh gc D gA 8 0 0 gQ (w_Sl K d0 s0) 7 [(0, .ref (d0 0)), (1, .int (zI x1)), (2, .int (zI x2)), (3, .int (zI x3)), (4, .int (zI v4)), (5, .int (zI v5))] [])
    (fun (v4 : Int) (v5 : Int) (v6 : Int) (v7 : Int) => V gp l ge gR gs gm ga gb gh gc D gA 8 0 0 gQ (w_Sl K d0 s0) 27 [(0, .ref (d0 0)), (1, .int (zI x1)), (2, .int (zI x2)), (3, .int (zI x3)), (4, .int (zI v4)), (5, .int (zI v5)), (6, .int (zI v6)), (7, .int (zI v7))] [])
    (by
      intro v4 v5 h
      refine v_iload gC d_Sl_rowNearSolid_7 5 rfl ?_
      refine v_iload_n gC d_Sl_rowNearSolid_9 rfl 3 rfl ?_
      obtain ⟨hg1, hg2, h⟩ := h
      refine v_icmp_gt (tgt := 61) gC d_Sl_rowNearSolid_10 (by decide) hg1 hg2 (fun hc => ?_) (fun hc => ?_)
      · replace h := h.1 hc
        refine v_iload gC d_Sl_rowNearSolid_61 4 rfl ?_
        refine v_sipush gC d_Sl_rowNearSolid_63 (by decide) ?_
        refine v_iand gC d_Sl_rowNearSolid_66 ?_
        exact gret _ _ _ _ d_Sl_rowNearSolid_67 ⟨iand v4 4095, rfl, rfl, h⟩
      · replace h := h.2 hc
        refine v_aload_n gC d_Sl_rowNearSolid_13 rfl 0 rfl ?_
        refine v_iload_n gC d_Sl_rowNearSolid_14 rfl 1 rfl ?_
        refine v_iload_n gC d_Sl_rowNearSolid_15 rfl 2 rfl ?_
        refine v_iload gC d_Sl_rowNearSolid_16 5 rfl ?_
        refine v_iadd gC d_Sl_rowNearSolid_18 (x2 + v5) rfl ?_
        refine v_callV (rest := []) gC (k_Sl_solidRow l D K d0 x1 (x2 + v5) s0 _ h) wV_Sl_56 rfl ⟨by omega, by omega, Nat.zero_le _, Nat.zero_le _⟩ 0 rfl rfl [0, 1, 2, 3, 4, 5, 6, 7] [] rfl (by decide) rfl (by decide) (by decide) rfl (Nat.le_of_ble_eq_true rfl) d_Sl_rowNearSolid_19 (fun v w1 hp => ?_)
        obtain ⟨r3, rfl, rfl, h⟩ := hp
        refine v_after (ws' := (w_Sl K d0 s0)) (st' := [.int (zI r3)]) [0, 1, 2, 3, 4, 5, 6, 7] (by decide) rfl rfl ?_
        refine v_istore (lv' := [(0, .ref (d0 0)), (1, .int (zI x1)), (2, .int (zI x2)), (3, .int (zI x3)), (4, .int (zI v4)), (5, .int (zI v5)), (6, .int (zI r3))]) gC d_Sl_rowNearSolid_22 (by decide) [1, 2, 3, 4, 5, 6, 0] rfl ?_
        refine v_iconst gC d_Sl_rowNearSolid_24 ?_
        refine v_istore (lv' := [(0, .ref (d0 0)), (1, .int (zI x1)), (2, .int (zI x2)), (3, .int (zI x3)), (4, .int (zI v4)), (5, .int (zI v5)), (6, .int (zI r3)), (7, .int (zI 0))]) gC d_Sl_rowNearSolid_25 (by decide) [1, 2, 3, 4, 5, 6, 7, 0] rfl ?_
        refine v_loc (lv' := [(0, .ref (d0 0)), (1, .int (zI x1)), (2, .int (zI x2)), (3, .int (zI x3)), (4, .int (zI v4)), (5, .int (zI v5)), (6, .int (zI r3)), (7, .int (zI 0))]) [0, 1, 2, 3, 4, 5, 6, 7] rfl ?_
        exact h)
    (by
      intro v4 v5 v6 v7 h
      refine v_iload gC d_Sl_rowNearSolid_27 7 rfl ?_
      refine v_iload_n gC d_Sl_rowNearSolid_29 rfl 3 rfl ?_
      obtain ⟨hg4, hg5, h⟩ := h
      refine v_icmp_gt (tgt := 55) gC d_Sl_rowNearSolid_30 (by decide) hg4 hg5 (fun hc => ?_) (fun hc => ?_)
      · replace h := h.1 hc
        refine v_iinc (lv' := [(0, .ref (d0 0)), (1, .int (zI x1)), (2, .int (zI x2)), (3, .int (zI x3)), (4, .int (zI v4)), (5, .int (zI (v5 + 1))), (6, .int (zI v6)), (7, .int (zI v7))]) gC d_Sl_rowNearSolid_55 5 rfl (by decide) (v5 + 1) rfl [1, 2, 3, 4, 5, 0, 6, 7] rfl ?_
        refine v_goto (tgt := 7) gC d_Sl_rowNearSolid_58 (by decide) ?_
        refine v_loc (lv' := [(0, .ref (d0 0)), (1, .int (zI x1)), (2, .int (zI x2)), (3, .int (zI x3)), (4, .int (zI v4)), (5, .int (zI (v5 + 1)))]) [0, 1, 2, 3, 4, 5] rfl ?_
        exact h
      · replace h := h.2 hc
        refine v_iload gC d_Sl_rowNearSolid_33 4 rfl ?_
        refine v_iload gC d_Sl_rowNearSolid_35 6 rfl ?_
        refine v_iload gC d_Sl_rowNearSolid_37 7 rfl ?_
        obtain ⟨hg6, hg7, h⟩ := h
        refine v_ishr gC d_Sl_rowNearSolid_39 hg7 hg6 ?_
        refine v_iload gC d_Sl_rowNearSolid_40 6 rfl ?_
        refine v_iload gC d_Sl_rowNearSolid_42 7 rfl ?_
        obtain ⟨hg8, h⟩ := h
        refine v_ishl gC d_Sl_rowNearSolid_44 hg8 ?_
        refine v_ior gC d_Sl_rowNearSolid_45 ?_
        refine v_ior gC d_Sl_rowNearSolid_46 ?_
        refine v_istore (lv' := [(0, .ref (d0 0)), (1, .int (zI x1)), (2, .int (zI x2)), (3, .int (zI x3)), (4, .int (zI (ior v4 (ior (v6 / 2 ^ Int.toNat v7) (v6 * 2 ^ Int.toNat v7))))), (5, .int (zI v5)), (6, .int (zI v6)), (7, .int (zI v7))]) gC d_Sl_rowNearSolid_47 (by decide) [1, 2, 3, 4, 0, 5, 6, 7] rfl ?_
        refine v_iinc (lv' := [(0, .ref (d0 0)), (1, .int (zI x1)), (2, .int (zI x2)), (3, .int (zI x3)), (4, .int (zI (ior v4 (ior (v6 / 2 ^ Int.toNat v7) (v6 * 2 ^ Int.toNat v7))))), (5, .int (zI v5)), (6, .int (zI v6)), (7, .int (zI (v7 + 1)))]) gC d_Sl_rowNearSolid_49 7 rfl (by decide) (v7 + 1) rfl [1, 2, 3, 4, 5, 6, 7, 0] rfl ?_
        refine v_goto (tgt := 27) gC d_Sl_rowNearSolid_52 (by decide) ?_
        refine v_loc (lv' := [(0, .ref (d0 0)), (1, .int (zI x1)), (2, .int (zI x2)), (3, .int (zI x3)), (4, .int (zI (ior v4 (ior (v6 / 2 ^ Int.toNat v7) (v6 * 2 ^ Int.toNat v7))))), (5, .int (zI v5)), (6, .int (zI v6)), (7, .int (zI (v7 + 1)))]) [0, 1, 2, 3, 4, 5, 6, 7] rfl ?_
        exact h)
  refine v_iconst gC d_Sl_rowNearSolid_0 ?_
  refine v_istore (lv' := [(0, .ref (d0 0)), (1, .int (zI x1)), (2, .int (zI x2)), (3, .int (zI x3)), (4, .int (zI 0))]) gC d_Sl_rowNearSolid_1 (by decide) [1, 2, 3, 4, 0] rfl ?_
  refine v_iload_n gC d_Sl_rowNearSolid_3 rfl 3 rfl ?_
  refine v_ineg gC d_Sl_rowNearSolid_4 ?_
  refine v_istore (lv' := [(0, .ref (d0 0)), (1, .int (zI x1)), (2, .int (zI x2)), (3, .int (zI x3)), (4, .int (zI 0)), (5, .int (zI (-x3)))]) gC d_Sl_rowNearSolid_5 (by decide) [1, 2, 3, 4, 5, 0] rfl ?_
  refine v_loc (lv' := [(0, .ref (d0 0)), (1, .int (zI x1)), (2, .int (zI x2)), (3, .int (zI x3)), (4, .int (zI 0)), (5, .int (zI (-x3)))]) [0, 1, 2, 3, 4, 5] rfl ?_
  exact h

set_option maxHeartbeats 4000000 in
set_option maxRecDepth 100000 in
theorem k_So_sortSolid (l : Launch) (D : va_G) (K : Nat → ClassId) (d0 : Nat → Nat) (d1 : Nat → Nat) (x2 : Int) (x3 : Int) (s0 : s_So) (s1 : s_Sl) (Q : s_So → Prop) (h : wp_So_sortSolid x2 x3 s0 s1 Q) : Kt l D K y_So_sortSolid b_So_sortSolid 9 none 4 92 [.ref (d0 0), .ref (d1 0), .int (zI x2), .int (zI x3)] (w_So K d0 s0 ++ w_Sl K d1 s1) (fun v w1 => ∃ (u0 : s_So), v = none ∧ w1 = (w_So K d0 u0 ++ w_Sl K d1 s1) ∧ Q u0) := by
  refine Kt.ofV (by decide +kernel) (Nat.le_of_ble_eq_true rfl) (lv0 := [(0, .ref (d0 0)), (1, .ref (d1 0)), (2, .int (zI x2)), (3, .int (zI x3))]) rfl ?_
  intro gp ge gR gs gm ga gb gh gc gA gQ gRf gRl gC gret
  unfold wp_So_sortSolid at h
  refine v_iload_n gC d_So_sortSolid_0 rfl 2 rfl ?_
  refine v_bipush gC d_So_sortSolid_1 (by decide) ?_
  refine v_imul gC d_So_sortSolid_3 (x2 * 12) rfl ?_
  refine v_iload_n gC d_So_sortSolid_4 rfl 3 rfl ?_
  refine v_iadd gC d_So_sortSolid_5 ((x2 * 12) + x3) rfl ?_
  refine v_istore (lv' := [(0, .ref (d0 0)), (1, .ref (d1 0)), (2, .int (zI x2)), (3, .int (zI x3)), (4, .int (zI ((x2 * 12) + x3)))]) gC d_So_sortSolid_6 (by decide) [1, 2, 3, 4, 0] rfl ?_
  refine v_aload_n gC d_So_sortSolid_8 rfl 1 rfl ?_
  refine v_iload_n gC d_So_sortSolid_9 rfl 2 rfl ?_
  refine v_iload_n gC d_So_sortSolid_10 rfl 3 rfl ?_
  refine v_callV (rest := []) gC (k_Sl_solidRow l D K d1 x2 x3 s1 _ h) wV_So_53 rfl ⟨by omega, by omega, Nat.zero_le _, Nat.zero_le _⟩ 0 rfl rfl [10, 11, 12, 13, 14, 15, 16, 17] [0, 1, 2, 3, 4, 5, 6, 7, 8, 9] rfl (by decide) rfl (by decide) (by decide) rfl (Nat.le_of_ble_eq_true rfl) d_So_sortSolid_11 (fun v w1 hp => ?_)
  obtain ⟨r1, rfl, rfl, h⟩ := hp
  refine v_after (ws' := (w_So K d0 s0 ++ w_Sl K d1 s1)) (st' := [.int (zI r1)]) [0, 1, 2, 3, 4, 5, 6, 7, 8, 9, 10, 11, 12, 13, 14, 15, 16, 17] (by decide) rfl rfl ?_
  refine v_istore (lv' := [(0, .ref (d0 0)), (1, .ref (d1 0)), (2, .int (zI x2)), (3, .int (zI x3)), (4, .int (zI ((x2 * 12) + x3))), (5, .int (zI r1))]) gC d_So_sortSolid_14 (by decide) [1, 2, 3, 4, 5, 0] rfl ?_
  refine v_iload gC d_So_sortSolid_16 5 rfl ?_
  refine v_aload_n gC d_So_sortSolid_18 rfl 1 rfl ?_
  refine v_iload_n gC d_So_sortSolid_19 rfl 2 rfl ?_
  refine v_iload_n gC d_So_sortSolid_20 rfl 3 rfl ?_
  refine v_aload_n gC d_So_sortSolid_21 rfl 0 rfl ?_
  refine v_get (v := .int (zI (gSo_shell s0))) gC in_So 0 rfl rfl 2 (by decide) fl_So_20 rfl d_So_sortSolid_22 ?_
  refine v_callV (rest := [.int (zI r1)]) gC (k_Sl_rowAmongSolid l D K d1 x2 x3 (gSo_shell s0) s1 _ h) wV_So_57 rfl ⟨by omega, by omega, Nat.zero_le _, Nat.zero_le _⟩ 0 rfl rfl [10, 11, 12, 13, 14, 15, 16, 17] [0, 1, 2, 3, 4, 5, 6, 7, 8, 9] rfl (by decide) rfl (by decide) (by decide) rfl (Nat.le_of_ble_eq_true rfl) d_So_sortSolid_25 (fun v w1 hp => ?_)
  obtain ⟨r2, rfl, rfl, h⟩ := hp
  refine v_after (ws' := (w_So K d0 s0 ++ w_Sl K d1 s1)) (st' := [.int (zI r2), .int (zI r1)]) [0, 1, 2, 3, 4, 5, 6, 7, 8, 9, 10, 11, 12, 13, 14, 15, 16, 17] (by decide) rfl rfl ?_
  refine v_iand gC d_So_sortSolid_28 ?_
  refine v_istore (lv' := [(0, .ref (d0 0)), (1, .ref (d1 0)), (2, .int (zI x2)), (3, .int (zI x3)), (4, .int (zI ((x2 * 12) + x3))), (5, .int (zI r1)), (6, .int (zI (iand r1 r2)))]) gC d_So_sortSolid_29 (by decide) [1, 2, 3, 4, 5, 6, 0] rfl ?_
  refine v_iload gC d_So_sortSolid_31 6 rfl ?_
  refine v_aload_n gC d_So_sortSolid_33 rfl 0 rfl ?_
  refine v_aload_n gC d_So_sortSolid_34 rfl 1 rfl ?_
  refine v_iload_n gC d_So_sortSolid_35 rfl 2 rfl ?_
  refine v_iload_n gC d_So_sortSolid_36 rfl 3 rfl ?_
  refine v_callV (rest := [.int (zI (iand r1 r2))]) gC (k_So_rowBetweenSolid l D K d0 d1 x2 x3 s0 s1 _ h) wV_So_61 rfl ⟨by omega, by omega, Nat.zero_le _, Nat.zero_le _⟩ 0 rfl rfl [0, 1, 2, 3, 4, 5, 6, 7, 8, 9, 10, 11, 12, 13, 14, 15, 16, 17] [] rfl (by decide) rfl (by decide) (by decide) rfl (Nat.le_of_ble_eq_true rfl) d_So_sortSolid_37 (fun v w1 hp => ?_)
  obtain ⟨r3, rfl, rfl, h⟩ := hp
  refine v_after (ws' := (w_So K d0 s0 ++ w_Sl K d1 s1)) (st' := [.int (zI r3), .int (zI (iand r1 r2))]) [0, 1, 2, 3, 4, 5, 6, 7, 8, 9, 10, 11, 12, 13, 14, 15, 16, 17] (by decide) rfl rfl ?_
  refine v_iand gC d_So_sortSolid_40 ?_
  refine v_istore (lv' := [(0, .ref (d0 0)), (1, .ref (d1 0)), (2, .int (zI x2)), (3, .int (zI x3)), (4, .int (zI ((x2 * 12) + x3))), (5, .int (zI r1)), (6, .int (zI (iand r1 r2))), (7, .int (zI (iand (iand r1 r2) r3)))]) gC d_So_sortSolid_41 (by decide) [1, 2, 3, 4, 5, 6, 7, 0] rfl ?_
  refine v_aload_n gC d_So_sortSolid_43 rfl 0 rfl ?_
  refine v_iload_n gC d_So_sortSolid_44 rfl 2 rfl ?_
  refine v_iload_n gC d_So_sortSolid_45 rfl 3 rfl ?_
  refine v_callV (rest := []) gC (k_So_lineCells l D K d0 x2 x3 s0 _ h) wV_So_65 rfl ⟨by omega, by omega, Nat.zero_le _, Nat.zero_le _⟩ 0 rfl rfl [0, 1, 2, 3, 4, 5, 6, 7, 8, 9] [10, 11, 12, 13, 14, 15, 16, 17] rfl (by decide) rfl (by decide) (by decide) rfl (Nat.le_of_ble_eq_true rfl) d_So_sortSolid_46 (fun v w1 hp => ?_)
  obtain ⟨r4, rfl, rfl, h⟩ := hp
  refine v_after (ws' := (w_So K d0 s0 ++ w_Sl K d1 s1)) (st' := [.int (zI r4)]) [8, 9, 10, 11, 12, 13, 14, 15, 16, 17, 0, 1, 2, 3, 4, 5, 6, 7] (by decide) rfl rfl ?_
  refine v_istore (lv' := [(0, .ref (d0 0)), (1, .ref (d1 0)), (2, .int (zI x2)), (3, .int (zI x3)), (4, .int (zI ((x2 * 12) + x3))), (5, .int (zI r1)), (6, .int (zI (iand r1 r2))), (7, .int (zI (iand (iand r1 r2) r3))), (8, .int (zI r4))]) gC d_So_sortSolid_49 (by decide) [1, 2, 3, 4, 5, 6, 7, 8, 0] rfl ?_
  refine v_aload_n gC d_So_sortSolid_51 rfl 0 rfl ?_
  refine v_get (v := .ref (d0 1)) gC in_So 0 rfl rfl 0 (by decide) fl_So_11 rfl d_So_sortSolid_52 ?_
  refine v_iconst gC d_So_sortSolid_55 ?_
  refine v_aald (y := d0 3) gC 1 3 rfl rfl (by decide) rfl (by decide) rfl d_So_sortSolid_56 ?_
  refine v_iload gC d_So_sortSolid_57 4 rfl ?_
  refine v_iload gC d_So_sortSolid_59 5 rfl ?_
  refine v_iload gC d_So_sortSolid_61 6 rfl ?_
  refine v_iconst gC d_So_sortSolid_63 ?_
  refine v_inot gC d_So_sortSolid_64 ?_
  refine v_iand gC d_So_sortSolid_65 ?_
  obtain ⟨hg5, h⟩ := h
  refine v_iast (g := (gSo_rowsOfKind1 s0)) (ws' := (w_So K d0 (mkSo (gSo_rowsOfKind0 s0) (iset (gSo_rowsOfKind1 s0) ((x2 * 12) + x3) (iand r1 (-1 - (iand r1 r2)))) (gSo_rowsOfKind2 s0) (gSo_rowsOfKind3 s0) (gSo_rowsOfKind4 s0) (gSo_rowsOfKind5 s0) (gSo_rowsOfKind6 s0) (gSo_hanging s0) (gSo_shell s0) (gSo_skin s0) (gSo_period s0) (gSo_reach s0) (gSo_gap s0)) ++ w_Sl K d1 s1)) gC 3 0 rfl rfl hg5 rfl (by decide) rfl d_So_sortSolid_66 ?_
  refine v_aload_n gC d_So_sortSolid_67 rfl 0 rfl ?_
  refine v_get (v := .ref (d0 1)) gC in_So 0 rfl rfl 0 (by decide) fl_So_11 rfl d_So_sortSolid_68 ?_
  refine v_iconst gC d_So_sortSolid_71 ?_
  refine v_aald (y := d0 4) gC 1 3 rfl rfl (by decide) rfl (by decide) rfl d_So_sortSolid_72 ?_
  refine v_iload gC d_So_sortSolid_73 4 rfl ?_
  refine v_iload gC d_So_sortSolid_75 6 rfl ?_
  refine v_iload gC d_So_sortSolid_77 7 rfl ?_
  refine v_iconst gC d_So_sortSolid_79 ?_
  refine v_inot gC d_So_sortSolid_80 ?_
  refine v_iand gC d_So_sortSolid_81 ?_
  refine v_iast (g := (gSo_rowsOfKind2 s0)) (ws' := (w_So K d0 (mkSo (gSo_rowsOfKind0 s0) (iset (gSo_rowsOfKind1 s0) ((x2 * 12) + x3) (iand r1 (-1 - (iand r1 r2)))) (iset (gSo_rowsOfKind2 s0) ((x2 * 12) + x3) (iand (iand r1 r2) (-1 - (iand (iand r1 r2) r3)))) (gSo_rowsOfKind3 s0) (gSo_rowsOfKind4 s0) (gSo_rowsOfKind5 s0) (gSo_rowsOfKind6 s0) (gSo_hanging s0) (gSo_shell s0) (gSo_skin s0) (gSo_period s0) (gSo_reach s0) (gSo_gap s0)) ++ w_Sl K d1 s1)) gC 4 0 rfl rfl hg5 rfl (by decide) rfl d_So_sortSolid_82 ?_
  refine v_aload_n gC d_So_sortSolid_83 rfl 0 rfl ?_
  refine v_get (v := .ref (d0 1)) gC in_So 0 rfl rfl 0 (by decide) fl_So_11 rfl d_So_sortSolid_84 ?_
  refine v_iconst gC d_So_sortSolid_87 ?_
  refine v_aald (y := d0 5) gC 1 3 rfl rfl (by decide) rfl (by decide) rfl d_So_sortSolid_88 ?_
  refine v_iload gC d_So_sortSolid_89 4 rfl ?_
  refine v_iload gC d_So_sortSolid_91 7 rfl ?_
  refine v_iload gC d_So_sortSolid_93 8 rfl ?_
  refine v_iand gC d_So_sortSolid_95 ?_
  refine v_iast (g := (gSo_rowsOfKind3 s0)) (ws' := (w_So K d0 (mkSo (gSo_rowsOfKind0 s0) (iset (gSo_rowsOfKind1 s0) ((x2 * 12) + x3) (iand r1 (-1 - (iand r1 r2)))) (iset (gSo_rowsOfKind2 s0) ((x2 * 12) + x3) (iand (iand r1 r2) (-1 - (iand (iand r1 r2) r3)))) (iset (gSo_rowsOfKind3 s0) ((x2 * 12) + x3) (iand (iand (iand r1 r2) r3) r4)) (gSo_rowsOfKind4 s0) (gSo_rowsOfKind5 s0) (gSo_rowsOfKind6 s0) (gSo_hanging s0) (gSo_shell s0) (gSo_skin s0) (gSo_period s0) (gSo_reach s0) (gSo_gap s0)) ++ w_Sl K d1 s1)) gC 5 0 rfl rfl hg5 rfl (by decide) rfl d_So_sortSolid_96 ?_
  refine v_aload_n gC d_So_sortSolid_97 rfl 0 rfl ?_
  refine v_get (v := .ref (d0 1)) gC in_So 0 rfl rfl 0 (by decide) fl_So_11 rfl d_So_sortSolid_98 ?_
  refine v_iconst gC d_So_sortSolid_101 ?_
  refine v_aald (y := d0 6) gC 1 3 rfl rfl (by decide) rfl (by decide) rfl d_So_sortSolid_102 ?_
  refine v_iload gC d_So_sortSolid_103 4 rfl ?_
  refine v_iload gC d_So_sortSolid_105 7 rfl ?_
  refine v_iload gC d_So_sortSolid_107 8 rfl ?_
  refine v_iconst gC d_So_sortSolid_109 ?_
  refine v_inot gC d_So_sortSolid_110 ?_
  refine v_iand gC d_So_sortSolid_111 ?_
  refine v_iast (g := (gSo_rowsOfKind4 s0)) (ws' := (w_So K d0 (mkSo (gSo_rowsOfKind0 s0) (iset (gSo_rowsOfKind1 s0) ((x2 * 12) + x3) (iand r1 (-1 - (iand r1 r2)))) (iset (gSo_rowsOfKind2 s0) ((x2 * 12) + x3) (iand (iand r1 r2) (-1 - (iand (iand r1 r2) r3)))) (iset (gSo_rowsOfKind3 s0) ((x2 * 12) + x3) (iand (iand (iand r1 r2) r3) r4)) (iset (gSo_rowsOfKind4 s0) ((x2 * 12) + x3) (iand (iand (iand r1 r2) r3) (-1 - r4))) (gSo_rowsOfKind5 s0) (gSo_rowsOfKind6 s0) (gSo_hanging s0) (gSo_shell s0) (gSo_skin s0) (gSo_period s0) (gSo_reach s0) (gSo_gap s0)) ++ w_Sl K d1 s1)) gC 6 0 rfl rfl hg5 rfl (by decide) rfl d_So_sortSolid_112 ?_
  refine v_aload_n gC d_So_sortSolid_113 rfl 0 rfl ?_
  refine v_get (v := .ref (d0 9)) gC in_So 0 rfl rfl 1 (by decide) fl_So_16 rfl d_So_sortSolid_114 ?_
  refine v_iload gC d_So_sortSolid_117 4 rfl ?_
  refine v_iload_n gC d_So_sortSolid_119 rfl 2 rfl ?_
  obtain ⟨hg6, h⟩ := h
  refine v_if_le (tgt := 143) gC d_So_sortSolid_120 (by decide) hg6 (fun hc => ?_) (fun hc => ?_)
  · replace h := h.1 hc
    refine v_iconst gC d_So_sortSolid_143 ?_
    refine v_iast (g := (gSo_hanging s0)) (ws' := (w_So K d0 (mkSo (gSo_rowsOfKind0 s0) (iset (gSo_rowsOfKind1 s0) ((x2 * 12) + x3) (iand r1 (-1 - (iand r1 r2)))) (iset (gSo_rowsOfKind2 s0) ((x2 * 12) + x3) (iand (iand r1 r2) (-1 - (iand (iand r1 r2) r3)))) (iset (gSo_rowsOfKind3 s0) ((x2 * 12) + x3) (iand (iand (iand r1 r2) r3) r4)) (iset (gSo_rowsOfKind4 s0) ((x2 * 12) + x3) (iand (iand (iand r1 r2) r3) (-1 - r4))) (gSo_rowsOfKind5 s0) (gSo_rowsOfKind6 s0) (iset (gSo_hanging s0) ((x2 * 12) + x3) 0) (gSo_shell s0) (gSo_skin s0) (gSo_period s0) (gSo_reach s0) (gSo_gap s0)) ++ w_Sl K d1 s1)) gC 9 0 rfl rfl hg5 rfl (by decide) rfl d_So_sortSolid_144 ?_
    exact gret _ _ _ d_So_sortSolid_145 ⟨(mkSo (gSo_rowsOfKind0 s0) (iset (gSo_rowsOfKind1 s0) ((x2 * 12) + x3) (iand r1 (-1 - (iand r1 r2)))) (iset (gSo_rowsOfKind2 s0) ((x2 * 12) + x3) (iand (iand r1 r2) (-1 - (iand (iand r1 r2) r3)))) (iset (gSo_rowsOfKind3 s0) ((x2 * 12) + x3) (iand (iand (iand r1 r2) r3) r4)) (iset (gSo_rowsOfKind4 s0) ((x2 * 12) + x3) (iand (iand (iand r1 r2) r3) (-1 - r4))) (gSo_rowsOfKind5 s0) (gSo_rowsOfKind6 s0) (iset (gSo_hanging s0) ((x2 * 12) + x3) 0) (gSo_shell s0) (gSo_skin s0) (gSo_period s0) (gSo_reach s0) (gSo_gap s0)), rfl, rfl, h⟩
  · replace h := h.2 hc
    refine v_iload gC d_So_sortSolid_123 5 rfl ?_
    refine v_aload_n gC d_So_sortSolid_125 rfl 1 rfl ?_
    refine v_iload_n gC d_So_sortSolid_126 rfl 2 rfl ?_
    refine v_iconst gC d_So_sortSolid_127 ?_
    refine v_isub gC d_So_sortSolid_128 (x2 - 1) rfl ?_
    refine v_iload_n gC d_So_sortSolid_129 rfl 3 rfl ?_
    refine v_aload_n gC d_So_sortSolid_130 rfl 0 rfl ?_
    refine v_get (v := .int (zI (gSo_reach s0))) gC in_So 0 rfl rfl 5 (by decide) fl_So_30 rfl d_So_sortSolid_131 ?_
    refine v_callV (rest := [.int (zI r1), .int (zI ((x2 * 12) + x3)), .ref (d0 9)]) gC (k_Sl_rowNearSolid l D K d1 (x2 - 1) x3 (gSo_reach s0) s1 _ h) wV_So_68 rfl ⟨by omega, by omega, Nat.zero_le _, Nat.zero_le _⟩ 0 rfl rfl [10, 11, 12, 13, 14, 15, 16, 17] [0, 1, 2, 3, 4, 5, 6, 7, 8, 9] rfl (by decide) rfl (by decide) (by decide) rfl (Nat.le_of_ble_eq_true rfl) d_So_sortSolid_134 (fun v w1 hp => ?_)
    obtain ⟨r7, rfl, rfl, h⟩ := hp
    refine v_after (ws' := (w_So K d0 (mkSo (gSo_rowsOfKind0 s0) (iset (gSo_rowsOfKind1 s0) ((x2 * 12) + x3) (iand r1 (-1 - (iand r1 r2)))) (iset (gSo_rowsOfKind2 s0) ((x2 * 12) + x3) (iand (iand r1 r2) (-1 - (iand (iand r1 r2) r3)))) (iset (gSo_rowsOfKind3 s0) ((x2 * 12) + x3) (iand (iand (iand r1 r2) r3) r4)) (iset (gSo_rowsOfKind4 s0) ((x2 * 12) + x3) (iand (iand (iand r1 r2) r3) (-1 - r4))) (gSo_rowsOfKind5 s0) (gSo_rowsOfKind6 s0) (gSo_hanging s0) (gSo_shell s0) (gSo_skin s0) (gSo_period s0) (gSo_reach s0) (gSo_gap s0)) ++ w_Sl K d1 s1)) (st' := [.int (zI r7), .int (zI r1), .int (zI ((x2 * 12) + x3)), .ref (d0 9)]) [0, 1, 2, 3, 4, 5, 6, 7, 8, 9, 10, 11, 12, 13, 14, 15, 16, 17] (by decide) rfl rfl ?_
    refine v_iconst gC d_So_sortSolid_137 ?_
    refine v_inot gC d_So_sortSolid_138 ?_
    refine v_iand gC d_So_sortSolid_139 ?_
    refine v_goto (tgt := 144) gC d_So_sortSolid_140 (by decide) ?_
    refine v_iast (g := (gSo_hanging s0)) (ws' := (w_So K d0 (mkSo (gSo_rowsOfKind0 s0) (iset (gSo_rowsOfKind1 s0) ((x2 * 12) + x3) (iand r1 (-1 - (iand r1 r2)))) (iset (gSo_rowsOfKind2 s0) ((x2 * 12) + x3) (iand (iand r1 r2) (-1 - (iand (iand r1 r2) r3)))) (iset (gSo_rowsOfKind3 s0) ((x2 * 12) + x3) (iand (iand (iand r1 r2) r3) r4)) (iset (gSo_rowsOfKind4 s0) ((x2 * 12) + x3) (iand (iand (iand r1 r2) r3) (-1 - r4))) (gSo_rowsOfKind5 s0) (gSo_rowsOfKind6 s0) (iset (gSo_hanging s0) ((x2 * 12) + x3) (iand r1 (-1 - r7))) (gSo_shell s0) (gSo_skin s0) (gSo_period s0) (gSo_reach s0) (gSo_gap s0)) ++ w_Sl K d1 s1)) gC 9 0 rfl rfl hg5 rfl (by decide) rfl d_So_sortSolid_144 ?_
    exact gret _ _ _ d_So_sortSolid_145 ⟨(mkSo (gSo_rowsOfKind0 s0) (iset (gSo_rowsOfKind1 s0) ((x2 * 12) + x3) (iand r1 (-1 - (iand r1 r2)))) (iset (gSo_rowsOfKind2 s0) ((x2 * 12) + x3) (iand (iand r1 r2) (-1 - (iand (iand r1 r2) r3)))) (iset (gSo_rowsOfKind3 s0) ((x2 * 12) + x3) (iand (iand (iand r1 r2) r3) r4)) (iset (gSo_rowsOfKind4 s0) ((x2 * 12) + x3) (iand (iand (iand r1 r2) r3) (-1 - r4))) (gSo_rowsOfKind5 s0) (gSo_rowsOfKind6 s0) (iset (gSo_hanging s0) ((x2 * 12) + x3) (iand r1 (-1 - r7))) (gSo_shell s0) (gSo_skin s0) (gSo_period s0) (gSo_reach s0) (gSo_gap s0)), rfl, rfl, h⟩

set_option maxHeartbeats 4000000 in
set_option maxRecDepth 100000 in
theorem k_So_sortOpen (l : Launch) (D : va_G) (K : Nat → ClassId) (d0 : Nat → Nat) (d1 : Nat → Nat) (x2 : Int) (x3 : Int) (x4 : Int) (s0 : s_So) (s1 : s_Sl) (Q : s_So → Prop) (h : wp_So_sortOpen x2 x3 x4 s0 s1 Q) : Kt l D K y_So_sortOpen b_So_sortOpen 9 none 4 92 [.ref (d0 0), .ref (d1 0), .int (zI x2), .int (zI x3), .int (zI x4)] (w_So K d0 s0 ++ w_Sl K d1 s1) (fun v w1 => ∃ (u0 : s_So), v = none ∧ w1 = (w_So K d0 u0 ++ w_Sl K d1 s1) ∧ Q u0) := by
  refine Kt.ofV (by decide +kernel) (Nat.le_of_ble_eq_true rfl) (lv0 := [(0, .ref (d0 0)), (1, .ref (d1 0)), (2, .int (zI x2)), (3, .int (zI x3)), (4, .int (zI x4))]) rfl ?_
  intro gp ge gR gs gm ga gb gh gc gA gQ gRf gRl gC gret
  unfold wp_So_sortOpen at h
  refine v_iload_n gC d_So_sortOpen_0 rfl 2 rfl ?_
  refine v_bipush gC d_So_sortOpen_1 (by decide) ?_
  refine v_imul gC d_So_sortOpen_3 (x2 * 12) rfl ?_
  refine v_iload_n gC d_So_sortOpen_4 rfl 3 rfl ?_
  refine v_iadd gC d_So_sortOpen_5 ((x2 * 12) + x3) rfl ?_
  refine v_istore (lv' := [(0, .ref (d0 0)), (1, .ref (d1 0)), (2, .int (zI x2)), (3, .int (zI x3)), (4, .int (zI x4)), (5, .int (zI ((x2 * 12) + x3)))]) gC d_So_sortOpen_6 (by decide) [1, 2, 3, 4, 5, 0] rfl ?_
  refine v_sipush gC d_So_sortOpen_8 (by decide) ?_
  refine v_aload_n gC d_So_sortOpen_11 rfl 1 rfl ?_
  refine v_iload_n gC d_So_sortOpen_12 rfl 2 rfl ?_
  refine v_iload_n gC d_So_sortOpen_13 rfl 3 rfl ?_
  refine v_callV (rest := [.int (zI 4095)]) gC (k_Sl_solidRow l D K d1 x2 x3 s1 _ h) wV_So_53 rfl ⟨by omega, by omega, Nat.zero_le _, Nat.zero_le _⟩ 0 rfl rfl [10, 11, 12, 13, 14, 15, 16, 17] [0, 1, 2, 3, 4, 5, 6, 7, 8, 9] rfl (by decide) rfl (by decide) (by decide) rfl (Nat.le_of_ble_eq_true rfl) d_So_sortOpen_14 (fun v w1 hp => ?_)
  obtain ⟨r1, rfl, rfl, h⟩ := hp
  refine v_after (ws' := (w_So K d0 s0 ++ w_Sl K d1 s1)) (st' := [.int (zI r1), .int (zI 4095)]) [0, 1, 2, 3, 4, 5, 6, 7, 8, 9, 10, 11, 12, 13, 14, 15, 16, 17] (by decide) rfl rfl ?_
  refine v_iconst gC d_So_sortOpen_17 ?_
  refine v_inot gC d_So_sortOpen_18 ?_
  refine v_iand gC d_So_sortOpen_19 ?_
  refine v_istore (lv' := [(0, .ref (d0 0)), (1, .ref (d1 0)), (2, .int (zI x2)), (3, .int (zI x3)), (4, .int (zI x4)), (5, .int (zI ((x2 * 12) + x3))), (6, .int (zI (iand 4095 (-1 - r1))))]) gC d_So_sortOpen_20 (by decide) [1, 2, 3, 4, 5, 6, 0] rfl ?_
  refine v_iload gC d_So_sortOpen_22 6 rfl ?_
  refine v_iload gC d_So_sortOpen_24 4 rfl ?_
  refine v_iand gC d_So_sortOpen_26 ?_
  refine v_istore (lv' := [(0, .ref (d0 0)), (1, .ref (d1 0)), (2, .int (zI x2)), (3, .int (zI x3)), (4, .int (zI x4)), (5, .int (zI ((x2 * 12) + x3))), (6, .int (zI (iand 4095 (-1 - r1)))), (7, .int (zI (iand (iand 4095 (-1 - r1)) x4)))]) gC d_So_sortOpen_27 (by decide) [1, 2, 3, 4, 5, 6, 7, 0] rfl ?_
  refine v_aload_n gC d_So_sortOpen_29 rfl 1 rfl ?_
  refine v_iload_n gC d_So_sortOpen_30 rfl 2 rfl ?_
  refine v_iload_n gC d_So_sortOpen_31 rfl 3 rfl ?_
  refine v_aload_n gC d_So_sortOpen_32 rfl 0 rfl ?_
  refine v_get (v := .int (zI (gSo_gap s0))) gC in_So 0 rfl rfl 6 (by decide) fl_So_33 rfl d_So_sortOpen_33 ?_
  refine v_callV (rest := []) gC (k_Sl_rowNearSolid l D K d1 x2 x3 (gSo_gap s0) s1 _ h) wV_So_68 rfl ⟨by omega, by omega, Nat.zero_le _, Nat.zero_le _⟩ 0 rfl rfl [10, 11, 12, 13, 14, 15, 16, 17] [0, 1, 2, 3, 4, 5, 6, 7, 8, 9] rfl (by decide) rfl (by decide) (by decide) rfl (Nat.le_of_ble_eq_true rfl) d_So_sortOpen_36 (fun v w1 hp => ?_)
  obtain ⟨r2, rfl, rfl, h⟩ := hp
  refine v_after (ws' := (w_So K d0 s0 ++ w_Sl K d1 s1)) (st' := [.int (zI r2)]) [0, 1, 2, 3, 4, 5, 6, 7, 8, 9, 10, 11, 12, 13, 14, 15, 16, 17] (by decide) rfl rfl ?_
  refine v_istore (lv' := [(0, .ref (d0 0)), (1, .ref (d1 0)), (2, .int (zI x2)), (3, .int (zI x3)), (4, .int (zI x4)), (5, .int (zI ((x2 * 12) + x3))), (6, .int (zI (iand 4095 (-1 - r1)))), (7, .int (zI (iand (iand 4095 (-1 - r1)) x4))), (8, .int (zI r2))]) gC d_So_sortOpen_39 (by decide) [1, 2, 3, 4, 5, 6, 7, 8, 0] rfl ?_
  refine v_aload_n gC d_So_sortOpen_41 rfl 0 rfl ?_
  refine v_get (v := .ref (d0 1)) gC in_So 0 rfl rfl 0 (by decide) fl_So_11 rfl d_So_sortOpen_42 ?_
  refine v_iconst gC d_So_sortOpen_45 ?_
  refine v_aald (y := d0 7) gC 1 3 rfl rfl (by decide) rfl (by decide) rfl d_So_sortOpen_46 ?_
  refine v_iload gC d_So_sortOpen_47 5 rfl ?_
  refine v_iload gC d_So_sortOpen_49 7 rfl ?_
  refine v_iload gC d_So_sortOpen_51 8 rfl ?_
  refine v_iconst gC d_So_sortOpen_53 ?_
  refine v_inot gC d_So_sortOpen_54 ?_
  refine v_iand gC d_So_sortOpen_55 ?_
  obtain ⟨hg3, h⟩ := h
  refine v_iast (g := (gSo_rowsOfKind5 s0)) (ws' := (w_So K d0 (mkSo (gSo_rowsOfKind0 s0) (gSo_rowsOfKind1 s0) (gSo_rowsOfKind2 s0) (gSo_rowsOfKind3 s0) (gSo_rowsOfKind4 s0) (iset (gSo_rowsOfKind5 s0) ((x2 * 12) + x3) (iand (iand (iand 4095 (-1 - r1)) x4) (-1 - r2))) (gSo_rowsOfKind6 s0) (gSo_hanging s0) (gSo_shell s0) (gSo_skin s0) (gSo_period s0) (gSo_reach s0) (gSo_gap s0)) ++ w_Sl K d1 s1)) gC 7 0 rfl rfl hg3 rfl (by decide) rfl d_So_sortOpen_56 ?_
  refine v_aload_n gC d_So_sortOpen_57 rfl 0 rfl ?_
  refine v_get (v := .ref (d0 1)) gC in_So 0 rfl rfl 0 (by decide) fl_So_11 rfl d_So_sortOpen_58 ?_
  refine v_bipush gC d_So_sortOpen_61 (by decide) ?_
  refine v_aald (y := d0 8) gC 1 3 rfl rfl (by decide) rfl (by decide) rfl d_So_sortOpen_63 ?_
  refine v_iload gC d_So_sortOpen_64 5 rfl ?_
  refine v_iload gC d_So_sortOpen_66 7 rfl ?_
  refine v_iload gC d_So_sortOpen_68 8 rfl ?_
  refine v_iand gC d_So_sortOpen_70 ?_
  refine v_iast (g := (gSo_rowsOfKind6 s0)) (ws' := (w_So K d0 (mkSo (gSo_rowsOfKind0 s0) (gSo_rowsOfKind1 s0) (gSo_rowsOfKind2 s0) (gSo_rowsOfKind3 s0) (gSo_rowsOfKind4 s0) (iset (gSo_rowsOfKind5 s0) ((x2 * 12) + x3) (iand (iand (iand 4095 (-1 - r1)) x4) (-1 - r2))) (iset (gSo_rowsOfKind6 s0) ((x2 * 12) + x3) (iand (iand (iand 4095 (-1 - r1)) x4) r2)) (gSo_hanging s0) (gSo_shell s0) (gSo_skin s0) (gSo_period s0) (gSo_reach s0) (gSo_gap s0)) ++ w_Sl K d1 s1)) gC 8 0 rfl rfl hg3 rfl (by decide) rfl d_So_sortOpen_71 ?_
  refine v_aload_n gC d_So_sortOpen_72 rfl 0 rfl ?_
  refine v_get (v := .ref (d0 1)) gC in_So 0 rfl rfl 0 (by decide) fl_So_11 rfl d_So_sortOpen_73 ?_
  refine v_iconst gC d_So_sortOpen_76 ?_
  refine v_aald (y := d0 2) gC 1 3 rfl rfl (by decide) rfl (by decide) rfl d_So_sortOpen_77 ?_
  refine v_iload gC d_So_sortOpen_78 5 rfl ?_
  refine v_iload gC d_So_sortOpen_80 6 rfl ?_
  refine v_iload gC d_So_sortOpen_82 7 rfl ?_
  refine v_iconst gC d_So_sortOpen_84 ?_
  refine v_inot gC d_So_sortOpen_85 ?_
  refine v_iand gC d_So_sortOpen_86 ?_
  refine v_iast (g := (gSo_rowsOfKind0 s0)) (ws' := (w_So K d0 (mkSo (iset (gSo_rowsOfKind0 s0) ((x2 * 12) + x3) (iand (iand 4095 (-1 - r1)) (-1 - (iand (iand 4095 (-1 - r1)) x4)))) (gSo_rowsOfKind1 s0) (gSo_rowsOfKind2 s0) (gSo_rowsOfKind3 s0) (gSo_rowsOfKind4 s0) (iset (gSo_rowsOfKind5 s0) ((x2 * 12) + x3) (iand (iand (iand 4095 (-1 - r1)) x4) (-1 - r2))) (iset (gSo_rowsOfKind6 s0) ((x2 * 12) + x3) (iand (iand (iand 4095 (-1 - r1)) x4) r2)) (gSo_hanging s0) (gSo_shell s0) (gSo_skin s0) (gSo_period s0) (gSo_reach s0) (gSo_gap s0)) ++ w_Sl K d1 s1)) gC 2 0 rfl rfl hg3 rfl (by decide) rfl d_So_sortOpen_87 ?_
  exact gret _ _ _ d_So_sortOpen_88 ⟨(mkSo (iset (gSo_rowsOfKind0 s0) ((x2 * 12) + x3) (iand (iand 4095 (-1 - r1)) (-1 - (iand (iand 4095 (-1 - r1)) x4)))) (gSo_rowsOfKind1 s0) (gSo_rowsOfKind2 s0) (gSo_rowsOfKind3 s0) (gSo_rowsOfKind4 s0) (iset (gSo_rowsOfKind5 s0) ((x2 * 12) + x3) (iand (iand (iand 4095 (-1 - r1)) x4) (-1 - r2))) (iset (gSo_rowsOfKind6 s0) ((x2 * 12) + x3) (iand (iand (iand 4095 (-1 - r1)) x4) r2)) (gSo_hanging s0) (gSo_shell s0) (gSo_skin s0) (gSo_period s0) (gSo_reach s0) (gSo_gap s0)), rfl, rfl, h⟩

set_option maxHeartbeats 4000000 in
set_option maxRecDepth 100000 in
theorem k_So_sortCells (l : Launch) (D : va_G) (K : Nat → ClassId) (d0 : Nat → Nat) (d1 : Nat → Nat) (s0 : s_So) (s1 : s_Sl) (Q : s_So → Prop) (h : wp_So_sortCells s0 s1 Q) : Kt l D K y_So_sortCells b_So_sortCells 5 none 5 120 [.ref (d0 0), .ref (d1 0)] (w_So K d0 s0 ++ w_Sl K d1 s1) (fun v w1 => ∃ (u0 : s_So), v = none ∧ w1 = (w_So K d0 u0 ++ w_Sl K d1 s1) ∧ Q u0) := by
  refine Kt.ofV (by decide +kernel) (Nat.le_of_ble_eq_true rfl) (lv0 := [(0, .ref (d0 0)), (1, .ref (d1 0))]) rfl ?_
  intro gp ge gR gs gm ga gb gh gc gA gQ gRf gRl gC gret
  unfold wp_So_sortCells at h
  replace h := h
    (fun (v2 : Int) (s0 : s_So) => V gp l ge gR gs gm ga gb gh gc D gA 5 0 0 gQ (w_So K d0 s0 ++ w_Sl K d1 s1) 2 [(0, .ref (d0 0)), (1, .ref (d1 0)), (2, .int (zI v2))] [])
    (fun (v2 : Int) (v3 : Int) (v4 : Int) (s0 : s_So) => V gp l ge gR gs gm ga gb gh gc D gA 5 0 0 gQ (w_So K d0 s0 ++ w_Sl K d1 s1) 18 [(0, .ref (d0 0)), (1, .ref (d1 0)), (2, .int (zI v2)), (3, .int (zI v3)), (4, .int (zI v4))] [])
    (by
      intro v2 s0 h
      refine v_iload_n gC d_So_sortCells_2 rfl 2 rfl ?_
      refine v_bipush gC d_So_sortCells_3 (by decide) ?_
      obtain ⟨hg1, h⟩ := h
      refine v_icmp_ge (tgt := 77) gC d_So_sortCells_5 (by decide) hg1 (by decide) (fun hc => ?_) (fun hc => ?_)
      · replace h := h.1 hc
        exact gret _ _ _ d_So_sortCells_77 ⟨s0, rfl, rfl, h⟩
      · replace h := h.2 hc
        refine v_iconst gC d_So_sortCells_8 ?_
        refine v_istore_n (lv' := [(0, .ref (d0 0)), (1, .ref (d1 0)), (2, .int (zI v2)), (3, .int (zI 0))]) gC d_So_sortCells_9 rfl (by decide) [1, 2, 3, 0] rfl ?_
        refine v_aload_n gC d_So_sortCells_10 rfl 1 rfl ?_
        refine v_get (v := .int (zI (gSl_count s1))) gC in_Sl 10 rfl rfl 0 (by decide) fl_So_40 rfl d_So_sortCells_11 ?_
        refine v_iconst gC d_So_sortCells_14 ?_
        refine v_isub gC d_So_sortCells_15 ((gSl_count s1) - 1) rfl ?_
        refine v_istore (lv' := [(0, .ref (d0 0)), (1, .ref (d1 0)), (2, .int (zI v2)), (3, .int (zI 0)), (4, .int (zI ((gSl_count s1) - 1)))]) gC d_So_sortCells_16 (by decide) [1, 2, 3, 4, 0] rfl ?_
        refine v_loc (lv' := [(0, .ref (d0 0)), (1, .ref (d1 0)), (2, .int (zI v2)), (3, .int (zI 0)), (4, .int (zI ((gSl_count s1) - 1)))]) [0, 1, 2, 3, 4] rfl ?_
        exact h)
    (by
      intro v2 v3 v4 s0 h
      refine v_iload gC d_So_sortCells_18 4 rfl ?_
      obtain ⟨hg2, h⟩ := h
      refine v_if_lt (tgt := 71) gC d_So_sortCells_20 (by decide) hg2 (fun hc => ?_) (fun hc => ?_)
      · replace h := h.1 hc
        refine v_iinc (lv' := [(0, .ref (d0 0)), (1, .ref (d1 0)), (2, .int (zI (v2 + 1))), (3, .int (zI v3)), (4, .int (zI v4))]) gC d_So_sortCells_71 2 rfl (by decide) (v2 + 1) rfl [1, 2, 0, 3, 4] rfl ?_
        refine v_goto (tgt := 2) gC d_So_sortCells_74 (by decide) ?_
        refine v_loc (lv' := [(0, .ref (d0 0)), (1, .ref (d1 0)), (2, .int (zI (v2 + 1)))]) [0, 1, 2] rfl ?_
        exact h
      · replace h := h.2 hc
        refine v_aload_n gC d_So_sortCells_23 rfl 0 rfl ?_
        refine v_aload_n gC d_So_sortCells_24 rfl 1 rfl ?_
        refine v_iload gC d_So_sortCells_25 4 rfl ?_
        refine v_iload_n gC d_So_sortCells_27 rfl 2 rfl ?_
        refine v_callV (rest := []) gC (k_So_sortSolid l D K d0 d1 v4 v2 s0 s1 _ h) wV_So_45 rfl ⟨by omega, by omega, Nat.zero_le _, Nat.zero_le _⟩ 0 rfl rfl [0, 1, 2, 3, 4, 5, 6, 7, 8, 9, 10, 11, 12, 13, 14, 15, 16, 17] [] rfl (by decide) rfl (by decide) (by decide) rfl (Nat.le_of_ble_eq_true rfl) d_So_sortCells_28 (fun v w1 hp => ?_)
        obtain ⟨u3, rfl, rfl, h⟩ := hp
        refine v_after (ws' := (w_So K d0 u3 ++ w_Sl K d1 s1)) (st' := []) [0, 1, 2, 3, 4, 5, 6, 7, 8, 9, 10, 11, 12, 13, 14, 15, 16, 17] (by decide) rfl rfl ?_
        refine v_aload_n gC d_So_sortCells_31 rfl 0 rfl ?_
        refine v_aload_n gC d_So_sortCells_32 rfl 1 rfl ?_
        refine v_iload gC d_So_sortCells_33 4 rfl ?_
        refine v_iload_n gC d_So_sortCells_35 rfl 2 rfl ?_
        refine v_iload_n gC d_So_sortCells_36 rfl 3 rfl ?_
        refine v_callV (rest := []) gC (k_So_sortOpen l D K d0 d1 v4 v2 v3 u3 s1 _ h) wV_So_49 rfl ⟨by omega, by omega, Nat.zero_le _, Nat.zero_le _⟩ 0 rfl rfl [0, 1, 2, 3, 4, 5, 6, 7, 8, 9, 10, 11, 12, 13, 14, 15, 16, 17] [] rfl (by decide) rfl (by decide) (by decide) rfl (Nat.le_of_ble_eq_true rfl) d_So_sortCells_37 (fun v w1 hp => ?_)
        obtain ⟨u4, rfl, rfl, h⟩ := hp
        refine v_after (ws' := (w_So K d0 u4 ++ w_Sl K d1 s1)) (st' := []) [0, 1, 2, 3, 4, 5, 6, 7, 8, 9, 10, 11, 12, 13, 14, 15, 16, 17] (by decide) rfl rfl ?_
        refine v_iload_n gC d_So_sortCells_40 rfl 3 rfl ?_
        refine v_aload_n gC d_So_sortCells_41 rfl 1 rfl ?_
        refine v_iload gC d_So_sortCells_42 4 rfl ?_
        refine v_iload_n gC d_So_sortCells_44 rfl 2 rfl ?_
        refine v_callV (rest := [.int (zI v3)]) gC (k_Sl_solidRow l D K d1 v4 v2 s1 _ h) wV_So_53 rfl ⟨by omega, by omega, Nat.zero_le _, Nat.zero_le _⟩ 0 rfl rfl [10, 11, 12, 13, 14, 15, 16, 17] [0, 1, 2, 3, 4, 5, 6, 7, 8, 9] rfl (by decide) rfl (by decide) (by decide) rfl (Nat.le_of_ble_eq_true rfl) d_So_sortCells_45 (fun v w1 hp => ?_)
        obtain ⟨r5, rfl, rfl, h⟩ := hp
        refine v_after (ws' := (w_So K d0 u4 ++ w_Sl K d1 s1)) (st' := [.int (zI r5), .int (zI v3)]) [0, 1, 2, 3, 4, 5, 6, 7, 8, 9, 10, 11, 12, 13, 14, 15, 16, 17] (by decide) rfl rfl ?_
        refine v_iconst gC d_So_sortCells_48 ?_
        refine v_inot gC d_So_sortCells_49 ?_
        refine v_iand gC d_So_sortCells_50 ?_
        refine v_aload_n gC d_So_sortCells_51 rfl 0 rfl ?_
        refine v_get (v := .ref (d0 9)) gC in_So 0 rfl rfl 1 (by decide) fl_So_16 rfl d_So_sortCells_52 ?_
        refine v_iload gC d_So_sortCells_55 4 rfl ?_
        refine v_bipush gC d_So_sortCells_57 (by decide) ?_
        refine v_imul gC d_So_sortCells_59 (v4 * 12) rfl ?_
        refine v_iload_n gC d_So_sortCells_60 rfl 2 rfl ?_
        refine v_iadd gC d_So_sortCells_61 ((v4 * 12) + v2) rfl ?_
        obtain ⟨hg6, h⟩ := h
        refine v_iald (g := (gSo_hanging u4)) gC 9 0 rfl rfl hg6 rfl (by decide) d_So_sortCells_62 ?_
        refine v_ior gC d_So_sortCells_63 ?_
        refine v_istore_n (lv' := [(0, .ref (d0 0)), (1, .ref (d1 0)), (2, .int (zI v2)), (3, .int (zI (ior (iand v3 (-1 - r5)) ((gSo_hanging u4) ((v4 * 12) + v2))))), (4, .int (zI v4))]) gC d_So_sortCells_64 rfl (by decide) [1, 2, 3, 0, 4] rfl ?_
        refine v_iinc (lv' := [(0, .ref (d0 0)), (1, .ref (d1 0)), (2, .int (zI v2)), (3, .int (zI (ior (iand v3 (-1 - r5)) ((gSo_hanging u4) ((v4 * 12) + v2))))), (4, .int (zI (v4 + (-1))))]) gC d_So_sortCells_65 4 rfl (by decide) (v4 + (-1)) rfl [1, 2, 3, 4, 0] rfl ?_
        refine v_goto (tgt := 18) gC d_So_sortCells_68 (by decide) ?_
        refine v_loc (lv' := [(0, .ref (d0 0)), (1, .ref (d1 0)), (2, .int (zI v2)), (3, .int (zI (ior (iand v3 (-1 - r5)) ((gSo_hanging u4) ((v4 * 12) + v2))))), (4, .int (zI (v4 + (-1))))]) [0, 1, 2, 3, 4] rfl ?_
        exact h)
  refine v_iconst gC d_So_sortCells_0 ?_
  refine v_istore_n (lv' := [(0, .ref (d0 0)), (1, .ref (d1 0)), (2, .int (zI 0))]) gC d_So_sortCells_1 rfl (by decide) [1, 2, 0] rfl ?_
  refine v_loc (lv' := [(0, .ref (d0 0)), (1, .ref (d1 0)), (2, .int (zI 0))]) [0, 1, 2] rfl ?_
  exact h

set_option maxHeartbeats 4000000 in
set_option maxRecDepth 100000 in
theorem k_Pr_clear (l : Launch) (D : va_G) (K : Nat → ClassId) (d0 : Nat → Nat) (s0 : s_Pr) (Q : s_Pr → Prop) (h : wp_Pr_clear s0 Q) : Kt l D K y_Pr_clear b_Pr_clear 1 none 1 23 [.ref (d0 0)] (w_Pr K d0 s0) (fun v w1 => ∃ (u0 : s_Pr), v = none ∧ w1 = (w_Pr K d0 u0) ∧ Q u0) := by
  refine Kt.ofV (by decide +kernel) (Nat.le_of_ble_eq_true rfl) (lv0 := [(0, .ref (d0 0))]) rfl ?_
  intro gp ge gR gs gm ga gb gh gc gA gQ gRf gRl gC gret
  unfold wp_Pr_clear at h
  refine v_aload_n gC d_Pr_clear_0 rfl 0 rfl ?_
  refine v_iconst gC d_Pr_clear_1 ?_
  refine v_puti (ws' := (w_Pr K d0 (mkPr (gPr_program s0) 0 (gPr_beads s0) (gPr_at s0) (gPr_layer s0)))) gC in_Pr t_Pr ok_Pr n_Pr 0 rfl rfl 1 (by decide) fl_Pr_22 rfl (by decide +kernel) (Nat.le_of_ble_eq_true rfl) rfl d_Pr_clear_2 ?_
  refine v_aload_n gC d_Pr_clear_5 rfl 0 rfl ?_
  refine v_iconst gC d_Pr_clear_6 ?_
  refine v_puti (ws' := (w_Pr K d0 (mkPr (gPr_program s0) 0 (gPr_beads s0) 0 (gPr_layer s0)))) gC in_Pr t_Pr ok_Pr n_Pr 0 rfl rfl 3 (by decide) fl_Pr_25 rfl (by decide +kernel) (Nat.le_of_ble_eq_true rfl) rfl d_Pr_clear_7 ?_
  refine v_aload_n gC d_Pr_clear_10 rfl 0 rfl ?_
  refine v_iconst gC d_Pr_clear_11 ?_
  refine v_puti (ws' := (w_Pr K d0 (mkPr (gPr_program s0) 0 (gPr_beads s0) 0 (-1)))) gC in_Pr t_Pr ok_Pr n_Pr 0 rfl rfl 4 (by decide) fl_Pr_18 rfl (by decide +kernel) (Nat.le_of_ble_eq_true rfl) rfl d_Pr_clear_12 ?_
  refine v_aload_n gC d_Pr_clear_15 rfl 0 rfl ?_
  refine v_get (v := .ref (d0 2)) gC in_Pr 0 rfl rfl 2 (by decide) fl_Pr_15 rfl d_Pr_clear_16 ?_
  refine v_iconst gC d_Pr_clear_19 ?_
  refine v_callS (rest := []) gC (k_Arr_fill l D K (d0 2) 0 3456 (gPr_beads s0) (by decide) _ h) wS_Pr_28 rfl ⟨by omega, by omega, Nat.zero_le _, Nat.zero_le _⟩ [2] [0, 1] rfl (by decide) rfl (by decide) (by decide) rfl (Nat.le_of_ble_eq_true rfl) d_Pr_clear_20 (fun v w1 hp => ?_)
  obtain ⟨u1, rfl, rfl, h⟩ := hp
  refine v_after (ws' := (w_Pr K d0 (mkPr (gPr_program s0) 0 u1 0 (-1)))) (st' := []) [0, 1, 2] (by decide) rfl rfl ?_
  exact gret _ _ _ d_Pr_clear_23 ⟨(mkPr (gPr_program s0) 0 u1 0 (-1)), rfl, rfl, h⟩

set_option maxHeartbeats 4000000 in
set_option maxRecDepth 100000 in
theorem k_LS_layers (l : Launch) (D : va_G) (K : Nat → ClassId) (d0 : Nat → Nat) (x1 : Int) (s0 : s_LS) (Q : Int → s_LS → Prop) (h : wp_LS_layers x1 s0 Q) : Kt l D K y_LS_layers b_LS_layers 2 (some .int) 6 144 [.ref (d0 0), .int (zI x1)] (w_LS K d0 s0) (fun v w1 => ∃ (r : Int), ∃ (u0 : s_LS), v = some (.int (zI r)) ∧ w1 = (w_LS K d0 u0) ∧ Q r u0) := by
  refine Kt.ofI (by decide +kernel) (Nat.le_of_ble_eq_true rfl) (lv0 := [(0, .ref (d0 0)), (1, .int (zI x1))]) rfl ?_
  intro gp ge gR gs gm ga gb gh gc gA gQ gRf gRl gC gret
  unfold wp_LS_layers at h
  refine v_iload_n gC d_LS_layers_0 rfl 1 rfl ?_
  refine v_iconst gC d_LS_layers_1 ?_
  obtain ⟨hg1, h⟩ := h
  refine v_icmp_lt (tgt := 17) gC d_LS_layers_2 (by decide) hg1 (by decide) (fun hc => ?_) (fun hc => ?_)
  · replace h := h.1 hc
    refine v_iconst gC d_LS_layers_17 ?_
    exact gret _ _ _ _ d_LS_layers_18 ⟨(-1), s0, rfl, rfl, h⟩
  · replace h := h.2 hc
    refine v_iload_n gC d_LS_layers_5 rfl 1 rfl ?_
    refine v_bipush gC d_LS_layers_6 (by decide) ?_
    refine v_icmp_gt (tgt := 17) gC d_LS_layers_8 (by decide) hg1 (by decide) (fun hc => ?_) (fun hc => ?_)
    · replace h := h.1 hc
      refine v_iconst gC d_LS_layers_17 ?_
      exact gret _ _ _ _ d_LS_layers_18 ⟨(-1), s0, rfl, rfl, h⟩
    · replace h := h.2 hc
      refine v_iload_n gC d_LS_layers_11 rfl 1 rfl ?_
      refine v_iconst gC d_LS_layers_12 ?_
      refine v_irem gC d_LS_layers_13 hg1 (by decide) (by decide) ?_
      obtain ⟨hg2, h⟩ := h
      refine v_if_ne (tgt := 19) gC d_LS_layers_14 (by decide) hg2 (fun hc => ?_) (fun hc => ?_)
      · replace h := h.1 hc
        refine v_aload_n gC d_LS_layers_19 rfl 0 rfl ?_
        refine v_get (v := .ref (d0 12)) gC in_LS 0 rfl rfl 2 (by decide) fl_LS_26 rfl d_LS_layers_20 ?_
        refine v_aload_n gC d_LS_layers_23 rfl 0 rfl ?_
        refine v_get (v := .ref (d0 1)) gC in_LS 0 rfl rfl 0 (by decide) fl_LS_12 rfl d_LS_layers_24 ?_
        refine v_iload_n gC d_LS_layers_27 rfl 1 rfl ?_
        refine v_callV (rest := []) gC (k_Sl_cutAnew l D K (fun i => d0 (i + 12)) (fun i => d0 (i + 1)) x1 (gLS_slices s0) (gLS_mesh s0) _ h) wV_LS_83 rfl ⟨by omega, by omega, Nat.zero_le _, Nat.zero_le _⟩ 0 rfl rfl [12, 13, 14, 15, 16, 17, 18, 19, 1, 2, 3, 4, 5] [0, 6, 7, 8, 9, 10, 11, 20, 21, 22, 23, 24, 25, 26, 27, 28, 29, 30, 31, 32, 33, 34] rfl (by decide) rfl (by decide) (by decide) rfl (Nat.le_of_ble_eq_true rfl) d_LS_layers_28 (fun v w1 hp => ?_)
        obtain ⟨u3, rfl, rfl, h⟩ := hp
        refine v_after (ws' := (w_LS K d0 (mkLS (gLS_mesh s0) (gLS_mender s0) u3 (gLS_sorter s0) (gLS_router s0) (gLS_printer s0)))) (st' := []) [0, 30, 31, 32, 33, 34, 1, 2, 3, 4, 5, 6, 22, 23, 24, 25, 26, 27, 28, 29, 7, 8, 9, 10, 11, 12, 13, 14, 15, 16, 17, 18, 19, 20, 21] (by decide) rfl rfl ?_
        refine v_aload_n gC d_LS_layers_31 rfl 0 rfl ?_
        refine v_get (v := .ref (d0 20)) gC in_LS 0 rfl rfl 3 (by decide) fl_LS_33 rfl d_LS_layers_32 ?_
        refine v_aload_n gC d_LS_layers_35 rfl 0 rfl ?_
        refine v_get (v := .ref (d0 12)) gC in_LS 0 rfl rfl 2 (by decide) fl_LS_26 rfl d_LS_layers_36 ?_
        refine v_callV (rest := []) gC (k_So_sortCells l D K (fun i => d0 (i + 20)) (fun i => d0 (i + 12)) (gLS_sorter s0) u3 _ h) wV_LS_87 rfl ⟨by omega, by omega, Nat.zero_le _, Nat.zero_le _⟩ 0 rfl rfl [20, 21, 22, 23, 24, 25, 26, 27, 28, 29, 12, 13, 14, 15, 16, 17, 18, 19] [0, 1, 2, 3, 4, 5, 6, 7, 8, 9, 10, 11, 30, 31, 32, 33, 34] rfl (by decide) rfl (by decide) (by decide) rfl (Nat.le_of_ble_eq_true rfl) d_LS_layers_39 (fun v w1 hp => ?_)
        obtain ⟨u4, rfl, rfl, h⟩ := hp
        refine v_after (ws' := (w_LS K d0 (mkLS (gLS_mesh s0) (gLS_mender s0) u3 u4 (gLS_router s0) (gLS_printer s0)))) (st' := []) [0, 1, 2, 3, 4, 5, 6, 7, 8, 9, 10, 11, 27, 28, 29, 30, 31, 32, 33, 34, 17, 18, 19, 20, 21, 22, 23, 24, 25, 26, 12, 13, 14, 15, 16] (by decide) rfl rfl ?_
        refine v_aload_n gC d_LS_layers_42 rfl 0 rfl ?_
        refine v_get (v := .ref (d0 32)) gC in_LS 0 rfl rfl 5 (by decide) fl_LS_47 rfl d_LS_layers_43 ?_
        refine v_callV (rest := []) gC (k_Pr_clear l D K (fun i => d0 (i + 32)) (gLS_printer s0) _ h) wV_LS_91 rfl ⟨by omega, by omega, Nat.zero_le _, Nat.zero_le _⟩ 0 rfl rfl [32, 33, 34] [0, 1, 2, 3, 4, 5, 6, 7, 8, 9, 10, 11, 12, 13, 14, 15, 16, 17, 18, 19, 20, 21, 22, 23, 24, 25, 26, 27, 28, 29, 30, 31] rfl (by decide) rfl (by decide) (by decide) rfl (Nat.le_of_ble_eq_true rfl) d_LS_layers_46 (fun v w1 hp => ?_)
        obtain ⟨u5, rfl, rfl, h⟩ := hp
        refine v_after (ws' := (w_LS K d0 (mkLS (gLS_mesh s0) (gLS_mender s0) u3 u4 (gLS_router s0) u5))) (st' := []) [0, 1, 2, 3, 4, 5, 6, 7, 8, 9, 10, 11, 12, 13, 14, 15, 16, 17, 18, 19, 20, 21, 22, 23, 24, 25, 26, 27, 28, 29, 30, 31, 32, 33, 34] (by decide) rfl rfl ?_
        refine v_aload_n gC d_LS_layers_49 rfl 0 rfl ?_
        refine v_get (v := .ref (d0 12)) gC in_LS 0 rfl rfl 2 (by decide) fl_LS_26 rfl d_LS_layers_50 ?_
        refine v_get (v := .int (zI (gSl_count u3))) gC in_Sl 12 rfl rfl 0 (by decide) fl_LS_94 rfl d_LS_layers_53 ?_
        exact gret _ _ _ _ d_LS_layers_56 ⟨(gSl_count u3), (mkLS (gLS_mesh s0) (gLS_mender s0) u3 u4 (gLS_router s0) u5), rfl, rfl, h⟩
      · replace h := h.2 hc
        refine v_iconst gC d_LS_layers_17 ?_
        exact gret _ _ _ _ d_LS_layers_18 ⟨(-1), s0, rfl, rfl, h⟩

set_option maxHeartbeats 4000000 in
set_option maxRecDepth 100000 in
theorem k_LS_cut (l : Launch) (D : va_G) (K : Nat → ClassId) (d0 : Nat → Nat) (x1 : Int) (x2 : Int) (x3 : Int) (x4 : Int) (s0 : s_LS) (Q : Int → s_LS → Prop) (h : wp_LS_cut x1 x2 x3 x4 s0 Q) : Kt l D K y_LS_cut b_LS_cut 5 (some .int) 6 88 [.ref (d0 0), .int (zI x1), .int (zI x2), .int (zI x3), .int (zI x4)] (w_LS K d0 s0) (fun v w1 => ∃ (r : Int), ∃ (u0 : s_LS), v = some (.int (zI r)) ∧ w1 = (w_LS K d0 u0) ∧ Q r u0) := by
  refine Kt.ofI (by decide +kernel) (Nat.le_of_ble_eq_true rfl) (lv0 := [(0, .ref (d0 0)), (1, .int (zI x1)), (2, .int (zI x2)), (3, .int (zI x3)), (4, .int (zI x4))]) rfl ?_
  intro gp ge gR gs gm ga gb gh gc gA gQ gRf gRl gC gret
  unfold wp_LS_cut at h
  refine v_iload_n gC d_LS_cut_0 rfl 3 rfl ?_
  obtain ⟨hg1, h⟩ := h
  refine v_if_lt (tgt := 32) gC d_LS_cut_1 (by decide) hg1 (fun hc => ?_) (fun hc => ?_)
  · replace h := h.1 hc
    exact h.elim
  · replace h := h.2 hc
    refine v_iload_n gC d_LS_cut_4 rfl 3 rfl ?_
    refine v_iconst gC d_LS_cut_5 ?_
    refine v_icmp_gt (tgt := 32) gC d_LS_cut_6 (by decide) hg1 (by decide) (fun hc => ?_) (fun hc => ?_)
    · replace h := h.1 hc
      exact h.elim
    · replace h := h.2 hc
      refine v_iload gC d_LS_cut_9 4 rfl ?_
      obtain ⟨hg2, h⟩ := h
      refine v_if_lt (tgt := 32) gC d_LS_cut_11 (by decide) hg2 (fun hc => ?_) (fun hc => ?_)
      · replace h := h.1 hc
        exact h.elim
      · replace h := h.2 hc
        refine v_iload gC d_LS_cut_14 4 rfl ?_
        refine v_iconst gC d_LS_cut_16 ?_
        refine v_icmp_gt (tgt := 32) gC d_LS_cut_17 (by decide) hg2 (by decide) (fun hc => ?_) (fun hc => ?_)
        · replace h := h.1 hc
          exact h.elim
        · replace h := h.2 hc
          refine v_aload_n gC d_LS_cut_20 rfl 0 rfl ?_
          refine v_get (v := .ref (d0 12)) gC in_LS 0 rfl rfl 2 (by decide) fl_LS_26 rfl d_LS_cut_21 ?_
          refine v_iload_n gC d_LS_cut_24 rfl 1 rfl ?_
          refine v_iload_n gC d_LS_cut_25 rfl 2 rfl ?_
          refine v_callV (rest := []) gC (k_Sl_findEnds l D K (fun i => d0 (i + 12)) x1 x2 (gLS_slices s0) _ h) wV_LS_97 rfl ⟨by omega, by omega, Nat.zero_le _, Nat.zero_le _⟩ 0 rfl rfl [12, 13, 14, 15, 16, 17, 18, 19] [0, 1, 2, 3, 4, 5, 6, 7, 8, 9, 10, 11, 20, 21, 22, 23, 24, 25, 26, 27, 28, 29, 30, 31, 32, 33, 34] rfl (by decide) rfl (by decide) (by decide) rfl (Nat.le_of_ble_eq_true rfl) d_LS_cut_26 (fun v w1 hp => ?_)
          obtain ⟨r3, u4, rfl, rfl, h⟩ := hp
          refine v_after (ws' := (w_LS K d0 (mkLS (gLS_mesh s0) (gLS_mender s0) u4 (gLS_sorter s0) (gLS_router s0) (gLS_printer s0)))) (st' := [.int (zI r3)]) [0, 1, 2, 3, 4, 5, 6, 7, 8, 9, 10, 11, 27, 28, 29, 30, 31, 32, 33, 34, 12, 13, 14, 15, 16, 17, 18, 19, 20, 21, 22, 23, 24, 25, 26] (by decide) rfl rfl ?_
          obtain ⟨hg5, h⟩ := h
          refine v_if_ne (tgt := 40) gC d_LS_cut_29 (by decide) hg5 (fun hc => ?_) (fun hc => ?_)
          · replace h := h.1 hc
            refine v_aload_n gC d_LS_cut_40 rfl 0 rfl ?_
            refine v_get (v := .ref (d0 12)) gC in_LS 0 rfl rfl 2 (by decide) fl_LS_26 rfl d_LS_cut_41 ?_
            refine v_get (v := .ref (d0 13)) gC in_Sl 12 rfl rfl 1 (by decide) fl_LS_104 rfl d_LS_cut_44 ?_
            refine v_iconst gC d_LS_cut_47 ?_
            refine v_iload_n gC d_LS_cut_48 rfl 3 rfl ?_
            refine v_imul gC d_LS_cut_49 (3 * x3) rfl ?_
            refine v_iload gC d_LS_cut_50 4 rfl ?_
            refine v_iadd gC d_LS_cut_52 ((3 * x3) + x4) rfl ?_
            obtain ⟨hg6, h⟩ := h
            refine v_iald (g := (gSl_ends u4)) gC 13 0 rfl rfl hg6 rfl (by decide) d_LS_cut_53 ?_
            exact gret _ _ _ _ d_LS_cut_54 ⟨(gSl_ends u4) ((3 * x3) + x4), (mkLS (gLS_mesh s0) (gLS_mender s0) u4 (gLS_sorter s0) (gLS_router s0) (gLS_printer s0)), rfl, rfl, h⟩
          · replace h := h.2 hc
            exact h.elim

set_option maxHeartbeats 4000000 in
set_option maxRecDepth 100000 in
theorem k_LS_solid (l : Launch) (D : va_G) (K : Nat → ClassId) (d0 : Nat → Nat) (x1 : Int) (x2 : Int) (x3 : Int) (s0 : s_LS) (Q : Int → Prop) (h : wp_LS_solid x1 x2 x3 s0 Q) : Kt l D K y_LS_solid b_LS_solid 4 (some .int) 3 65 [.ref (d0 0), .int (zI x1), .int (zI x2), .int (zI x3)] (w_LS K d0 s0) (fun v w1 => ∃ (r : Int), v = some (.int (zI r)) ∧ w1 = (w_LS K d0 s0) ∧ Q r) := by
  refine Kt.ofI (by decide +kernel) (Nat.le_of_ble_eq_true rfl) (lv0 := [(0, .ref (d0 0)), (1, .int (zI x1)), (2, .int (zI x2)), (3, .int (zI x3))]) rfl ?_
  intro gp ge gR gs gm ga gb gh gc gA gQ gRf gRl gC gret
  unfold wp_LS_solid at h
  refine v_iload_n gC d_LS_solid_0 rfl 2 rfl ?_
  obtain ⟨hg1, h⟩ := h
  refine v_if_lt (tgt := 26) gC d_LS_solid_1 (by decide) hg1 (fun hc => ?_) (fun hc => ?_)
  · replace h := h.1 hc
    refine v_iconst gC d_LS_solid_26 ?_
    exact gret _ _ _ _ d_LS_solid_27 ⟨0, rfl, rfl, h⟩
  · replace h := h.2 hc
    refine v_iload_n gC d_LS_solid_4 rfl 2 rfl ?_
    refine v_bipush gC d_LS_solid_5 (by decide) ?_
    refine v_icmp_ge (tgt := 26) gC d_LS_solid_7 (by decide) hg1 (by decide) (fun hc => ?_) (fun hc => ?_)
    · replace h := h.1 hc
      refine v_iconst gC d_LS_solid_26 ?_
      exact gret _ _ _ _ d_LS_solid_27 ⟨0, rfl, rfl, h⟩
    · replace h := h.2 hc
      refine v_aload_n gC d_LS_solid_10 rfl 0 rfl ?_
      refine v_get (v := .ref (d0 12)) gC in_LS 0 rfl rfl 2 (by decide) fl_LS_26 rfl d_LS_solid_11 ?_
      refine v_iload_n gC d_LS_solid_14 rfl 1 rfl ?_
      refine v_iload_n gC d_LS_solid_15 rfl 3 rfl ?_
      refine v_callV (rest := []) gC (k_Sl_solidRow l D K (fun i => d0 (i + 12)) x1 x3 (gLS_slices s0) _ h) wV_LS_107 rfl ⟨by omega, by omega, Nat.zero_le _, Nat.zero_le _⟩ 0 rfl rfl [12, 13, 14, 15, 16, 17, 18, 19] [0, 1, 2, 3, 4, 5, 6, 7, 8, 9, 10, 11, 20, 21, 22, 23, 24, 25, 26, 27, 28, 29, 30, 31, 32, 33, 34] rfl (by decide) rfl (by decide) (by decide) rfl (Nat.le_of_ble_eq_true rfl) d_LS_solid_16 (fun v w1 hp => ?_)
      obtain ⟨r2, rfl, rfl, h⟩ := hp
      refine v_after (ws' := (w_LS K d0 s0)) (st' := [.int (zI r2)]) [0, 1, 2, 3, 4, 5, 6, 7, 8, 9, 10, 11, 27, 28, 29, 30, 31, 32, 33, 34, 12, 13, 14, 15, 16, 17, 18, 19, 20, 21, 22, 23, 24, 25, 26] (by decide) rfl rfl ?_
      refine v_iload_n gC d_LS_solid_19 rfl 2 rfl ?_
      obtain ⟨hg3, hg4, h⟩ := h
      refine v_ishr gC d_LS_solid_20 hg4 hg3 ?_
      refine v_iconst gC d_LS_solid_21 ?_
      refine v_iand gC d_LS_solid_22 ?_
      refine v_goto (tgt := 27) gC d_LS_solid_23 (by decide) ?_
      exact gret _ _ _ _ d_LS_solid_27 ⟨iand (r2 / 2 ^ Int.toNat x2) 1, rfl, rfl, h⟩

set_option maxHeartbeats 4000000 in
set_option maxRecDepth 100000 in
theorem k_So_upTo (l : Launch) (D : va_G) (K : Nat → ClassId) (x0 : Int) (x1 : Int) (Q : Int → Prop) (h : wp_So_upTo x0 x1 Q) : Kt l D K y_So_upTo b_So_upTo 2 (some .boolean) 0 0 [.int (zI x0), .int (zI x1)] [] (fun v w1 => ∃ (r : Int), v = some (.int (zI r)) ∧ w1 = [] ∧ Q r) := by
  refine Kt.ofZ (by decide +kernel) (Nat.le_of_ble_eq_true rfl) (lv0 := [(0, .int (zI x0)), (1, .int (zI x1))]) rfl ?_
  intro gp ge gR gs gm ga gb gh gc gA gQ gRf gRl gC gret
  unfold wp_So_upTo at h
  refine v_iload_n gC d_So_upTo_0 rfl 1 rfl ?_
  obtain ⟨hg1, h⟩ := h
  refine v_if_lt (tgt := 13) gC d_So_upTo_1 (by decide) hg1 (fun hc => ?_) (fun hc => ?_)
  · replace h := h.1 hc
    refine v_iconst gC d_So_upTo_13 ?_
    exact gret _ _ _ _ d_So_upTo_14 rfl ⟨0, rfl, rfl, h⟩
  · replace h := h.2 hc
    refine v_iload_n gC d_So_upTo_4 rfl 1 rfl ?_
    refine v_iload_n gC d_So_upTo_5 rfl 0 rfl ?_
    obtain ⟨hg2, h⟩ := h
    refine v_icmp_gt (tgt := 13) gC d_So_upTo_6 (by decide) hg1 hg2 (fun hc => ?_) (fun hc => ?_)
    · replace h := h.1 hc
      refine v_iconst gC d_So_upTo_13 ?_
      exact gret _ _ _ _ d_So_upTo_14 rfl ⟨0, rfl, rfl, h⟩
    · replace h := h.2 hc
      refine v_iconst gC d_So_upTo_9 ?_
      refine v_goto (tgt := 14) gC d_So_upTo_10 (by decide) ?_
      exact gret _ _ _ _ d_So_upTo_14 rfl ⟨1, rfl, rfl, h⟩

set_option maxHeartbeats 4000000 in
set_option maxRecDepth 100000 in
theorem k_So_accept (l : Launch) (D : va_G) (K : Nat → ClassId) (d0 : Nat → Nat) (x1 : Int) (x2 : Int) (x3 : Int) (x4 : Int) (x5 : Int) (s0 : s_So) (Q : Int → s_So → Prop) (h : wp_So_accept x1 x2 x3 x4 x5 s0 Q) : Kt l D K y_So_accept b_So_accept 6 (some .boolean) 1 21 [.ref (d0 0), .int (zI x1), .int (zI x2), .int (zI x3), .int (zI x4), .int (zI x5)] (w_So K d0 s0) (fun v w1 => ∃ (r : Int), ∃ (u0 : s_So), v = some (.int (zI r)) ∧ w1 = (w_So K d0 u0) ∧ Q r u0) := by
  refine Kt.ofZ (by decide +kernel) (Nat.le_of_ble_eq_true rfl) (lv0 := [(0, .ref (d0 0)), (1, .int (zI x1)), (2, .int (zI x2)), (3, .int (zI x3)), (4, .int (zI x4)), (5, .int (zI x5))]) rfl ?_
  intro gp ge gR gs gm ga gb gh gc gA gQ gRf gRl gC gret
  unfold wp_So_accept at h
  refine v_iconst gC d_So_accept_0 ?_
  refine v_iload_n gC d_So_accept_1 rfl 1 rfl ?_
  refine v_callS (rest := []) gC (k_So_upTo l D K 3 x1 _ h) wS_So_36 rfl ⟨by omega, by omega, Nat.zero_le _, Nat.zero_le _⟩ [] [0, 1, 2, 3, 4, 5, 6, 7, 8, 9] rfl (by decide) rfl (by decide) (by decide) rfl (Nat.le_of_ble_eq_true rfl) d_So_accept_2 (fun v w1 hp => ?_)
  obtain ⟨r1, rfl, rfl, h⟩ := hp
  refine v_after (ws' := (w_So K d0 s0)) (st' := [.int (zI r1)]) [0, 1, 2, 3, 4, 5, 6, 7, 8, 9] (by decide) rfl rfl ?_
  obtain ⟨hg2, h⟩ := h
  refine v_if_eq (tgt := 43) gC d_So_accept_5 (by decide) hg2 (fun hc => ?_) (fun hc => ?_)
  · replace h := h.1 hc
    refine v_iconst gC d_So_accept_43 ?_
    exact gret _ _ _ _ d_So_accept_44 rfl ⟨0, s0, rfl, rfl, h⟩
  · replace h := h.2 hc
    refine v_iconst gC d_So_accept_8 ?_
    refine v_iload_n gC d_So_accept_9 rfl 2 rfl ?_
    refine v_callS (rest := []) gC (k_So_upTo l D K 3 x2 _ h) wS_So_36 rfl ⟨by omega, by omega, Nat.zero_le _, Nat.zero_le _⟩ [] [0, 1, 2, 3, 4, 5, 6, 7, 8, 9] rfl (by decide) rfl (by decide) (by decide) rfl (Nat.le_of_ble_eq_true rfl) d_So_accept_10 (fun v w1 hp => ?_)
    obtain ⟨r3, rfl, rfl, h⟩ := hp
    refine v_after (ws' := (w_So K d0 s0)) (st' := [.int (zI r3)]) [0, 1, 2, 3, 4, 5, 6, 7, 8, 9] (by decide) rfl rfl ?_
    obtain ⟨hg4, h⟩ := h
    refine v_if_eq (tgt := 43) gC d_So_accept_13 (by decide) hg4 (fun hc => ?_) (fun hc => ?_)
    · replace h := h.1 hc
      refine v_iconst gC d_So_accept_43 ?_
      exact gret _ _ _ _ d_So_accept_44 rfl ⟨0, s0, rfl, rfl, h⟩
    · replace h := h.2 hc
      refine v_bipush gC d_So_accept_16 (by decide) ?_
      refine v_iload_n gC d_So_accept_18 rfl 3 rfl ?_
      refine v_callS (rest := []) gC (k_So_upTo l D K 6 x3 _ h) wS_So_36 rfl ⟨by omega, by omega, Nat.zero_le _, Nat.zero_le _⟩ [] [0, 1, 2, 3, 4, 5, 6, 7, 8, 9] rfl (by decide) rfl (by decide) (by decide) rfl (Nat.le_of_ble_eq_true rfl) d_So_accept_19 (fun v w1 hp => ?_)
      obtain ⟨r5, rfl, rfl, h⟩ := hp
      refine v_after (ws' := (w_So K d0 s0)) (st' := [.int (zI r5)]) [0, 1, 2, 3, 4, 5, 6, 7, 8, 9] (by decide) rfl rfl ?_
      obtain ⟨hg6, h⟩ := h
      refine v_if_eq (tgt := 43) gC d_So_accept_22 (by decide) hg6 (fun hc => ?_) (fun hc => ?_)
      · replace h := h.1 hc
        refine v_iconst gC d_So_accept_43 ?_
        exact gret _ _ _ _ d_So_accept_44 rfl ⟨0, s0, rfl, rfl, h⟩
      · replace h := h.2 hc
        refine v_iconst gC d_So_accept_25 ?_
        refine v_iload gC d_So_accept_26 4 rfl ?_
        refine v_callS (rest := []) gC (k_So_upTo l D K 3 x4 _ h) wS_So_36 rfl ⟨by omega, by omega, Nat.zero_le _, Nat.zero_le _⟩ [] [0, 1, 2, 3, 4, 5, 6, 7, 8, 9] rfl (by decide) rfl (by decide) (by decide) rfl (Nat.le_of_ble_eq_true rfl) d_So_accept_28 (fun v w1 hp => ?_)
        obtain ⟨r7, rfl, rfl, h⟩ := hp
        refine v_after (ws' := (w_So K d0 s0)) (st' := [.int (zI r7)]) [0, 1, 2, 3, 4, 5, 6, 7, 8, 9] (by decide) rfl rfl ?_
        obtain ⟨hg8, h⟩ := h
        refine v_if_eq (tgt := 43) gC d_So_accept_31 (by decide) hg8 (fun hc => ?_) (fun hc => ?_)
        · replace h := h.1 hc
          refine v_iconst gC d_So_accept_43 ?_
          exact gret _ _ _ _ d_So_accept_44 rfl ⟨0, s0, rfl, rfl, h⟩
        · replace h := h.2 hc
          refine v_iconst gC d_So_accept_34 ?_
          refine v_iload gC d_So_accept_35 5 rfl ?_
          refine v_callS (rest := []) gC (k_So_upTo l D K 2 x5 _ h) wS_So_36 rfl ⟨by omega, by omega, Nat.zero_le _, Nat.zero_le _⟩ [] [0, 1, 2, 3, 4, 5, 6, 7, 8, 9] rfl (by decide) rfl (by decide) (by decide) rfl (Nat.le_of_ble_eq_true rfl) d_So_accept_37 (fun v w1 hp => ?_)
          obtain ⟨r9, rfl, rfl, h⟩ := hp
          refine v_after (ws' := (w_So K d0 s0)) (st' := [.int (zI r9)]) [0, 1, 2, 3, 4, 5, 6, 7, 8, 9] (by decide) rfl rfl ?_
          obtain ⟨hg10, h⟩ := h
          refine v_if_ne (tgt := 45) gC d_So_accept_40 (by decide) hg10 (fun hc => ?_) (fun hc => ?_)
          · replace h := h.1 hc
            refine v_aload_n gC d_So_accept_45 rfl 0 rfl ?_
            refine v_iload_n gC d_So_accept_46 rfl 1 rfl ?_
            refine v_puti (ws' := (w_So K d0 (mkSo (gSo_rowsOfKind0 s0) (gSo_rowsOfKind1 s0) (gSo_rowsOfKind2 s0) (gSo_rowsOfKind3 s0) (gSo_rowsOfKind4 s0) (gSo_rowsOfKind5 s0) (gSo_rowsOfKind6 s0) (gSo_hanging s0) x1 (gSo_skin s0) (gSo_period s0) (gSo_reach s0) (gSo_gap s0)))) gC in_So t_So ok_So n_So 0 rfl rfl 2 (by decide) fl_So_20 rfl (by decide +kernel) (Nat.le_of_ble_eq_true rfl) rfl d_So_accept_47 ?_
            refine v_aload_n gC d_So_accept_50 rfl 0 rfl ?_
            refine v_iload_n gC d_So_accept_51 rfl 2 rfl ?_
            refine v_puti (ws' := (w_So K d0 (mkSo (gSo_rowsOfKind0 s0) (gSo_rowsOfKind1 s0) (gSo_rowsOfKind2 s0) (gSo_rowsOfKind3 s0) (gSo_rowsOfKind4 s0) (gSo_rowsOfKind5 s0) (gSo_rowsOfKind6 s0) (gSo_hanging s0) x1 x2 (gSo_period s0) (gSo_reach s0) (gSo_gap s0)))) gC in_So t_So ok_So n_So 0 rfl rfl 3 (by decide) fl_So_24 rfl (by decide +kernel) (Nat.le_of_ble_eq_true rfl) rfl d_So_accept_52 ?_
            refine v_aload_n gC d_So_accept_55 rfl 0 rfl ?_
            refine v_iload_n gC d_So_accept_56 rfl 3 rfl ?_
            refine v_puti (ws' := (w_So K d0 (mkSo (gSo_rowsOfKind0 s0) (gSo_rowsOfKind1 s0) (gSo_rowsOfKind2 s0) (gSo_rowsOfKind3 s0) (gSo_rowsOfKind4 s0) (gSo_rowsOfKind5 s0) (gSo_rowsOfKind6 s0) (gSo_hanging s0) x1 x2 x3 (gSo_reach s0) (gSo_gap s0)))) gC in_So t_So ok_So n_So 0 rfl rfl 4 (by decide) fl_So_27 rfl (by decide +kernel) (Nat.le_of_ble_eq_true rfl) rfl d_So_accept_57 ?_
            refine v_aload_n gC d_So_accept_60 rfl 0 rfl ?_
            refine v_iload gC d_So_accept_61 4 rfl ?_
            refine v_puti (ws' := (w_So K d0 (mkSo (gSo_rowsOfKind0 s0) (gSo_rowsOfKind1 s0) (gSo_rowsOfKind2 s0) (gSo_rowsOfKind3 s0) (gSo_rowsOfKind4 s0) (gSo_rowsOfKind5 s0) (gSo_rowsOfKind6 s0) (gSo_hanging s0) x1 x2 x3 x4 (gSo_gap s0)))) gC in_So t_So ok_So n_So 0 rfl rfl 5 (by decide) fl_So_30 rfl (by decide +kernel) (Nat.le_of_ble_eq_true rfl) rfl d_So_accept_63 ?_
            refine v_aload_n gC d_So_accept_66 rfl 0 rfl ?_
            refine v_iload gC d_So_accept_67 5 rfl ?_
            refine v_puti (ws' := (w_So K d0 (mkSo (gSo_rowsOfKind0 s0) (gSo_rowsOfKind1 s0) (gSo_rowsOfKind2 s0) (gSo_rowsOfKind3 s0) (gSo_rowsOfKind4 s0) (gSo_rowsOfKind5 s0) (gSo_rowsOfKind6 s0) (gSo_hanging s0) x1 x2 x3 x4 x5))) gC in_So t_So ok_So n_So 0 rfl rfl 6 (by decide) fl_So_33 rfl (by decide +kernel) (Nat.le_of_ble_eq_true rfl) rfl d_So_accept_69 ?_
            refine v_iconst gC d_So_accept_72 ?_
            exact gret _ _ _ _ d_So_accept_73 rfl ⟨1, (mkSo (gSo_rowsOfKind0 s0) (gSo_rowsOfKind1 s0) (gSo_rowsOfKind2 s0) (gSo_rowsOfKind3 s0) (gSo_rowsOfKind4 s0) (gSo_rowsOfKind5 s0) (gSo_rowsOfKind6 s0) (gSo_hanging s0) x1 x2 x3 x4 x5), rfl, rfl, h⟩
          · replace h := h.2 hc
            refine v_iconst gC d_So_accept_43 ?_
            exact gret _ _ _ _ d_So_accept_44 rfl ⟨0, s0, rfl, rfl, h⟩
