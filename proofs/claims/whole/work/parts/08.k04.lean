set_option maxHeartbeats 4000000 in
set_option maxRecDepth 100000 in
theorem k_Sl_doubleCentre (l : Launch) (D : va_G) (K : Nat → ClassId) (x0 : Int) (Q : Int → Prop) (h : wp_Sl_doubleCentre x0 Q) : Kt l D K y_Sl_doubleCentre b_Sl_doubleCentre 1 (some .int) 0 0 [.int (zI x0)] [] (fun v w1 => ∃ (r : Int), v = some (.int (zI r)) ∧ w1 = [] ∧ Q r) := by
  refine Kt.ofI (by decide +kernel) (Nat.le_of_ble_eq_true rfl) (lv0 := [(0, .int (zI x0))]) rfl ?_
  intro gp ge gR gs gm ga gb gh gc gA gQ gRf gRl gC gret
  unfold wp_Sl_doubleCentre at h
  refine v_bipush gC d_Sl_doubleCentre_0 (by decide) ?_
  refine v_iload_n gC d_Sl_doubleCentre_2 rfl 0 rfl ?_
  refine v_imul gC d_Sl_doubleCentre_3 (20 * x0) rfl ?_
  refine v_bipush gC d_Sl_doubleCentre_4 (by decide) ?_
  refine v_iadd gC d_Sl_doubleCentre_6 ((20 * x0) + 9) rfl ?_
  exact gret _ _ _ _ d_Sl_doubleCentre_7 ⟨(20 * x0) + 9, rfl, rfl, h⟩

set_option maxHeartbeats 4000000 in
set_option maxRecDepth 100000 in
theorem k_Sl_cellsRightOfLine (l : Launch) (D : va_G) (K : Nat → ClassId) (d0 : Nat → Nat) (x1 : Int) (x2 : Int) (x3 : Int) (x5 : Int) (s0 : s_Sl) (Q : Int → Prop) (h : wp_Sl_cellsRightOfLine x1 x2 x3 x5 s0 Q) : Kt l D K y_Sl_cellsRightOfLine b_Sl_cellsRightOfLine 12 (some .int) 0 0 [.ref (d0 0), .int (zI x1), .int (zI x2), .long (lI x3), .long (lI x5)] (w_Sl K d0 s0) (fun v w1 => ∃ (r : Int), v = some (.int (zI r)) ∧ w1 = (w_Sl K d0 s0) ∧ Q r) := by
  refine Kt.ofI (by decide +kernel) (Nat.le_of_ble_eq_true rfl) (lv0 := [(0, .ref (d0 0)), (1, .int (zI x1)), (2, .int (zI x2)), (3, .long (lI x3)), (5, .long (lI x5))]) rfl ?_
  intro gp ge gR gs gm ga gb gh gc gA gQ gRf gRl gC gret
  unfold wp_Sl_cellsRightOfLine at h
  refine v_aload_n gC d_Sl_cellsRightOfLine_0 rfl 0 rfl ?_
  refine v_get (v := .ref (d0 1)) gC in_Sl 0 rfl rfl 1 (by decide) fl_Sl_9 rfl d_Sl_cellsRightOfLine_1 ?_
  refine v_iload_n gC d_Sl_cellsRightOfLine_4 rfl 1 rfl ?_
  refine v_iconst gC d_Sl_cellsRightOfLine_5 ?_
  refine v_iadd gC d_Sl_cellsRightOfLine_6 (x1 + 1) rfl ?_
  obtain ⟨hg1, h⟩ := h
  refine v_iald (g := (gSl_ends s0)) gC 1 0 rfl rfl hg1 rfl (by decide) d_Sl_cellsRightOfLine_7 ?_
  obtain ⟨hg2, h⟩ := h
  refine v_i2l gC d_Sl_cellsRightOfLine_8 hg2 ?_
  refine v_lload gC d_Sl_cellsRightOfLine_9 4 rfl ?_
  refine v_lmul gC d_Sl_cellsRightOfLine_11 (((gSl_ends s0) (x1 + 1)) * x5) rfl ?_
  refine v_aload_n gC d_Sl_cellsRightOfLine_12 rfl 0 rfl ?_
  refine v_get (v := .ref (d0 1)) gC in_Sl 0 rfl rfl 1 (by decide) fl_Sl_9 rfl d_Sl_cellsRightOfLine_13 ?_
  refine v_iload_n gC d_Sl_cellsRightOfLine_16 rfl 2 rfl ?_
  refine v_iconst gC d_Sl_cellsRightOfLine_17 ?_
  refine v_iadd gC d_Sl_cellsRightOfLine_18 (x2 + 1) rfl ?_
  obtain ⟨hg3, h⟩ := h
  refine v_iald (g := (gSl_ends s0)) gC 1 0 rfl rfl hg3 rfl (by decide) d_Sl_cellsRightOfLine_19 ?_
  obtain ⟨hg4, h⟩ := h
  refine v_i2l gC d_Sl_cellsRightOfLine_20 hg4 ?_
  refine v_lload_n gC d_Sl_cellsRightOfLine_21 rfl 3 rfl ?_
  refine v_lmul gC d_Sl_cellsRightOfLine_22 (((gSl_ends s0) (x2 + 1)) * x3) rfl ?_
  refine v_ladd gC d_Sl_cellsRightOfLine_23 ((((gSl_ends s0) (x1 + 1)) * x5) + (((gSl_ends s0) (x2 + 1)) * x3)) rfl ?_
  refine v_lstore (lv' := [(0, .ref (d0 0)), (1, .int (zI x1)), (2, .int (zI x2)), (3, .long (lI x3)), (5, .long (lI x5)), (7, .long (lI ((((gSl_ends s0) (x1 + 1)) * x5) + (((gSl_ends s0) (x2 + 1)) * x3))))]) gC d_Sl_cellsRightOfLine_24 (by decide) [1, 2, 3, 4, 5, 0] rfl ?_
  refine v_aload_n gC d_Sl_cellsRightOfLine_26 rfl 0 rfl ?_
  refine v_get (v := .ref (d0 1)) gC in_Sl 0 rfl rfl 1 (by decide) fl_Sl_9 rfl d_Sl_cellsRightOfLine_27 ?_
  refine v_iload_n gC d_Sl_cellsRightOfLine_30 rfl 1 rfl ?_
  obtain ⟨hg5, h⟩ := h
  refine v_iald (g := (gSl_ends s0)) gC 1 0 rfl rfl hg5 rfl (by decide) d_Sl_cellsRightOfLine_31 ?_
  obtain ⟨hg6, h⟩ := h
  refine v_i2l gC d_Sl_cellsRightOfLine_32 hg6 ?_
  refine v_lload gC d_Sl_cellsRightOfLine_33 4 rfl ?_
  refine v_lmul gC d_Sl_cellsRightOfLine_35 (((gSl_ends s0) x1) * x5) rfl ?_
  refine v_aload_n gC d_Sl_cellsRightOfLine_36 rfl 0 rfl ?_
  refine v_get (v := .ref (d0 1)) gC in_Sl 0 rfl rfl 1 (by decide) fl_Sl_9 rfl d_Sl_cellsRightOfLine_37 ?_
  refine v_iload_n gC d_Sl_cellsRightOfLine_40 rfl 2 rfl ?_
  obtain ⟨hg7, h⟩ := h
  refine v_iald (g := (gSl_ends s0)) gC 1 0 rfl rfl hg7 rfl (by decide) d_Sl_cellsRightOfLine_41 ?_
  obtain ⟨hg8, h⟩ := h
  refine v_i2l gC d_Sl_cellsRightOfLine_42 hg8 ?_
  refine v_lload_n gC d_Sl_cellsRightOfLine_43 rfl 3 rfl ?_
  refine v_lmul gC d_Sl_cellsRightOfLine_44 (((gSl_ends s0) x2) * x3) rfl ?_
  refine v_ladd gC d_Sl_cellsRightOfLine_45 ((((gSl_ends s0) x1) * x5) + (((gSl_ends s0) x2) * x3)) rfl ?_
  refine v_lstore (lv' := [(0, .ref (d0 0)), (1, .int (zI x1)), (2, .int (zI x2)), (3, .long (lI x3)), (5, .long (lI x5)), (7, .long (lI ((((gSl_ends s0) (x1 + 1)) * x5) + (((gSl_ends s0) (x2 + 1)) * x3)))), (9, .long (lI ((((gSl_ends s0) x1) * x5) + (((gSl_ends s0) x2) * x3))))]) gC d_Sl_cellsRightOfLine_46 (by decide) [1, 2, 3, 4, 5, 6, 0] rfl ?_
  refine v_lload gC d_Sl_cellsRightOfLine_48 6 rfl ?_
  refine v_lconst (i := 0) gC d_Sl_cellsRightOfLine_50 (by decide) ?_
  obtain ⟨hg9, h⟩ := h
  refine v_lcmp gC d_Sl_cellsRightOfLine_51 hg9 (by decide) ?_
  refine v_if_gt (tgt := 57) gC d_Sl_cellsRightOfLine_52 (by decide) (cmpZ_rg _ _) (fun hc => ?_) (fun hc => ?_)
  · replace h := h.1 hc
    refine v_ldc2 gC kc_Sl_95 d_Sl_cellsRightOfLine_57 ?_
    refine v_lload gC d_Sl_cellsRightOfLine_60 5 rfl ?_
    refine v_lmul gC d_Sl_cellsRightOfLine_62 (2 * ((((gSl_ends s0) (x1 + 1)) * x5) + (((gSl_ends s0) (x2 + 1)) * x3))) rfl ?_
    refine v_ldc2 gC kc_Sl_97 d_Sl_cellsRightOfLine_63 ?_
    refine v_lload gC d_Sl_cellsRightOfLine_66 6 rfl ?_
    refine v_lmul gC d_Sl_cellsRightOfLine_68 (11 * ((((gSl_ends s0) x1) * x5) + (((gSl_ends s0) x2) * x3))) rfl ?_
    refine v_ladd gC d_Sl_cellsRightOfLine_69 ((2 * ((((gSl_ends s0) (x1 + 1)) * x5) + (((gSl_ends s0) (x2 + 1)) * x3))) + (11 * ((((gSl_ends s0) x1) * x5) + (((gSl_ends s0) x2) * x3)))) rfl ?_
    refine v_ldc2 gC kc_Sl_99 d_Sl_cellsRightOfLine_70 ?_
    refine v_lload gC d_Sl_cellsRightOfLine_73 6 rfl ?_
    refine v_lmul gC d_Sl_cellsRightOfLine_75 (20 * ((((gSl_ends s0) x1) * x5) + (((gSl_ends s0) x2) * x3))) rfl ?_
    obtain ⟨hg10, hg11, hg12, h⟩ := h
    refine v_ldiv gC d_Sl_cellsRightOfLine_76 hg10 hg11 hg12 ?_
    refine v_l2i gC d_Sl_cellsRightOfLine_77 ?_
    refine v_istore (lv' := [(0, .ref (d0 0)), (1, .int (zI x1)), (2, .int (zI x2)), (3, .long (lI x3)), (5, .long (lI x5)), (7, .long (lI ((((gSl_ends s0) (x1 + 1)) * x5) + (((gSl_ends s0) (x2 + 1)) * x3)))), (9, .long (lI ((((gSl_ends s0) x1) * x5) + (((gSl_ends s0) x2) * x3)))), (11, .int (zI (Int.tdiv ((2 * ((((gSl_ends s0) (x1 + 1)) * x5) + (((gSl_ends s0) (x2 + 1)) * x3))) + (11 * ((((gSl_ends s0) x1) * x5) + (((gSl_ends s0) x2) * x3)))) (20 * ((((gSl_ends s0) x1) * x5) + (((gSl_ends s0) x2) * x3))))))]) gC d_Sl_cellsRightOfLine_78 (by decide) [1, 2, 3, 4, 5, 6, 7, 0] rfl ?_
    refine v_sipush gC d_Sl_cellsRightOfLine_80 (by decide) ?_
    refine v_sipush gC d_Sl_cellsRightOfLine_83 (by decide) ?_
    refine v_iload gC d_Sl_cellsRightOfLine_86 7 rfl ?_
    obtain ⟨hg13, h⟩ := h
    refine v_ishl gC d_Sl_cellsRightOfLine_88 hg13 ?_
    refine v_iand gC d_Sl_cellsRightOfLine_89 ?_
    exact gret _ _ _ _ d_Sl_cellsRightOfLine_90 ⟨iand 4095 (4095 * 2 ^ Int.toNat (Int.tdiv ((2 * ((((gSl_ends s0) (x1 + 1)) * x5) + (((gSl_ends s0) (x2 + 1)) * x3))) + (11 * ((((gSl_ends s0) x1) * x5) + (((gSl_ends s0) x2) * x3)))) (20 * ((((gSl_ends s0) x1) * x5) + (((gSl_ends s0) x2) * x3))))), rfl, rfl, h⟩
  · replace h := h.2 hc
    refine v_iconst gC d_Sl_cellsRightOfLine_55 ?_
    exact gret _ _ _ _ d_Sl_cellsRightOfLine_56 ⟨0, rfl, rfl, h⟩

set_option maxHeartbeats 4000000 in
set_option maxRecDepth 100000 in
theorem k_Sl_cellsRightOfCut (l : Launch) (D : va_G) (K : Nat → ClassId) (d0 : Nat → Nat) (x1 : Int) (s0 : s_Sl) (Q : Int → Prop) (h : wp_Sl_cellsRightOfCut x1 s0 Q) : Kt l D K y_Sl_cellsRightOfCut b_Sl_cellsRightOfCut 5 (some .int) 1 31 [.ref (d0 0), .int (zI x1)] (w_Sl K d0 s0) (fun v w1 => ∃ (r : Int), v = some (.int (zI r)) ∧ w1 = (w_Sl K d0 s0) ∧ Q r) := by
  refine Kt.ofI (by decide +kernel) (Nat.le_of_ble_eq_true rfl) (lv0 := [(0, .ref (d0 0)), (1, .int (zI x1))]) rfl ?_
  intro gp ge gR gs gm ga gb gh gc gA gQ gRf gRl gC gret
  unfold wp_Sl_cellsRightOfCut at h
  replace h := h
    (fun (v3 : Int) (v4 : Int) (t0 : Int) (t1 : Int) => V gp l ge gR gs gm ga gb gh gc D gA 5 0 0 gQ (w_Sl K d0 s0) 61 [(0, .ref (d0 0)), (3, .int (zI v3)), (4, .int (zI v4))] [.int (zI t0), .int (zI t1)])
    (by
      intro v3 v4 t0 t1 h
      obtain ⟨hg5, hg6, h⟩ := h
      refine v_icmp_ne (tgt := 66) gC d_Sl_cellsRightOfCut_61 (by decide) hg5 hg6 (fun hc => ?_) (fun hc => ?_)
      · replace h := h.1 hc
        refine v_iload_n gC d_Sl_cellsRightOfCut_66 rfl 1 rfl ?_
        obtain ⟨hg7, h⟩ := h
        refine v_if_le (tgt := 85) gC d_Sl_cellsRightOfCut_67 (by decide) hg7 (fun hc => ?_) (fun hc => ?_)
        · replace h := h.1 hc
          refine v_aload_n gC d_Sl_cellsRightOfCut_85 rfl 0 rfl ?_
          refine v_iconst gC d_Sl_cellsRightOfCut_86 ?_
          refine v_iconst gC d_Sl_cellsRightOfCut_87 ?_
          refine v_iload_n gC d_Sl_cellsRightOfCut_88 rfl 1 rfl ?_
          refine v_ineg gC d_Sl_cellsRightOfCut_89 ?_
          obtain ⟨hg8, h⟩ := h
          refine v_i2l gC d_Sl_cellsRightOfCut_90 hg8 ?_
          refine v_iload gC d_Sl_cellsRightOfCut_91 2 rfl ?_
          obtain ⟨hg9, h⟩ := h
          refine v_i2l gC d_Sl_cellsRightOfCut_93 hg9 ?_
          refine v_callV (rest := []) gC (k_Sl_cellsRightOfLine l D K d0 0 3 (-v3) v4 s0 _ h) wV_Sl_91 rfl ⟨by omega, by omega, Nat.zero_le _, Nat.zero_le _⟩ 0 rfl rfl [0, 1, 2, 3, 4, 5, 6, 7] [] rfl (by decide) rfl (by decide) (by decide) rfl (Nat.le_of_ble_eq_true rfl) d_Sl_cellsRightOfCut_94 (fun v w1 hp => ?_)
          obtain ⟨r10, rfl, rfl, h⟩ := hp
          refine v_after (ws' := (w_Sl K d0 s0)) (st' := [.int (zI r10)]) [0, 1, 2, 3, 4, 5, 6, 7] (by decide) rfl rfl ?_
          exact gret _ _ _ _ d_Sl_cellsRightOfCut_97 ⟨r10, rfl, rfl, h⟩
        · replace h := h.2 hc
          refine v_aload_n gC d_Sl_cellsRightOfCut_70 rfl 0 rfl ?_
          refine v_iconst gC d_Sl_cellsRightOfCut_71 ?_
          refine v_iconst gC d_Sl_cellsRightOfCut_72 ?_
          refine v_iload gC d_Sl_cellsRightOfCut_73 2 rfl ?_
          refine v_ineg gC d_Sl_cellsRightOfCut_75 ?_
          obtain ⟨hg11, h⟩ := h
          refine v_i2l gC d_Sl_cellsRightOfCut_76 hg11 ?_
          refine v_iload_n gC d_Sl_cellsRightOfCut_77 rfl 1 rfl ?_
          refine v_i2l gC d_Sl_cellsRightOfCut_78 hg7 ?_
          refine v_callV (rest := []) gC (k_Sl_cellsRightOfLine l D K d0 3 0 (-v4) v3 s0 _ h) wV_Sl_91 rfl ⟨by omega, by omega, Nat.zero_le _, Nat.zero_le _⟩ 0 rfl rfl [0, 1, 2, 3, 4, 5, 6, 7] [] rfl (by decide) rfl (by decide) (by decide) rfl (Nat.le_of_ble_eq_true rfl) d_Sl_cellsRightOfCut_79 (fun v w1 hp => ?_)
          obtain ⟨r12, rfl, rfl, h⟩ := hp
          refine v_after (ws' := (w_Sl K d0 s0)) (st' := [.int (zI r12)]) [0, 1, 2, 3, 4, 5, 6, 7] (by decide) rfl rfl ?_
          refine v_goto (tgt := 97) gC d_Sl_cellsRightOfCut_82 (by decide) ?_
          exact gret _ _ _ _ d_Sl_cellsRightOfCut_97 ⟨r12, rfl, rfl, h⟩
      · replace h := h.2 hc
        refine v_iconst gC d_Sl_cellsRightOfCut_64 ?_
        exact gret _ _ _ _ d_Sl_cellsRightOfCut_65 ⟨0, rfl, rfl, h⟩)
  refine v_iload_n gC d_Sl_cellsRightOfCut_0 rfl 1 rfl ?_
  refine v_callS (rest := []) gC (k_Sl_doubleCentre l D K x1 _ h) wS_Sl_88 rfl ⟨by omega, by omega, Nat.zero_le _, Nat.zero_le _⟩ [] [0, 1, 2, 3, 4, 5, 6, 7] rfl (by decide) rfl (by decide) (by decide) rfl (Nat.le_of_ble_eq_true rfl) d_Sl_cellsRightOfCut_1 (fun v w1 hp => ?_)
  obtain ⟨r1, rfl, rfl, h⟩ := hp
  refine v_after (ws' := (w_Sl K d0 s0)) (st' := [.int (zI r1)]) [0, 1, 2, 3, 4, 5, 6, 7] (by decide) rfl rfl ?_
  refine v_istore_n (lv' := [(0, .ref (d0 0)), (1, .int (zI x1)), (2, .int (zI r1))]) gC d_Sl_cellsRightOfCut_4 rfl (by decide) [1, 2, 0] rfl ?_
  refine v_iconst gC d_Sl_cellsRightOfCut_5 ?_
  refine v_aload_n gC d_Sl_cellsRightOfCut_6 rfl 0 rfl ?_
  refine v_get (v := .ref (d0 1)) gC in_Sl 0 rfl rfl 1 (by decide) fl_Sl_9 rfl d_Sl_cellsRightOfCut_7 ?_
  refine v_iconst gC d_Sl_cellsRightOfCut_10 ?_
  refine v_iald (g := (gSl_ends s0)) gC 1 0 rfl rfl (by decide) rfl (by decide) d_Sl_cellsRightOfCut_11 ?_
  refine v_imul gC d_Sl_cellsRightOfCut_12 (2 * ((gSl_ends s0) 2)) rfl ?_
  refine v_iload_n gC d_Sl_cellsRightOfCut_13 rfl 2 rfl ?_
  refine v_aload_n gC d_Sl_cellsRightOfCut_14 rfl 0 rfl ?_
  refine v_get (v := .ref (d0 1)) gC in_Sl 0 rfl rfl 1 (by decide) fl_Sl_9 rfl d_Sl_cellsRightOfCut_15 ?_
  refine v_iconst gC d_Sl_cellsRightOfCut_18 ?_
  refine v_iald (g := (gSl_ends s0)) gC 1 0 rfl rfl (by decide) rfl (by decide) d_Sl_cellsRightOfCut_19 ?_
  refine v_imul gC d_Sl_cellsRightOfCut_20 (r1 * ((gSl_ends s0) 0)) rfl ?_
  refine v_isub gC d_Sl_cellsRightOfCut_21 ((2 * ((gSl_ends s0) 2)) - (r1 * ((gSl_ends s0) 0))) rfl ?_
  refine v_istore_n (lv' := [(0, .ref (d0 0)), (1, .int (zI x1)), (2, .int (zI r1)), (3, .int (zI ((2 * ((gSl_ends s0) 2)) - (r1 * ((gSl_ends s0) 0)))))]) gC d_Sl_cellsRightOfCut_22 rfl (by decide) [1, 2, 3, 0] rfl ?_
  refine v_iconst gC d_Sl_cellsRightOfCut_23 ?_
  refine v_aload_n gC d_Sl_cellsRightOfCut_24 rfl 0 rfl ?_
  refine v_get (v := .ref (d0 1)) gC in_Sl 0 rfl rfl 1 (by decide) fl_Sl_9 rfl d_Sl_cellsRightOfCut_25 ?_
  refine v_iconst gC d_Sl_cellsRightOfCut_28 ?_
  refine v_iald (g := (gSl_ends s0)) gC 1 0 rfl rfl (by decide) rfl (by decide) d_Sl_cellsRightOfCut_29 ?_
  refine v_imul gC d_Sl_cellsRightOfCut_30 (2 * ((gSl_ends s0) 5)) rfl ?_
  refine v_iload_n gC d_Sl_cellsRightOfCut_31 rfl 2 rfl ?_
  refine v_aload_n gC d_Sl_cellsRightOfCut_32 rfl 0 rfl ?_
  refine v_get (v := .ref (d0 1)) gC in_Sl 0 rfl rfl 1 (by decide) fl_Sl_9 rfl d_Sl_cellsRightOfCut_33 ?_
  refine v_iconst gC d_Sl_cellsRightOfCut_36 ?_
  refine v_iald (g := (gSl_ends s0)) gC 1 0 rfl rfl (by decide) rfl (by decide) d_Sl_cellsRightOfCut_37 ?_
  refine v_imul gC d_Sl_cellsRightOfCut_38 (r1 * ((gSl_ends s0) 3)) rfl ?_
  refine v_isub gC d_Sl_cellsRightOfCut_39 ((2 * ((gSl_ends s0) 5)) - (r1 * ((gSl_ends s0) 3))) rfl ?_
  refine v_istore (lv' := [(0, .ref (d0 0)), (1, .int (zI x1)), (2, .int (zI r1)), (3, .int (zI ((2 * ((gSl_ends s0) 2)) - (r1 * ((gSl_ends s0) 0))))), (4, .int (zI ((2 * ((gSl_ends s0) 5)) - (r1 * ((gSl_ends s0) 3)))))]) gC d_Sl_cellsRightOfCut_40 (by decide) [1, 2, 3, 4, 0] rfl ?_
  refine v_iload_n gC d_Sl_cellsRightOfCut_42 rfl 3 rfl ?_
  obtain ⟨hg2, h⟩ := h
  refine v_if_le (tgt := 50) gC d_Sl_cellsRightOfCut_43 (by decide) hg2 (fun hc => ?_) (fun hc => ?_)
  · replace h := h.1 hc
    refine v_iconst gC d_Sl_cellsRightOfCut_50 ?_
    refine v_iload gC d_Sl_cellsRightOfCut_51 4 rfl ?_
    obtain ⟨hg3, h⟩ := h
    refine v_if_le (tgt := 60) gC d_Sl_cellsRightOfCut_53 (by decide) hg3 (fun hc => ?_) (fun hc => ?_)
    · replace h := h.1 hc
      refine v_iconst gC d_Sl_cellsRightOfCut_60 ?_
      refine v_loc (lv' := [(0, .ref (d0 0)), (3, .int (zI ((2 * ((gSl_ends s0) 2)) - (r1 * ((gSl_ends s0) 0))))), (4, .int (zI ((2 * ((gSl_ends s0) 5)) - (r1 * ((gSl_ends s0) 3)))))]) [0, 3, 4] rfl ?_
      exact h
    · replace h := h.2 hc
      refine v_iconst gC d_Sl_cellsRightOfCut_56 ?_
      refine v_goto (tgt := 61) gC d_Sl_cellsRightOfCut_57 (by decide) ?_
      refine v_loc (lv' := [(0, .ref (d0 0)), (3, .int (zI ((2 * ((gSl_ends s0) 2)) - (r1 * ((gSl_ends s0) 0))))), (4, .int (zI ((2 * ((gSl_ends s0) 5)) - (r1 * ((gSl_ends s0) 3)))))]) [0, 3, 4] rfl ?_
      exact h
  · replace h := h.2 hc
    refine v_iconst gC d_Sl_cellsRightOfCut_46 ?_
    refine v_goto (tgt := 51) gC d_Sl_cellsRightOfCut_47 (by decide) ?_
    refine v_iload gC d_Sl_cellsRightOfCut_51 4 rfl ?_
    obtain ⟨hg4, h⟩ := h
    refine v_if_le (tgt := 60) gC d_Sl_cellsRightOfCut_53 (by decide) hg4 (fun hc => ?_) (fun hc => ?_)
    · replace h := h.1 hc
      refine v_iconst gC d_Sl_cellsRightOfCut_60 ?_
      refine v_loc (lv' := [(0, .ref (d0 0)), (3, .int (zI ((2 * ((gSl_ends s0) 2)) - (r1 * ((gSl_ends s0) 0))))), (4, .int (zI ((2 * ((gSl_ends s0) 5)) - (r1 * ((gSl_ends s0) 3)))))]) [0, 3, 4] rfl ?_
      exact h
    · replace h := h.2 hc
      refine v_iconst gC d_Sl_cellsRightOfCut_56 ?_
      refine v_goto (tgt := 61) gC d_Sl_cellsRightOfCut_57 (by decide) ?_
      refine v_loc (lv' := [(0, .ref (d0 0)), (3, .int (zI ((2 * ((gSl_ends s0) 2)) - (r1 * ((gSl_ends s0) 0))))), (4, .int (zI ((2 * ((gSl_ends s0) 5)) - (r1 * ((gSl_ends s0) 3)))))]) [0, 3, 4] rfl ?_
      exact h

set_option maxHeartbeats 4000000 in
set_option maxRecDepth 100000 in
theorem k_Sl_fillLayer (l : Launch) (D : va_G) (K : Nat → ClassId) (d0 : Nat → Nat) (x1 : Int) (s0 : s_Sl) (Q : s_Sl → Prop) (h : wp_Sl_fillLayer x1 s0 Q) : Kt l D K y_Sl_fillLayer b_Sl_fillLayer 4 none 3 73 [.ref (d0 0), .int (zI x1)] (w_Sl K d0 s0) (fun v w1 => ∃ (u0 : s_Sl), v = none ∧ w1 = (w_Sl K d0 u0) ∧ Q u0) := by
  refine Kt.ofV (by decide +kernel) (Nat.le_of_ble_eq_true rfl) (lv0 := [(0, .ref (d0 0)), (1, .int (zI x1))]) rfl ?_
  intro gp ge gR gs gm ga gb gh gc gA gQ gRf gRl gC gret
  unfold wp_Sl_fillLayer at h
  replace h := h
    (fun (v2 : Int) (s0 : s_Sl) => V gp l ge gR gs gm ga gb gh gc D gA 4 0 0 gQ (w_Sl K d0 s0) 2 [(0, .ref (d0 0)), (1, .int (zI x1)), (2, .int (zI v2))] [])
    (fun (v2 : Int) (s0 : s_Sl) => V gp l ge gR gs gm ga gb gh gc D gA 4 0 0 gQ (w_Sl K d0 s0) 28 [(0, .ref (d0 0)), (1, .int (zI x1)), (2, .int (zI v2))] [])
    (fun (v2 : Int) (v3 : Int) (s0 : s_Sl) => V gp l ge gR gs gm ga gb gh gc D gA 4 0 0 gQ (w_Sl K d0 s0) 50 [(0, .ref (d0 0)), (1, .int (zI x1)), (2, .int (zI v2)), (3, .int (zI v3))] [])
    (by
      intro v2 s0 h
      refine v_iload_n gC d_Sl_fillLayer_2 rfl 2 rfl ?_
      refine v_bipush gC d_Sl_fillLayer_3 (by decide) ?_
      obtain ⟨hg1, h⟩ := h
      refine v_icmp_ge (tgt := 26) gC d_Sl_fillLayer_5 (by decide) hg1 (by decide) (fun hc => ?_) (fun hc => ?_)
      · replace h := h.1 hc
        refine v_iconst gC d_Sl_fillLayer_26 ?_
        refine v_istore_n (lv' := [(0, .ref (d0 0)), (1, .int (zI x1)), (2, .int (zI 0))]) gC d_Sl_fillLayer_27 rfl (by decide) [1, 2, 0] rfl ?_
        refine v_loc (lv' := [(0, .ref (d0 0)), (1, .int (zI x1)), (2, .int (zI 0))]) [0, 1, 2] rfl ?_
        exact h
      · replace h := h.2 hc
        refine v_aload_n gC d_Sl_fillLayer_8 rfl 0 rfl ?_
        refine v_get (v := .ref (d0 2)) gC in_Sl 0 rfl rfl 4 (by decide) fl_Sl_22 rfl d_Sl_fillLayer_9 ?_
        refine v_iload_n gC d_Sl_fillLayer_12 rfl 1 rfl ?_
        refine v_bipush gC d_Sl_fillLayer_13 (by decide) ?_
        refine v_imul gC d_Sl_fillLayer_15 (x1 * 12) rfl ?_
        refine v_iload_n gC d_Sl_fillLayer_16 rfl 2 rfl ?_
        refine v_iadd gC d_Sl_fillLayer_17 ((x1 * 12) + v2) rfl ?_
        refine v_iconst gC d_Sl_fillLayer_18 ?_
        obtain ⟨hg2, h⟩ := h
        refine v_iast (g := (gSl_solidRows s0)) (ws' := (w_Sl K d0 (mkSl (gSl_count s0) (gSl_ends s0) (gSl_thickness s0) (gSl_mesh s0) (iset (gSl_solidRows s0) ((x1 * 12) + v2) 0)))) gC 2 0 rfl rfl hg2 rfl (by decide) rfl d_Sl_fillLayer_19 ?_
        refine v_iinc (lv' := [(0, .ref (d0 0)), (1, .int (zI x1)), (2, .int (zI (v2 + 1)))]) gC d_Sl_fillLayer_20 2 rfl (by decide) (v2 + 1) rfl [1, 2, 0] rfl ?_
        refine v_goto (tgt := 2) gC d_Sl_fillLayer_23 (by decide) ?_
        refine v_loc (lv' := [(0, .ref (d0 0)), (1, .int (zI x1)), (2, .int (zI (v2 + 1)))]) [0, 1, 2] rfl ?_
        exact h)
    (by
      intro v2 s0 h
      refine v_iload_n gC d_Sl_fillLayer_28 rfl 2 rfl ?_
      refine v_aload_n gC d_Sl_fillLayer_29 rfl 0 rfl ?_
      refine v_get (v := .ref (d0 3)) gC in_Sl 0 rfl rfl 3 (by decide) fl_Sl_18 rfl d_Sl_fillLayer_30 ?_
      refine v_get (v := .int (zI (gMe_triangles (gSl_mesh s0)))) gC in_Me 3 rfl rfl 5 (by decide) fl_Sl_60 rfl d_Sl_fillLayer_33 ?_
      obtain ⟨hg3, hg4, h⟩ := h
      refine v_icmp_ge (tgt := 87) gC d_Sl_fillLayer_36 (by decide) hg3 hg4 (fun hc => ?_) (fun hc => ?_)
      · replace h := h.1 hc
        exact gret _ _ _ d_Sl_fillLayer_87 ⟨s0, rfl, rfl, h⟩
      · replace h := h.2 hc
        refine v_aload_n gC d_Sl_fillLayer_39 rfl 0 rfl ?_
        refine v_iload_n gC d_Sl_fillLayer_40 rfl 1 rfl ?_
        refine v_iload_n gC d_Sl_fillLayer_41 rfl 2 rfl ?_
        refine v_callV (rest := []) gC (k_Sl_findEnds l D K d0 x1 v2 s0 _ h) wV_Sl_82 rfl ⟨by omega, by omega, Nat.zero_le _, Nat.zero_le _⟩ 0 rfl rfl [0, 1, 2, 3, 4, 5, 6, 7] [] rfl (by decide) rfl (by decide) (by decide) rfl (Nat.le_of_ble_eq_true rfl) d_Sl_fillLayer_42 (fun v w1 hp => ?_)
        obtain ⟨r5, u6, rfl, rfl, h⟩ := hp
        refine v_after (ws' := (w_Sl K d0 u6)) (st' := [.int (zI r5)]) [0, 1, 2, 3, 4, 5, 6, 7] (by decide) rfl rfl ?_
        obtain ⟨hg7, h⟩ := h
        refine v_if_eq (tgt := 81) gC d_Sl_fillLayer_45 (by decide) hg7 (fun hc => ?_) (fun hc => ?_)
        · replace h := h.1 hc
          refine v_iinc (lv' := [(0, .ref (d0 0)), (1, .int (zI x1)), (2, .int (zI (v2 + 1)))]) gC d_Sl_fillLayer_81 2 rfl (by decide) (v2 + 1) rfl [1, 2, 0] rfl ?_
          refine v_goto (tgt := 28) gC d_Sl_fillLayer_84 (by decide) ?_
          refine v_loc (lv' := [(0, .ref (d0 0)), (1, .int (zI x1)), (2, .int (zI (v2 + 1)))]) [0, 1, 2] rfl ?_
          exact h
        · replace h := h.2 hc
          refine v_iconst gC d_Sl_fillLayer_48 ?_
          refine v_istore_n (lv' := [(0, .ref (d0 0)), (1, .int (zI x1)), (2, .int (zI v2)), (3, .int (zI 0))]) gC d_Sl_fillLayer_49 rfl (by decide) [1, 2, 3, 0] rfl ?_
          refine v_loc (lv' := [(0, .ref (d0 0)), (1, .int (zI x1)), (2, .int (zI v2)), (3, .int (zI 0))]) [0, 1, 2, 3] rfl ?_
          exact h)
    (by
      intro v2 v3 s0 h
      refine v_iload_n gC d_Sl_fillLayer_50 rfl 3 rfl ?_
      refine v_bipush gC d_Sl_fillLayer_51 (by decide) ?_
      obtain ⟨hg8, h⟩ := h
      refine v_icmp_ge (tgt := 81) gC d_Sl_fillLayer_53 (by decide) hg8 (by decide) (fun hc => ?_) (fun hc => ?_)
      · replace h := h.1 hc
        refine v_iinc (lv' := [(0, .ref (d0 0)), (1, .int (zI x1)), (2, .int (zI (v2 + 1))), (3, .int (zI v3))]) gC d_Sl_fillLayer_81 2 rfl (by decide) (v2 + 1) rfl [1, 2, 0, 3] rfl ?_
        refine v_goto (tgt := 28) gC d_Sl_fillLayer_84 (by decide) ?_
        refine v_loc (lv' := [(0, .ref (d0 0)), (1, .int (zI x1)), (2, .int (zI (v2 + 1)))]) [0, 1, 2] rfl ?_
        exact h
      · replace h := h.2 hc
        refine v_aload_n gC d_Sl_fillLayer_56 rfl 0 rfl ?_
        refine v_get (v := .ref (d0 2)) gC in_Sl 0 rfl rfl 4 (by decide) fl_Sl_22 rfl d_Sl_fillLayer_57 ?_
        refine v_iload_n gC d_Sl_fillLayer_60 rfl 1 rfl ?_
        refine v_bipush gC d_Sl_fillLayer_61 (by decide) ?_
        refine v_imul gC d_Sl_fillLayer_63 (x1 * 12) rfl ?_
        refine v_iload_n gC d_Sl_fillLayer_64 rfl 3 rfl ?_
        refine v_iadd gC d_Sl_fillLayer_65 ((x1 * 12) + v3) rfl ?_
        refine v_dup2 gC d_Sl_fillLayer_66 rfl rfl ?_
        obtain ⟨hg9, h⟩ := h
        refine v_iald (g := (gSl_solidRows s0)) gC 2 0 rfl rfl hg9 rfl (by decide) d_Sl_fillLayer_67 ?_
        refine v_aload_n gC d_Sl_fillLayer_68 rfl 0 rfl ?_
        refine v_iload_n gC d_Sl_fillLayer_69 rfl 3 rfl ?_
        refine v_callV (rest := [.int (zI ((gSl_solidRows s0) ((x1 * 12) + v3))), .int (zI ((x1 * 12) + v3)), .ref (d0 2)]) gC (k_Sl_cellsRightOfCut l D K d0 v3 s0 _ h) wV_Sl_85 rfl ⟨by omega, by omega, Nat.zero_le _, Nat.zero_le _⟩ 0 rfl rfl [0, 1, 2, 3, 4, 5, 6, 7] [] rfl (by decide) rfl (by decide) (by decide) rfl (Nat.le_of_ble_eq_true rfl) d_Sl_fillLayer_70 (fun v w1 hp => ?_)
        obtain ⟨r10, rfl, rfl, h⟩ := hp
        refine v_after (ws' := (w_Sl K d0 s0)) (st' := [.int (zI r10), .int (zI ((gSl_solidRows s0) ((x1 * 12) + v3))), .int (zI ((x1 * 12) + v3)), .ref (d0 2)]) [0, 1, 2, 3, 4, 5, 6, 7] (by decide) rfl rfl ?_
        refine v_ixor gC d_Sl_fillLayer_73 ?_
        refine v_iast (g := (gSl_solidRows s0)) (ws' := (w_Sl K d0 (mkSl (gSl_count s0) (gSl_ends s0) (gSl_thickness s0) (gSl_mesh s0) (iset (gSl_solidRows s0) ((x1 * 12) + v3) (ixor ((gSl_solidRows s0) ((x1 * 12) + v3)) r10))))) gC 2 0 rfl rfl hg9 rfl (by decide) rfl d_Sl_fillLayer_74 ?_
        refine v_iinc (lv' := [(0, .ref (d0 0)), (1, .int (zI x1)), (2, .int (zI v2)), (3, .int (zI (v3 + 1)))]) gC d_Sl_fillLayer_75 3 rfl (by decide) (v3 + 1) rfl [1, 2, 3, 0] rfl ?_
        refine v_goto (tgt := 50) gC d_Sl_fillLayer_78 (by decide) ?_
        refine v_loc (lv' := [(0, .ref (d0 0)), (1, .int (zI x1)), (2, .int (zI v2)), (3, .int (zI (v3 + 1)))]) [0, 1, 2, 3] rfl ?_
        exact h)
  refine v_iconst gC d_Sl_fillLayer_0 ?_
  refine v_istore_n (lv' := [(0, .ref (d0 0)), (1, .int (zI x1)), (2, .int (zI 0))]) gC d_Sl_fillLayer_1 rfl (by decide) [1, 2, 0] rfl ?_
  refine v_loc (lv' := [(0, .ref (d0 0)), (1, .int (zI x1)), (2, .int (zI 0))]) [0, 1, 2] rfl ?_
  exact h

set_option maxHeartbeats 4000000 in
set_option maxRecDepth 100000 in
theorem k_Sl_cutAnew (l : Launch) (D : va_G) (K : Nat → ClassId) (d0 : Nat → Nat) (d1 : Nat → Nat) (x2 : Int) (s0 : s_Sl) (s1 : s_Me) (Q : s_Sl → Prop) (h : wp_Sl_cutAnew x2 s0 s1 Q) : Kt l D K y_Sl_cutAnew b_Sl_cutAnew 5 none 4 96 [.ref (d0 0), .ref (d1 0), .int (zI x2)] (w_Sl K d0 s0 ++ w_Me K d1 s1) (fun v w1 => ∃ (u0 : s_Sl), v = none ∧ w1 = (w_Sl K d0 u0 ++ w_Me K d1 s1) ∧ Q u0) := by
  refine Kt.ofV (by decide +kernel) (Nat.le_of_ble_eq_true rfl) (lv0 := [(0, .ref (d0 0)), (1, .ref (d1 0)), (2, .int (zI x2))]) rfl ?_
  intro gp ge gR gs gm ga gb gh gc gA gQ gRf gRl gC gret
  unfold wp_Sl_cutAnew at h
  replace h := h
    (fun (v3 : Int) (v4 : Int) (s0 : s_Sl) => V gp l ge gR gs gm ga gb gh gc D gA 5 0 0 gQ (w_Sl K d0 s0 ++ w_Me K d1 s1) 31 [(0, .ref (d0 0)), (3, .int (zI v3)), (4, .int (zI v4))] [])
    (by
      intro v3 v4 s0 h
      refine v_iload gC d_Sl_cutAnew_31 2 rfl ?_
      refine v_bipush gC d_Sl_cutAnew_33 (by decide) ?_
      obtain ⟨hg3, h⟩ := h
      refine v_icmp_ge (tgt := 70) gC d_Sl_cutAnew_35 (by decide) hg3 (by decide) (fun hc => ?_) (fun hc => ?_)
      · replace h := h.1 hc
        exact gret _ _ _ d_Sl_cutAnew_70 ⟨s0, rfl, rfl, h⟩
      · replace h := h.2 hc
        refine v_aload_n gC d_Sl_cutAnew_38 rfl 0 rfl ?_
        refine v_iload gC d_Sl_cutAnew_39 2 rfl ?_
        refine v_callV (rest := []) gC (k_Sl_doubleHeight l D K d0 v4 s0 _ h) wV_Sl_40 rfl ⟨by omega, by omega, Nat.zero_le _, Nat.zero_le _⟩ 0 rfl rfl [0, 1, 2, 3, 4, 5, 6, 7] [8, 9, 10, 11, 12] rfl (by decide) rfl (by decide) (by decide) rfl (Nat.le_of_ble_eq_true rfl) d_Sl_cutAnew_41 (fun v w1 hp => ?_)
        obtain ⟨r4, rfl, rfl, h⟩ := hp
        refine v_after (ws' := (w_Sl K d0 s0 ++ w_Me K d1 s1)) (st' := [.int (zI r4)]) [5, 6, 7, 8, 9, 10, 11, 12, 0, 1, 2, 3, 4] (by decide) rfl rfl ?_
        refine v_iload_n gC d_Sl_cutAnew_44 rfl 1 rfl ?_
        obtain ⟨hg5, hg6, h⟩ := h
        refine v_icmp_ge (tgt := 70) gC d_Sl_cutAnew_45 (by decide) hg5 hg6 (fun hc => ?_) (fun hc => ?_)
        · replace h := h.1 hc
          exact gret _ _ _ d_Sl_cutAnew_70 ⟨s0, rfl, rfl, h⟩
        · replace h := h.2 hc
          refine v_aload_n gC d_Sl_cutAnew_48 rfl 0 rfl ?_
          refine v_dup gC d_Sl_cutAnew_49 rfl ?_
          refine v_get (v := .int (zI (gSl_count s0))) gC in_Sl 0 rfl rfl 0 (by decide) fl_Sl_37 rfl d_Sl_cutAnew_50 ?_
          refine v_iconst gC d_Sl_cutAnew_53 ?_
          refine v_iadd gC d_Sl_cutAnew_54 ((gSl_count s0) + 1) rfl ?_
          refine v_puti (ws' := (w_Sl K d0 (mkSl ((gSl_count s0) + 1) (gSl_ends s0) (gSl_thickness s0) (gSl_mesh s0) (gSl_solidRows s0)) ++ w_Me K d1 s1)) gC in_Sl t_Sl ok_Sl n_Sl 0 rfl rfl 0 (by decide) fl_Sl_37 rfl (by decide +kernel) (Nat.le_of_ble_eq_true rfl) rfl d_Sl_cutAnew_55 ?_
          refine v_aload_n gC d_Sl_cutAnew_58 rfl 0 rfl ?_
          refine v_iload gC d_Sl_cutAnew_59 2 rfl ?_
          refine v_callV (rest := []) gC (k_Sl_fillLayer l D K d0 v4 (mkSl ((gSl_count s0) + 1) (gSl_ends s0) (gSl_thickness s0) (gSl_mesh s0) (gSl_solidRows s0)) _ h) wV_Sl_44 rfl ⟨by omega, by omega, Nat.zero_le _, Nat.zero_le _⟩ 0 rfl rfl [0, 1, 2, 3, 4, 5, 6, 7] [8, 9, 10, 11, 12] rfl (by decide) rfl (by decide) (by decide) rfl (Nat.le_of_ble_eq_true rfl) d_Sl_cutAnew_61 (fun v w1 hp => ?_)
          obtain ⟨u7, rfl, rfl, h⟩ := hp
          refine v_after (ws' := (w_Sl K d0 u7 ++ w_Me K d1 s1)) (st' := []) [5, 6, 7, 8, 9, 10, 11, 12, 0, 1, 2, 3, 4] (by decide) rfl rfl ?_
          refine v_iinc (lv' := [(0, .ref (d0 0)), (3, .int (zI v3)), (4, .int (zI (v4 + 1)))]) gC d_Sl_cutAnew_64 2 rfl (by decide) (v4 + 1) rfl [1, 2, 0] rfl ?_
          refine v_goto (tgt := 31) gC d_Sl_cutAnew_67 (by decide) ?_
          refine v_loc (lv' := [(0, .ref (d0 0)), (3, .int (zI v3)), (4, .int (zI (v4 + 1)))]) [0, 1, 2] rfl ?_
          exact h)
  refine v_aload_n gC d_Sl_cutAnew_0 rfl 0 rfl ?_
  refine v_get (v := .ref (d0 3)) gC in_Sl 0 rfl rfl 3 (by decide) fl_Sl_18 rfl d_Sl_cutAnew_1 ?_
  refine v_aload_n gC d_Sl_cutAnew_4 rfl 1 rfl ?_
  refine v_callV (rest := []) gC (k_Me_copyFrom l D K (fun i => d0 (i + 3)) d1 (gSl_mesh s0) s1 _ h) wV_Sl_25 rfl ⟨by omega, by omega, Nat.zero_le _, Nat.zero_le _⟩ 0 rfl rfl [3, 4, 5, 6, 7, 8, 9, 10, 11, 12] [0, 1, 2] rfl (by decide) rfl (by decide) (by decide) rfl (Nat.le_of_ble_eq_true rfl) d_Sl_cutAnew_5 (fun v w1 hp => ?_)
  obtain ⟨u1, rfl, rfl, h⟩ := hp
  refine v_after (ws' := (w_Sl K d0 (mkSl (gSl_count s0) (gSl_ends s0) (gSl_thickness s0) u1 (gSl_solidRows s0)) ++ w_Me K d1 s1)) (st' := []) [0, 1, 2, 3, 4, 5, 6, 7, 8, 9, 10, 11, 12] (by decide) rfl rfl ?_
  refine v_aload_n gC d_Sl_cutAnew_8 rfl 0 rfl ?_
  refine v_iload_n gC d_Sl_cutAnew_9 rfl 2 rfl ?_
  refine v_puti (ws' := (w_Sl K d0 (mkSl (gSl_count s0) (gSl_ends s0) x2 u1 (gSl_solidRows s0)) ++ w_Me K d1 s1)) gC in_Sl t_Sl ok_Sl n_Sl 0 rfl rfl 2 (by decide) fl_Sl_29 rfl (by decide +kernel) (Nat.le_of_ble_eq_true rfl) rfl d_Sl_cutAnew_10 ?_
  refine v_iconst gC d_Sl_cutAnew_13 ?_
  refine v_aload_n gC d_Sl_cutAnew_14 rfl 0 rfl ?_
  refine v_get (v := .ref (d0 3)) gC in_Sl 0 rfl rfl 3 (by decide) fl_Sl_18 rfl d_Sl_cutAnew_15 ?_
  refine v_callV (rest := [.int (zI 2)]) gC (k_Me_greatestZ l D K (fun i => d0 (i + 3)) u1 _ h) wV_Sl_33 rfl ⟨by omega, by omega, Nat.zero_le _, Nat.zero_le _⟩ 0 rfl rfl [3, 4, 5, 6, 7] [0, 1, 2, 8, 9, 10, 11, 12] rfl (by decide) rfl (by decide) (by decide) rfl (Nat.le_of_ble_eq_true rfl) d_Sl_cutAnew_18 (fun v w1 hp => ?_)
  obtain ⟨r2, rfl, rfl, h⟩ := hp
  refine v_after (ws' := (w_Sl K d0 (mkSl (gSl_count s0) (gSl_ends s0) x2 u1 (gSl_solidRows s0)) ++ w_Me K d1 s1)) (st' := [.int (zI r2), .int (zI 2)]) [0, 1, 2, 8, 9, 10, 11, 12, 3, 4, 5, 6, 7] (by decide) rfl rfl ?_
  refine v_imul gC d_Sl_cutAnew_21 (2 * r2) rfl ?_
  refine v_istore_n (lv' := [(0, .ref (d0 0)), (1, .ref (d1 0)), (2, .int (zI x2)), (3, .int (zI (2 * r2)))]) gC d_Sl_cutAnew_22 rfl (by decide) [1, 2, 3, 0] rfl ?_
  refine v_aload_n gC d_Sl_cutAnew_23 rfl 0 rfl ?_
  refine v_iconst gC d_Sl_cutAnew_24 ?_
  refine v_puti (ws' := (w_Sl K d0 (mkSl 0 (gSl_ends s0) x2 u1 (gSl_solidRows s0)) ++ w_Me K d1 s1)) gC in_Sl t_Sl ok_Sl n_Sl 0 rfl rfl 0 (by decide) fl_Sl_37 rfl (by decide +kernel) (Nat.le_of_ble_eq_true rfl) rfl d_Sl_cutAnew_25 ?_
  refine v_iconst gC d_Sl_cutAnew_28 ?_
  refine v_istore (lv' := [(0, .ref (d0 0)), (1, .ref (d1 0)), (2, .int (zI x2)), (3, .int (zI (2 * r2))), (4, .int (zI 0))]) gC d_Sl_cutAnew_29 (by decide) [1, 2, 3, 4, 0] rfl ?_
  refine v_loc (lv' := [(0, .ref (d0 0)), (3, .int (zI (2 * r2))), (4, .int (zI 0))]) [0, 3, 4] rfl ?_
  exact h

set_option maxHeartbeats 4000000 in
set_option maxRecDepth 100000 in
theorem k_Sl_hasRow (l : Launch) (D : va_G) (K : Nat → ClassId) (d0 : Nat → Nat) (x1 : Int) (x2 : Int) (s0 : s_Sl) (Q : Int → Prop) (h : wp_Sl_hasRow x1 x2 s0 Q) : Kt l D K y_Sl_hasRow b_Sl_hasRow 3 (some .boolean) 1 21 [.ref (d0 0), .int (zI x1), .int (zI x2)] (w_Sl K d0 s0) (fun v w1 => ∃ (r : Int), v = some (.int (zI r)) ∧ w1 = (w_Sl K d0 s0) ∧ Q r) := by
  refine Kt.ofZ (by decide +kernel) (Nat.le_of_ble_eq_true rfl) (lv0 := [(0, .ref (d0 0)), (1, .int (zI x1)), (2, .int (zI x2))]) rfl ?_
  intro gp ge gR gs gm ga gb gh gc gA gQ gRf gRl gC gret
  unfold wp_Sl_hasRow at h
  refine v_aload_n gC d_Sl_hasRow_0 rfl 0 rfl ?_
  refine v_iload_n gC d_Sl_hasRow_1 rfl 1 rfl ?_
  refine v_callV (rest := []) gC (k_Sl_hasLayer l D K d0 x1 s0 _ h) wV_Sl_48 rfl ⟨by omega, by omega, Nat.zero_le _, Nat.zero_le _⟩ 0 rfl rfl [0, 1, 2, 3, 4, 5, 6, 7] [] rfl (by decide) rfl (by decide) (by decide) rfl (Nat.le_of_ble_eq_true rfl) d_Sl_hasRow_2 (fun v w1 hp => ?_)
  obtain ⟨r1, rfl, rfl, h⟩ := hp
  refine v_after (ws' := (w_Sl K d0 s0)) (st' := [.int (zI r1)]) [0, 1, 2, 3, 4, 5, 6, 7] (by decide) rfl rfl ?_
  obtain ⟨hg2, h⟩ := h
  refine v_if_eq (tgt := 22) gC d_Sl_hasRow_5 (by decide) hg2 (fun hc => ?_) (fun hc => ?_)
  · replace h := h.1 hc
    refine v_iconst gC d_Sl_hasRow_22 ?_
    exact gret _ _ _ _ d_Sl_hasRow_23 rfl ⟨0, rfl, rfl, h⟩
  · replace h := h.2 hc
    refine v_iload_n gC d_Sl_hasRow_8 rfl 2 rfl ?_
    obtain ⟨hg3, h⟩ := h
    refine v_if_lt (tgt := 22) gC d_Sl_hasRow_9 (by decide) hg3 (fun hc => ?_) (fun hc => ?_)
    · replace h := h.1 hc
      refine v_iconst gC d_Sl_hasRow_22 ?_
      exact gret _ _ _ _ d_Sl_hasRow_23 rfl ⟨0, rfl, rfl, h⟩
    · replace h := h.2 hc
      refine v_iload_n gC d_Sl_hasRow_12 rfl 2 rfl ?_
      refine v_bipush gC d_Sl_hasRow_13 (by decide) ?_
      refine v_icmp_ge (tgt := 22) gC d_Sl_hasRow_15 (by decide) hg3 (by decide) (fun hc => ?_) (fun hc => ?_)
      · replace h := h.1 hc
        refine v_iconst gC d_Sl_hasRow_22 ?_
        exact gret _ _ _ _ d_Sl_hasRow_23 rfl ⟨0, rfl, rfl, h⟩
      · replace h := h.2 hc
        refine v_iconst gC d_Sl_hasRow_18 ?_
        refine v_goto (tgt := 23) gC d_Sl_hasRow_19 (by decide) ?_
        exact gret _ _ _ _ d_Sl_hasRow_23 rfl ⟨1, rfl, rfl, h⟩

set_option maxHeartbeats 4000000 in
set_option maxRecDepth 100000 in
theorem k_Sl_solidRow (l : Launch) (D : va_G) (K : Nat → ClassId) (d0 : Nat → Nat) (x1 : Int) (x2 : Int) (s0 : s_Sl) (Q : Int → Prop) (h : wp_Sl_solidRow x1 x2 s0 Q) : Kt l D K y_Sl_solidRow b_Sl_solidRow 3 (some .int) 2 43 [.ref (d0 0), .int (zI x1), .int (zI x2)] (w_Sl K d0 s0) (fun v w1 => ∃ (r : Int), v = some (.int (zI r)) ∧ w1 = (w_Sl K d0 s0) ∧ Q r) := by
  refine Kt.ofI (by decide +kernel) (Nat.le_of_ble_eq_true rfl) (lv0 := [(0, .ref (d0 0)), (1, .int (zI x1)), (2, .int (zI x2))]) rfl ?_
  intro gp ge gR gs gm ga gb gh gc gA gQ gRf gRl gC gret
  unfold wp_Sl_solidRow at h
  refine v_aload_n gC d_Sl_solidRow_0 rfl 0 rfl ?_
  refine v_iload_n gC d_Sl_solidRow_1 rfl 1 rfl ?_
  refine v_iload_n gC d_Sl_solidRow_2 rfl 2 rfl ?_
  refine v_callV (rest := []) gC (k_Sl_hasRow l D K d0 x1 x2 s0 _ h) wV_Sl_52 rfl ⟨by omega, by omega, Nat.zero_le _, Nat.zero_le _⟩ 0 rfl rfl [0, 1, 2, 3, 4, 5, 6, 7] [] rfl (by decide) rfl (by decide) (by decide) rfl (Nat.le_of_ble_eq_true rfl) d_Sl_solidRow_3 (fun v w1 hp => ?_)
  obtain ⟨r1, rfl, rfl, h⟩ := hp
  refine v_after (ws' := (w_Sl K d0 s0)) (st' := [.int (zI r1)]) [0, 1, 2, 3, 4, 5, 6, 7] (by decide) rfl rfl ?_
  obtain ⟨hg2, h⟩ := h
  refine v_if_eq (tgt := 23) gC d_Sl_solidRow_6 (by decide) hg2 (fun hc => ?_) (fun hc => ?_)
  · replace h := h.1 hc
    refine v_iconst gC d_Sl_solidRow_23 ?_
    exact gret _ _ _ _ d_Sl_solidRow_24 ⟨0, rfl, rfl, h⟩
  · replace h := h.2 hc
    refine v_aload_n gC d_Sl_solidRow_9 rfl 0 rfl ?_
    refine v_get (v := .ref (d0 2)) gC in_Sl 0 rfl rfl 4 (by decide) fl_Sl_22 rfl d_Sl_solidRow_10 ?_
    refine v_iload_n gC d_Sl_solidRow_13 rfl 1 rfl ?_
    refine v_bipush gC d_Sl_solidRow_14 (by decide) ?_
    refine v_imul gC d_Sl_solidRow_16 (x1 * 12) rfl ?_
    refine v_iload_n gC d_Sl_solidRow_17 rfl 2 rfl ?_
    refine v_iadd gC d_Sl_solidRow_18 ((x1 * 12) + x2) rfl ?_
    obtain ⟨hg3, h⟩ := h
    refine v_iald (g := (gSl_solidRows s0)) gC 2 0 rfl rfl hg3 rfl (by decide) d_Sl_solidRow_19 ?_
    refine v_goto (tgt := 24) gC d_Sl_solidRow_20 (by decide) ?_
    exact gret _ _ _ _ d_Sl_solidRow_24 ⟨(gSl_solidRows s0) ((x1 * 12) + x2), rfl, rfl, h⟩

set_option maxHeartbeats 4000000 in
set_option maxRecDepth 100000 in
theorem k_Sl_rowAmongSolid (l : Launch) (D : va_G) (K : Nat → ClassId) (d0 : Nat → Nat) (x1 : Int) (x2 : Int) (x3 : Int) (s0 : s_Sl) (Q : Int → Prop) (h : wp_Sl_rowAmongSolid x1 x2 x3 s0 Q) : Kt l D K y_Sl_rowAmongSolid b_Sl_rowAmongSolid 8 (some .int) 3 65 [.ref (d0 0), .int (zI x1), .int (zI x2), .int (zI x3)] (w_Sl K d0 s0) (fun v w1 => ∃ (r : Int), v = some (.int (zI r)) ∧ w1 = (w_Sl K d0 s0) ∧ Q r) := by
  refine Kt.ofI (by decide +kernel) (Nat.le_of_ble_eq_true rfl) (lv0 := [(0, .ref (d0 0)), (1, .int (zI x1)), (2, .int (zI x2)), (3, .int (zI x3))]) rfl ?_
  intro gp ge gR gs gm ga gb gh gc gA gQ gRf gRl gC gret
  unfold wp_Sl_rowAmongSolid at h
  replace h := h
    (fun (v4 : Int) (v5 : Int) => V gp l ge gR gs gm ga gb gh gc D gA 8 0 0 gQ (w_Sl K d0 s0) 9 [(0, .ref (d0 0)), (1, .int (zI x1)), (2, .int (zI x2)), (3, .int (zI x3)), (4, .int (zI v4)), (5, .int (zI v5))] [])
    (fun (v4 : Int) (v5 : Int) (v6 : Int) (v7 : Int) => V gp l ge gR gs gm ga gb gh gc D gA 8 0 0 gQ (w_Sl K d0 s0) 29 [(0, .ref (d0 0)), (1, .int (zI x1)), (2, .int (zI x2)), (3, .int (zI x3)), (4, .int (zI v4)), (5, .int (zI v5)), (6, .int (zI v6)), (7, .int (zI v7))] [])
    (by
      intro v4 v5 h
      refine v_iload gC d_Sl_rowAmongSolid_9 5 rfl ?_
      refine v_iload_n gC d_Sl_rowAmongSolid_11 rfl 3 rfl ?_
      obtain ⟨hg1, hg2, h⟩ := h
      refine v_icmp_gt (tgt := 63) gC d_Sl_rowAmongSolid_12 (by decide) hg1 hg2 (fun hc => ?_) (fun hc => ?_)
      · replace h := h.1 hc
        refine v_iload gC d_Sl_rowAmongSolid_63 4 rfl ?_
        exact gret _ _ _ _ d_Sl_rowAmongSolid_65 ⟨v4, rfl, rfl, h⟩
      · replace h := h.2 hc
        refine v_aload_n gC d_Sl_rowAmongSolid_15 rfl 0 rfl ?_
        refine v_iload_n gC d_Sl_rowAmongSolid_16 rfl 1 rfl ?_
        refine v_iload_n gC d_Sl_rowAmongSolid_17 rfl 2 rfl ?_
        refine v_iload gC d_Sl_rowAmongSolid_18 5 rfl ?_
        refine v_iadd gC d_Sl_rowAmongSolid_20 (x2 + v5) rfl ?_
        refine v_callV (rest := []) gC (k_Sl_solidRow l D K d0 x1 (x2 + v5) s0 _ h) wV_Sl_56 rfl ⟨by omega, by omega, Nat.zero_le _, Nat.zero_le _⟩ 0 rfl rfl [0, 1, 2, 3, 4, 5, 6, 7] [] rfl (by decide) rfl (by decide) (by decide) rfl (Nat.le_of_ble_eq_true rfl) d_Sl_rowAmongSolid_21 (fun v w1 hp => ?_)
        obtain ⟨r3, rfl, rfl, h⟩ := hp
        refine v_after (ws' := (w_Sl K d0 s0)) (st' := [.int (zI r3)]) [0, 1, 2, 3, 4, 5, 6, 7] (by decide) rfl rfl ?_
        refine v_istore (lv' := [(0, .ref (d0 0)), (1, .int (zI x1)), (2, .int (zI x2)), (3, .int (zI x3)), (4, .int (zI v4)), (5, .int (zI v5)), (6, .int (zI r3))]) gC d_Sl_rowAmongSolid_24 (by decide) [1, 2, 3, 4, 5, 6, 0] rfl ?_
        refine v_iconst gC d_Sl_rowAmongSolid_26 ?_
        refine v_istore (lv' := [(0, .ref (d0 0)), (1, .int (zI x1)), (2, .int (zI x2)), (3, .int (zI x3)), (4, .int (zI v4)), (5, .int (zI v5)), (6, .int (zI r3)), (7, .int (zI 0))]) gC d_Sl_rowAmongSolid_27 (by decide) [1, 2, 3, 4, 5, 6, 7, 0] rfl ?_
        refine v_loc (lv' := [(0, .ref (d0 0)), (1, .int (zI x1)), (2, .int (zI x2)), (3, .int (zI x3)), (4, .int (zI v4)), (5, .int (zI v5)), (6, .int (zI r3)), (7, .int (zI 0))]) [0, 1, 2, 3, 4, 5, 6, 7] rfl ?_
        exact h)
    (by
      intro v4 v5 v6 v7 h
      refine v_iload gC d_Sl_rowAmongSolid_29 7 rfl ?_
      refine v_iload_n gC d_Sl_rowAmongSolid_31 rfl 3 rfl ?_
      obtain ⟨hg4, hg5, h⟩ := h
      refine v_icmp_gt (tgt := 57) gC d_Sl_rowAmongSolid_32 (by decide) hg4 hg5 (fun hc => ?_) (fun hc => ?_)
      · replace h := h.1 hc
        refine v_iinc (lv' := [(0, .ref (d0 0)), (1, .int (zI x1)), (2, .int (zI x2)), (3, .int (zI x3)), (4, .int (zI v4)), (5, .int (zI (v5 + 1))), (6, .int (zI v6)), (7, .int (zI v7))]) gC d_Sl_rowAmongSolid_57 5 rfl (by decide) (v5 + 1) rfl [1, 2, 3, 4, 5, 0, 6, 7] rfl ?_
        refine v_goto (tgt := 9) gC d_Sl_rowAmongSolid_60 (by decide) ?_
        refine v_loc (lv' := [(0, .ref (d0 0)), (1, .int (zI x1)), (2, .int (zI x2)), (3, .int (zI x3)), (4, .int (zI v4)), (5, .int (zI (v5 + 1)))]) [0, 1, 2, 3, 4, 5] rfl ?_
        exact h
      · replace h := h.2 hc
        refine v_iload gC d_Sl_rowAmongSolid_35 4 rfl ?_
        refine v_iload gC d_Sl_rowAmongSolid_37 6 rfl ?_
        refine v_iload gC d_Sl_rowAmongSolid_39 7 rfl ?_
        obtain ⟨hg6, hg7, h⟩ := h
        refine v_ishr gC d_Sl_rowAmongSolid_41 hg7 hg6 ?_
        refine v_iload gC d_Sl_rowAmongSolid_42 6 rfl ?_
        refine v_iload gC d_Sl_rowAmongSolid_44 7 rfl ?_
        obtain ⟨hg8, h⟩ := h
        refine v_ishl gC d_Sl_rowAmongSolid_46 hg8 ?_
        refine v_iand gC d_Sl_rowAmongSolid_47 ?_
        refine v_iand gC d_Sl_rowAmongSolid_48 ?_
        refine v_istore (lv' := [(0, .ref (d0 0)), (1, .int (zI x1)), (2, .int (zI x2)), (3, .int (zI x3)), (4, .int (zI (iand v4 (iand (v6 / 2 ^ Int.toNat v7) (v6 * 2 ^ Int.toNat v7))))), (5, .int (zI v5)), (6, .int (zI v6)), (7, .int (zI v7))]) gC d_Sl_rowAmongSolid_49 (by decide) [1, 2, 3, 4, 0, 5, 6, 7] rfl ?_
        refine v_iinc (lv' := [(0, .ref (d0 0)), (1, .int (zI x1)), (2, .int (zI x2)), (3, .int (zI x3)), (4, .int (zI (iand v4 (iand (v6 / 2 ^ Int.toNat v7) (v6 * 2 ^ Int.toNat v7))))), (5, .int (zI v5)), (6, .int (zI v6)), (7, .int (zI (v7 + 1)))]) gC d_Sl_rowAmongSolid_51 7 rfl (by decide) (v7 + 1) rfl [1, 2, 3, 4, 5, 6, 7, 0] rfl ?_
        refine v_goto (tgt := 29) gC d_Sl_rowAmongSolid_54 (by decide) ?_
        refine v_loc (lv' := [(0, .ref (d0 0)), (1, .int (zI x1)), (2, .int (zI x2)), (3, .int (zI x3)), (4, .int (zI (iand v4 (iand (v6 / 2 ^ Int.toNat v7) (v6 * 2 ^ Int.toNat v7))))), (5, .int (zI v5)), (6, .int (zI v6)), (7, .int (zI (v7 + 1)))]) [0, 1, 2, 3, 4, 5, 6, 7] rfl ?_
        exact h)
  refine v_sipush gC d_Sl_rowAmongSolid_0 (by decide) ?_
  refine v_istore (lv' := [(0, .ref (d0 0)), (1, .int (zI x1)), (2, .int (zI x2)), (3, .int (zI x3)), (4, .int (zI 4095))]) gC d_Sl_rowAmongSolid_3 (by decide) [1, 2, 3, 4, 0] rfl ?_
  refine v_iload_n gC d_Sl_rowAmongSolid_5 rfl 3 rfl ?_
  refine v_ineg gC d_Sl_rowAmongSolid_6 ?_
  refine v_istore (lv' := [(0, .ref (d0 0)), (1, .int (zI x1)), (2, .int (zI x2)), (3, .int (zI x3)), (4, .int (zI 4095)), (5, .int (zI (-x3)))]) gC d_Sl_rowAmongSolid_7 (by decide) [1, 2, 3, 4, 5, 0] rfl ?_
  refine v_loc (lv' := [(0, .ref (d0 0)), (1, .int (zI x1)), (2, .int (zI x2)), (3, .int (zI x3)), (4, .int (zI 4095)), (5, .int (zI (-x3)))]) [0, 1, 2, 3, 4, 5] rfl ?_
  exact h

set_option maxHeartbeats 4000000 in
set_option maxRecDepth 100000 in
theorem k_So_rowBetweenSolid (l : Launch) (D : va_G) (K : Nat → ClassId) (d0 : Nat → Nat) (d1 : Nat → Nat) (x2 : Int) (x3 : Int) (s0 : s_So) (s1 : s_Sl) (Q : Int → Prop) (h : wp_So_rowBetweenSolid x2 x3 s0 s1 Q) : Kt l D K y_So_rowBetweenSolid b_So_rowBetweenSolid 6 (some .int) 3 65 [.ref (d0 0), .ref (d1 0), .int (zI x2), .int (zI x3)] (w_So K d0 s0 ++ w_Sl K d1 s1) (fun v w1 => ∃ (r : Int), v = some (.int (zI r)) ∧ w1 = (w_So K d0 s0 ++ w_Sl K d1 s1) ∧ Q r) := by
  refine Kt.ofI (by decide +kernel) (Nat.le_of_ble_eq_true rfl) (lv0 := [(0, .ref (d0 0)), (1, .ref (d1 0)), (2, .int (zI x2)), (3, .int (zI x3))]) rfl ?_
  intro gp ge gR gs gm ga gb gh gc gA gQ gRf gRl gC gret
  unfold wp_So_rowBetweenSolid at h
  replace h := h
    (fun (v4 : Int) (v5 : Int) => V gp l ge gR gs gm ga gb gh gc D gA 6 0 0 gQ (w_So K d0 s0 ++ w_Sl K d1 s1) 8 [(0, .ref (d0 0)), (1, .ref (d1 0)), (2, .int (zI x2)), (3, .int (zI x3)), (4, .int (zI v4)), (5, .int (zI v5))] [])
    (by
      intro v4 v5 h
      refine v_iload gC d_So_rowBetweenSolid_8 5 rfl ?_
      refine v_aload_n gC d_So_rowBetweenSolid_10 rfl 0 rfl ?_
      refine v_get (v := .int (zI (gSo_skin s0))) gC in_So 0 rfl rfl 3 (by decide) fl_So_24 rfl d_So_rowBetweenSolid_11 ?_
      obtain ⟨hg1, hg2, h⟩ := h
      refine v_icmp_gt (tgt := 47) gC d_So_rowBetweenSolid_14 (by decide) hg1 hg2 (fun hc => ?_) (fun hc => ?_)
      · replace h := h.1 hc
        refine v_iload gC d_So_rowBetweenSolid_47 4 rfl ?_
        exact gret _ _ _ _ d_So_rowBetweenSolid_49 ⟨v4, rfl, rfl, h⟩
      · replace h := h.2 hc
        refine v_iload gC d_So_rowBetweenSolid_17 4 rfl ?_
        refine v_aload_n gC d_So_rowBetweenSolid_19 rfl 1 rfl ?_
        refine v_iload_n gC d_So_rowBetweenSolid_20 rfl 2 rfl ?_
        refine v_iload gC d_So_rowBetweenSolid_21 5 rfl ?_
        refine v_isub gC d_So_rowBetweenSolid_23 (x2 - v5) rfl ?_
        refine v_iload_n gC d_So_rowBetweenSolid_24 rfl 3 rfl ?_
        refine v_callV (rest := [.int (zI v4)]) gC (k_Sl_solidRow l D K d1 (x2 - v5) x3 s1 _ h) wV_So_53 rfl ⟨by omega, by omega, Nat.zero_le _, Nat.zero_le _⟩ 0 rfl rfl [10, 11, 12, 13, 14, 15, 16, 17] [0, 1, 2, 3, 4, 5, 6, 7, 8, 9] rfl (by decide) rfl (by decide) (by decide) rfl (Nat.le_of_ble_eq_true rfl) d_So_rowBetweenSolid_25 (fun v w1 hp => ?_)
        obtain ⟨r3, rfl, rfl, h⟩ := hp
        refine v_after (ws' := (w_So K d0 s0 ++ w_Sl K d1 s1)) (st' := [.int (zI r3), .int (zI v4)]) [0, 1, 2, 3, 4, 5, 6, 7, 8, 9, 10, 11, 12, 13, 14, 15, 16, 17] (by decide) rfl rfl ?_
        refine v_aload_n gC d_So_rowBetweenSolid_28 rfl 1 rfl ?_
        refine v_iload_n gC d_So_rowBetweenSolid_29 rfl 2 rfl ?_
        refine v_iload gC d_So_rowBetweenSolid_30 5 rfl ?_
        refine v_iadd gC d_So_rowBetweenSolid_32 (x2 + v5) rfl ?_
        refine v_iload_n gC d_So_rowBetweenSolid_33 rfl 3 rfl ?_
        refine v_callV (rest := [.int (zI r3), .int (zI v4)]) gC (k_Sl_solidRow l D K d1 (x2 + v5) x3 s1 _ h) wV_So_53 rfl ⟨by omega, by omega, Nat.zero_le _, Nat.zero_le _⟩ 0 rfl rfl [10, 11, 12, 13, 14, 15, 16, 17] [0, 1, 2, 3, 4, 5, 6, 7, 8, 9] rfl (by decide) rfl (by decide) (by decide) rfl (Nat.le_of_ble_eq_true rfl) d_So_rowBetweenSolid_34 (fun v w1 hp => ?_)
        obtain ⟨r4, rfl, rfl, h⟩ := hp
        refine v_after (ws' := (w_So K d0 s0 ++ w_Sl K d1 s1)) (st' := [.int (zI r4), .int (zI r3), .int (zI v4)]) [0, 1, 2, 3, 4, 5, 6, 7, 8, 9, 10, 11, 12, 13, 14, 15, 16, 17] (by decide) rfl rfl ?_
        refine v_iand gC d_So_rowBetweenSolid_37 ?_
        refine v_iand gC d_So_rowBetweenSolid_38 ?_
        refine v_istore (lv' := [(0, .ref (d0 0)), (1, .ref (d1 0)), (2, .int (zI x2)), (3, .int (zI x3)), (4, .int (zI (iand v4 (iand r3 r4)))), (5, .int (zI v5))]) gC d_So_rowBetweenSolid_39 (by decide) [1, 2, 3, 4, 0, 5] rfl ?_
        refine v_iinc (lv' := [(0, .ref (d0 0)), (1, .ref (d1 0)), (2, .int (zI x2)), (3, .int (zI x3)), (4, .int (zI (iand v4 (iand r3 r4)))), (5, .int (zI (v5 + 1)))]) gC d_So_rowBetweenSolid_41 5 rfl (by decide) (v5 + 1) rfl [1, 2, 3, 4, 5, 0] rfl ?_
        refine v_goto (tgt := 8) gC d_So_rowBetweenSolid_44 (by decide) ?_
        refine v_loc (lv' := [(0, .ref (d0 0)), (1, .ref (d1 0)), (2, .int (zI x2)), (3, .int (zI x3)), (4, .int (zI (iand v4 (iand r3 r4)))), (5, .int (zI (v5 + 1)))]) [0, 1, 2, 3, 4, 5] rfl ?_
        exact h)
  refine v_sipush gC d_So_rowBetweenSolid_0 (by decide) ?_
  refine v_istore (lv' := [(0, .ref (d0 0)), (1, .ref (d1 0)), (2, .int (zI x2)), (3, .int (zI x3)), (4, .int (zI 4095))]) gC d_So_rowBetweenSolid_3 (by decide) [1, 2, 3, 4, 0] rfl ?_
  refine v_iconst gC d_So_rowBetweenSolid_5 ?_
  refine v_istore (lv' := [(0, .ref (d0 0)), (1, .ref (d1 0)), (2, .int (zI x2)), (3, .int (zI x3)), (4, .int (zI 4095)), (5, .int (zI 1))]) gC d_So_rowBetweenSolid_6 (by decide) [1, 2, 3, 4, 5, 0] rfl ?_
  refine v_loc (lv' := [(0, .ref (d0 0)), (1, .ref (d1 0)), (2, .int (zI x2)), (3, .int (zI x3)), (4, .int (zI 4095)), (5, .int (zI 1))]) [0, 1, 2, 3, 4, 5] rfl ?_
  exact h

set_option maxHeartbeats 4000000 in
set_option maxRecDepth 100000 in
theorem k_So_lineCells (l : Launch) (D : va_G) (K : Nat → ClassId) (d0 : Nat → Nat) (x1 : Int) (x2 : Int) (s0 : s_So) (Q : Int → Prop) (h : wp_So_lineCells x1 x2 s0 Q) : Kt l D K y_So_lineCells b_So_lineCells 5 (some .int) 0 0 [.ref (d0 0), .int (zI x1), .int (zI x2)] (w_So K d0 s0) (fun v w1 => ∃ (r : Int), v = some (.int (zI r)) ∧ w1 = (w_So K d0 s0) ∧ Q r) := by
  refine Kt.ofI (by decide +kernel) (Nat.le_of_ble_eq_true rfl) (lv0 := [(0, .ref (d0 0)), (1, .int (zI x1)), (2, .int (zI x2))]) rfl ?_
  intro gp ge gR gs gm ga gb gh gc gA gQ gRf gRl gC gret
  unfold wp_So_lineCells at h
  replace h := h
    (fun (v3 : Int) (v4 : Int) => V gp l ge gR gs gm ga gb gh gc D gA 5 0 0 gQ (w_So K d0 s0) 38 [(0, .ref (d0 0)), (3, .int (zI v3)), (4, .int (zI v4))] [])
    (by
      intro v3 v4 h
      refine v_iload gC d_So_lineCells_38 2 rfl ?_
      refine v_bipush gC d_So_lineCells_40 (by decide) ?_
      obtain ⟨hg7, h⟩ := h
      refine v_icmp_ge (tgt := 64) gC d_So_lineCells_42 (by decide) hg7 (by decide) (fun hc => ?_) (fun hc => ?_)
      · replace h := h.1 hc
        refine v_iload_n gC d_So_lineCells_64 rfl 1 rfl ?_
        exact gret _ _ _ _ d_So_lineCells_65 ⟨v3, rfl, rfl, h⟩
      · replace h := h.2 hc
        refine v_iload_n gC d_So_lineCells_45 rfl 1 rfl ?_
        refine v_iconst gC d_So_lineCells_46 ?_
        refine v_iload gC d_So_lineCells_47 2 rfl ?_
        obtain ⟨hg8, h⟩ := h
        refine v_ishl gC d_So_lineCells_49 hg8 ?_
        refine v_ior gC d_So_lineCells_50 ?_
        refine v_istore_n (lv' := [(0, .ref (d0 0)), (3, .int (zI (ior v3 (1 * 2 ^ Int.toNat v4)))), (4, .int (zI v4))]) gC d_So_lineCells_51 rfl (by decide) [1, 0, 2] rfl ?_
        refine v_iload gC d_So_lineCells_52 2 rfl ?_
        refine v_aload_n gC d_So_lineCells_54 rfl 0 rfl ?_
        refine v_get (v := .int (zI (gSo_period s0))) gC in_So 0 rfl rfl 4 (by decide) fl_So_27 rfl d_So_lineCells_55 ?_
        refine v_iadd gC d_So_lineCells_58 (v4 + (gSo_period s0)) rfl ?_
        refine v_istore (lv' := [(0, .ref (d0 0)), (3, .int (zI (ior v3 (1 * 2 ^ Int.toNat v4)))), (4, .int (zI (v4 + (gSo_period s0))))]) gC d_So_lineCells_59 (by decide) [1, 2, 0] rfl ?_
        refine v_goto (tgt := 38) gC d_So_lineCells_61 (by decide) ?_
        refine v_loc (lv' := [(0, .ref (d0 0)), (3, .int (zI (ior v3 (1 * 2 ^ Int.toNat v4)))), (4, .int (zI (v4 + (gSo_period s0))))]) [0, 1, 2] rfl ?_
        exact h)
  refine v_aload_n gC d_So_lineCells_0 rfl 0 rfl ?_
  refine v_get (v := .int (zI (gSo_period s0))) gC in_So 0 rfl rfl 4 (by decide) fl_So_27 rfl d_So_lineCells_1 ?_
  obtain ⟨hg1, h⟩ := h
  refine v_if_ne (tgt := 9) gC d_So_lineCells_4 (by decide) hg1 (fun hc => ?_) (fun hc => ?_)
  · replace h := h.1 hc
    refine v_iload_n gC d_So_lineCells_9 rfl 1 rfl ?_
    refine v_iconst gC d_So_lineCells_10 ?_
    obtain ⟨hg2, h⟩ := h
    refine v_irem gC d_So_lineCells_11 hg2 (by decide) (by decide) ?_
    refine v_iconst gC d_So_lineCells_12 ?_
    obtain ⟨hg3, h⟩ := h
    refine v_icmp_ne (tgt := 33) gC d_So_lineCells_13 (by decide) hg3 (by decide) (fun hc => ?_) (fun hc => ?_)
    · replace h := h.1 hc
      refine v_iconst gC d_So_lineCells_33 ?_
      refine v_istore_n (lv' := [(0, .ref (d0 0)), (1, .int (zI x1)), (2, .int (zI x2)), (3, .int (zI 0))]) gC d_So_lineCells_34 rfl (by decide) [1, 2, 3, 0] rfl ?_
      refine v_iconst gC d_So_lineCells_35 ?_
      refine v_istore (lv' := [(0, .ref (d0 0)), (1, .int (zI x1)), (2, .int (zI x2)), (3, .int (zI 0)), (4, .int (zI 0))]) gC d_So_lineCells_36 (by decide) [1, 2, 3, 4, 0] rfl ?_
      refine v_loc (lv' := [(0, .ref (d0 0)), (3, .int (zI 0)), (4, .int (zI 0))]) [0, 3, 4] rfl ?_
      exact h
    · replace h := h.2 hc
      refine v_iload_n gC d_So_lineCells_16 rfl 2 rfl ?_
      refine v_aload_n gC d_So_lineCells_17 rfl 0 rfl ?_
      refine v_get (v := .int (zI (gSo_period s0))) gC in_So 0 rfl rfl 4 (by decide) fl_So_27 rfl d_So_lineCells_18 ?_
      obtain ⟨hg4, hg5, h⟩ := h
      refine v_irem gC d_So_lineCells_21 hg4 hg1 hg5 ?_
      obtain ⟨hg6, h⟩ := h
      refine v_if_ne (tgt := 31) gC d_So_lineCells_22 (by decide) hg6 (fun hc => ?_) (fun hc => ?_)
      · replace h := h.1 hc
        refine v_iconst gC d_So_lineCells_31 ?_
        exact gret _ _ _ _ d_So_lineCells_32 ⟨0, rfl, rfl, h⟩
      · replace h := h.2 hc
        refine v_sipush gC d_So_lineCells_25 (by decide) ?_
        refine v_goto (tgt := 32) gC d_So_lineCells_28 (by decide) ?_
        exact gret _ _ _ _ d_So_lineCells_32 ⟨4095, rfl, rfl, h⟩
  · replace h := h.2 hc
    refine v_iconst gC d_So_lineCells_7 ?_
    exact gret _ _ _ _ d_So_lineCells_8 ⟨0, rfl, rfl, h⟩
