set_option maxHeartbeats 4000000 in
set_option maxRecDepth 100000 in
theorem k_Arr_fill (l : Launch) (D : va_G) (K : Nat → ClassId) (d0 : Nat) (x1 : Int) (n0 : Nat) (f0 : Int → Int) (hn0 : (n0 : Int) ≤ 2147483647) (Q : (Int → Int) → Prop) (h : wp_Arr_fill x1 n0 f0 Q) : Kt l D K y_Arr_fill b_Arr_fill 4 none 0 0 [.ref (d0), .int (zI x1)] ([(d0, .inl (K 0, n0, .inl (zF f0)))]) (fun v w1 => ∃ (u0 : Int → Int), v = none ∧ w1 = ([(d0, .inl (K 0, n0, .inl (zF u0)))]) ∧ Q u0) := by
  refine Kt.ofV (by decide +kernel) (Nat.le_of_ble_eq_true rfl) (lv0 := [(0, .ref (d0)), (1, .int (zI x1))]) rfl ?_
  intro gp ge gR gs gm ga gb gh gc gA gQ gRf gRl gC gret
  unfold wp_Arr_fill at h
  replace h := h
    (fun (v2 : Int) (v3 : Int) (f0 : Int → Int) => V gp l ge gR gs gm ga gb gh gc D gA 4 0 0 gQ ([(d0, .inl (K 0, n0, .inl (zF f0)))]) 5 [(0, .ref (d0)), (1, .int (zI x1)), (2, .int (zI v2)), (3, .int (zI v3))] [])
    (by
      intro v2 v3 f0 h
      refine v_iload_n gC d_Arr_fill_5 rfl 2 rfl ?_
      refine v_iload_n gC d_Arr_fill_6 rfl 3 rfl ?_
      obtain ⟨hg1, hg2, h⟩ := h
      refine v_icmp_ge (tgt := 20) gC d_Arr_fill_7 (by decide) hg1 hg2 (fun hc => ?_) (fun hc => ?_)
      · replace h := h.1 hc
        exact gret _ _ _ d_Arr_fill_20 ⟨f0, rfl, rfl, h⟩
      · replace h := h.2 hc
        refine v_aload_n gC d_Arr_fill_10 rfl 0 rfl ?_
        refine v_iload_n gC d_Arr_fill_11 rfl 2 rfl ?_
        refine v_iload_n gC d_Arr_fill_12 rfl 1 rfl ?_
        obtain ⟨hg3, h⟩ := h
        refine v_iast (g := f0) (ws' := ([(d0, .inl (K 0, n0, .inl (zF (iset f0 v2 x1))))])) gC 0 0 rfl rfl hg3 rfl hn0 rfl d_Arr_fill_13 ?_
        refine v_iinc (lv' := [(0, .ref (d0)), (1, .int (zI x1)), (2, .int (zI (v2 + 1))), (3, .int (zI v3))]) gC d_Arr_fill_14 2 rfl (by decide) (v2 + 1) rfl [1, 2, 0, 3] rfl ?_
        refine v_goto (tgt := 5) gC d_Arr_fill_17 (by decide) ?_
        refine v_loc (lv' := [(0, .ref (d0)), (1, .int (zI x1)), (2, .int (zI (v2 + 1))), (3, .int (zI v3))]) [0, 1, 2, 3] rfl ?_
        exact h)
  refine v_iconst gC d_Arr_fill_0 ?_
  refine v_istore_n (lv' := [(0, .ref (d0)), (1, .int (zI x1)), (2, .int (zI 0))]) gC d_Arr_fill_1 rfl (by decide) [1, 2, 0] rfl ?_
  refine v_aload_n gC d_Arr_fill_2 rfl 0 rfl ?_
  refine v_alen gC 0 0 rfl rfl rfl d_Arr_fill_3 ?_
  refine v_istore_n (lv' := [(0, .ref (d0)), (1, .int (zI x1)), (2, .int (zI 0)), (3, .int (zI (n0 : Int)))]) gC d_Arr_fill_4 rfl (by decide) [1, 2, 3, 0] rfl ?_
  refine v_loc (lv' := [(0, .ref (d0)), (1, .int (zI x1)), (2, .int (zI 0)), (3, .int (zI (n0 : Int)))]) [0, 1, 2, 3] rfl ?_
  exact h

set_option maxHeartbeats 4000000 in
set_option maxRecDepth 100000 in
theorem k_Mn_addEdge (l : Launch) (D : va_G) (K : Nat → ClassId) (d0 : Nat → Nat) (x1 : Int) (x2 : Int) (s0 : s_Mn) (Q : s_Mn → Prop) (h : wp_Mn_addEdge x1 x2 s0 Q) : Kt l D K y_Mn_addEdge b_Mn_addEdge 3 none 0 0 [.ref (d0 0), .int (zI x1), .int (zI x2)] (w_Mn K d0 s0) (fun v w1 => ∃ (u0 : s_Mn), v = none ∧ w1 = (w_Mn K d0 u0) ∧ Q u0) := by
  refine Kt.ofV (by decide +kernel) (Nat.le_of_ble_eq_true rfl) (lv0 := [(0, .ref (d0 0)), (1, .int (zI x1)), (2, .int (zI x2))]) rfl ?_
  intro gp ge gR gs gm ga gb gh gc gA gQ gRf gRl gC gret
  unfold wp_Mn_addEdge at h
  replace h := h
    (fun (s0 : s_Mn) => V gp l ge gR gs gm ga gb gh gc D gA 3 0 0 gQ (w_Mn K d0 s0) 37 [(0, .ref (d0 0)), (1, .int (zI x1)), (2, .int (zI x2))] [])
    (by
      intro s0 h
      refine v_aload_n gC d_Mn_addEdge_37 rfl 0 rfl ?_
      refine v_get (v := .ref (d0 3)) gC in_Mn 0 rfl rfl 5 (by decide) fl_Mn_19 rfl d_Mn_addEdge_38 ?_
      refine v_iload_n gC d_Mn_addEdge_41 rfl 1 rfl ?_
      refine v_bipush gC d_Mn_addEdge_42 (by decide) ?_
      refine v_imul gC d_Mn_addEdge_44 (x1 * 80) rfl ?_
      refine v_iload_n gC d_Mn_addEdge_45 rfl 2 rfl ?_
      refine v_iadd gC d_Mn_addEdge_46 ((x1 * 80) + x2) rfl ?_
      refine v_dup2 gC d_Mn_addEdge_47 rfl rfl ?_
      obtain ⟨hg5, h⟩ := h
      refine v_iald (g := (gMn_balance s0)) gC 3 0 rfl rfl hg5 rfl (by decide) d_Mn_addEdge_48 ?_
      refine v_iconst gC d_Mn_addEdge_49 ?_
      refine v_iadd gC d_Mn_addEdge_50 (((gMn_balance s0) ((x1 * 80) + x2)) + 1) rfl ?_
      refine v_iast (g := (gMn_balance s0)) (ws' := (w_Mn K d0 (mkMn (gMn_joined s0) (gMn_dropped s0) (gMn_closed s0) (gMn_lowestHere s0) (gMn_counted s0) (iset (gMn_balance s0) ((x1 * 80) + x2) (((gMn_balance s0) ((x1 * 80) + x2)) + 1)) (gMn_openFrom s0) (gMn_hole s0)))) gC 3 0 rfl rfl hg5 rfl (by decide) rfl d_Mn_addEdge_51 ?_
      refine v_aload_n gC d_Mn_addEdge_52 rfl 0 rfl ?_
      refine v_get (v := .ref (d0 3)) gC in_Mn 0 rfl rfl 5 (by decide) fl_Mn_19 rfl d_Mn_addEdge_53 ?_
      refine v_iload_n gC d_Mn_addEdge_56 rfl 2 rfl ?_
      refine v_bipush gC d_Mn_addEdge_57 (by decide) ?_
      refine v_imul gC d_Mn_addEdge_59 (x2 * 80) rfl ?_
      refine v_iload_n gC d_Mn_addEdge_60 rfl 1 rfl ?_
      refine v_iadd gC d_Mn_addEdge_61 ((x2 * 80) + x1) rfl ?_
      refine v_dup2 gC d_Mn_addEdge_62 rfl rfl ?_
      obtain ⟨hg6, h⟩ := h
      refine v_iald (g := (iset (gMn_balance s0) ((x1 * 80) + x2) (((gMn_balance s0) ((x1 * 80) + x2)) + 1))) gC 3 0 rfl rfl hg6 rfl (by decide) d_Mn_addEdge_63 ?_
      refine v_iconst gC d_Mn_addEdge_64 ?_
      refine v_isub gC d_Mn_addEdge_65 (((iset (gMn_balance s0) ((x1 * 80) + x2) (((gMn_balance s0) ((x1 * 80) + x2)) + 1)) ((x2 * 80) + x1)) - 1) rfl ?_
      refine v_iast (g := (iset (gMn_balance s0) ((x1 * 80) + x2) (((gMn_balance s0) ((x1 * 80) + x2)) + 1))) (ws' := (w_Mn K d0 (mkMn (gMn_joined s0) (gMn_dropped s0) (gMn_closed s0) (gMn_lowestHere s0) (gMn_counted s0) (iset (iset (gMn_balance s0) ((x1 * 80) + x2) (((gMn_balance s0) ((x1 * 80) + x2)) + 1)) ((x2 * 80) + x1) (((iset (gMn_balance s0) ((x1 * 80) + x2) (((gMn_balance s0) ((x1 * 80) + x2)) + 1)) ((x2 * 80) + x1)) - 1)) (gMn_openFrom s0) (gMn_hole s0)))) gC 3 0 rfl rfl hg6 rfl (by decide) rfl d_Mn_addEdge_66 ?_
      exact gret _ _ _ d_Mn_addEdge_67 ⟨(mkMn (gMn_joined s0) (gMn_dropped s0) (gMn_closed s0) (gMn_lowestHere s0) (gMn_counted s0) (iset (iset (gMn_balance s0) ((x1 * 80) + x2) (((gMn_balance s0) ((x1 * 80) + x2)) + 1)) ((x2 * 80) + x1) (((iset (gMn_balance s0) ((x1 * 80) + x2) (((gMn_balance s0) ((x1 * 80) + x2)) + 1)) ((x2 * 80) + x1)) - 1)) (gMn_openFrom s0) (gMn_hole s0)), rfl, rfl, h⟩)
  refine v_aload_n gC d_Mn_addEdge_0 rfl 0 rfl ?_
  refine v_get (v := .ref (d0 3)) gC in_Mn 0 rfl rfl 5 (by decide) fl_Mn_19 rfl d_Mn_addEdge_1 ?_
  refine v_iload_n gC d_Mn_addEdge_4 rfl 1 rfl ?_
  refine v_bipush gC d_Mn_addEdge_5 (by decide) ?_
  refine v_imul gC d_Mn_addEdge_7 (x1 * 80) rfl ?_
  refine v_iload_n gC d_Mn_addEdge_8 rfl 2 rfl ?_
  refine v_iadd gC d_Mn_addEdge_9 ((x1 * 80) + x2) rfl ?_
  obtain ⟨hg1, h⟩ := h
  refine v_iald (g := (gMn_balance s0)) gC 3 0 rfl rfl hg1 rfl (by decide) d_Mn_addEdge_10 ?_
  obtain ⟨hg2, h⟩ := h
  refine v_if_lt (tgt := 27) gC d_Mn_addEdge_11 (by decide) hg2 (fun hc => ?_) (fun hc => ?_)
  · replace h := h.1 hc
    refine v_aload_n gC d_Mn_addEdge_27 rfl 0 rfl ?_
    refine v_get (v := .ref (d0 4)) gC in_Mn 0 rfl rfl 6 (by decide) fl_Mn_22 rfl d_Mn_addEdge_28 ?_
    refine v_iload_n gC d_Mn_addEdge_31 rfl 2 rfl ?_
    refine v_dup2 gC d_Mn_addEdge_32 rfl rfl ?_
    obtain ⟨hg3, h⟩ := h
    refine v_iald (g := (gMn_openFrom s0)) gC 4 0 rfl rfl hg3 rfl (by decide) d_Mn_addEdge_33 ?_
    refine v_iconst gC d_Mn_addEdge_34 ?_
    refine v_isub gC d_Mn_addEdge_35 (((gMn_openFrom s0) x2) - 1) rfl ?_
    refine v_iast (g := (gMn_openFrom s0)) (ws' := (w_Mn K d0 (mkMn (gMn_joined s0) (gMn_dropped s0) (gMn_closed s0) (gMn_lowestHere s0) (gMn_counted s0) (gMn_balance s0) (iset (gMn_openFrom s0) x2 (((gMn_openFrom s0) x2) - 1)) (gMn_hole s0)))) gC 4 0 rfl rfl hg3 rfl (by decide) rfl d_Mn_addEdge_36 ?_
    refine v_loc (lv' := [(0, .ref (d0 0)), (1, .int (zI x1)), (2, .int (zI x2))]) [0, 1, 2] rfl ?_
    exact h
  · replace h := h.2 hc
    refine v_aload_n gC d_Mn_addEdge_14 rfl 0 rfl ?_
    refine v_get (v := .ref (d0 4)) gC in_Mn 0 rfl rfl 6 (by decide) fl_Mn_22 rfl d_Mn_addEdge_15 ?_
    refine v_iload_n gC d_Mn_addEdge_18 rfl 1 rfl ?_
    refine v_dup2 gC d_Mn_addEdge_19 rfl rfl ?_
    obtain ⟨hg4, h⟩ := h
    refine v_iald (g := (gMn_openFrom s0)) gC 4 0 rfl rfl hg4 rfl (by decide) d_Mn_addEdge_20 ?_
    refine v_iconst gC d_Mn_addEdge_21 ?_
    refine v_iadd gC d_Mn_addEdge_22 (((gMn_openFrom s0) x1) + 1) rfl ?_
    refine v_iast (g := (gMn_openFrom s0)) (ws' := (w_Mn K d0 (mkMn (gMn_joined s0) (gMn_dropped s0) (gMn_closed s0) (gMn_lowestHere s0) (gMn_counted s0) (gMn_balance s0) (iset (gMn_openFrom s0) x1 (((gMn_openFrom s0) x1) + 1)) (gMn_hole s0)))) gC 4 0 rfl rfl hg4 rfl (by decide) rfl d_Mn_addEdge_23 ?_
    refine v_goto (tgt := 37) gC d_Mn_addEdge_24 (by decide) ?_
    refine v_loc (lv' := [(0, .ref (d0 0)), (1, .int (zI x1)), (2, .int (zI x2))]) [0, 1, 2] rfl ?_
    exact h

set_option maxHeartbeats 4000000 in
set_option maxRecDepth 100000 in
theorem k_Mn_addEdgesOf (l : Launch) (D : va_G) (K : Nat → ClassId) (d0 : Nat → Nat) (d1 : Nat → Nat) (x2 : Int) (s0 : s_Mn) (s1 : s_Me) (Q : s_Mn → Prop) (h : wp_Mn_addEdgesOf x2 s0 s1 Q) : Kt l D K y_Mn_addEdgesOf b_Mn_addEdgesOf 6 none 1 22 [.ref (d0 0), .ref (d1 0), .int (zI x2)] (w_Mn K d0 s0 ++ w_Me K d1 s1) (fun v w1 => ∃ (u0 : s_Mn), v = none ∧ w1 = (w_Mn K d0 u0 ++ w_Me K d1 s1) ∧ Q u0) := by
  refine Kt.ofV (by decide +kernel) (Nat.le_of_ble_eq_true rfl) (lv0 := [(0, .ref (d0 0)), (1, .ref (d1 0)), (2, .int (zI x2))]) rfl ?_
  intro gp ge gR gs gm ga gb gh gc gA gQ gRf gRl gC gret
  unfold wp_Mn_addEdgesOf at h
  refine v_aload_n gC d_Mn_addEdgesOf_0 rfl 1 rfl ?_
  refine v_get (v := .ref (d1 4)) gC in_Me 6 rfl rfl 4 (by decide) fl_Mn_59 rfl d_Mn_addEdgesOf_1 ?_
  refine v_iconst gC d_Mn_addEdgesOf_4 ?_
  refine v_iload_n gC d_Mn_addEdgesOf_5 rfl 2 rfl ?_
  refine v_imul gC d_Mn_addEdgesOf_6 (3 * x2) rfl ?_
  obtain ⟨hg1, h⟩ := h
  refine v_iald (g := (gMe_named s1)) gC 10 0 rfl rfl hg1 rfl (by decide) d_Mn_addEdgesOf_7 ?_
  refine v_istore_n (lv' := [(0, .ref (d0 0)), (1, .ref (d1 0)), (2, .int (zI x2)), (3, .int (zI ((gMe_named s1) (3 * x2))))]) gC d_Mn_addEdgesOf_8 rfl (by decide) [1, 2, 3, 0] rfl ?_
  refine v_aload_n gC d_Mn_addEdgesOf_9 rfl 1 rfl ?_
  refine v_get (v := .ref (d1 4)) gC in_Me 6 rfl rfl 4 (by decide) fl_Mn_59 rfl d_Mn_addEdgesOf_10 ?_
  refine v_iconst gC d_Mn_addEdgesOf_13 ?_
  refine v_iload_n gC d_Mn_addEdgesOf_14 rfl 2 rfl ?_
  refine v_imul gC d_Mn_addEdgesOf_15 (3 * x2) rfl ?_
  refine v_iconst gC d_Mn_addEdgesOf_16 ?_
  refine v_iadd gC d_Mn_addEdgesOf_17 ((3 * x2) + 1) rfl ?_
  obtain ⟨hg2, h⟩ := h
  refine v_iald (g := (gMe_named s1)) gC 10 0 rfl rfl hg2 rfl (by decide) d_Mn_addEdgesOf_18 ?_
  refine v_istore (lv' := [(0, .ref (d0 0)), (1, .ref (d1 0)), (2, .int (zI x2)), (3, .int (zI ((gMe_named s1) (3 * x2)))), (4, .int (zI ((gMe_named s1) ((3 * x2) + 1))))]) gC d_Mn_addEdgesOf_19 (by decide) [1, 2, 3, 4, 0] rfl ?_
  refine v_aload_n gC d_Mn_addEdgesOf_21 rfl 1 rfl ?_
  refine v_get (v := .ref (d1 4)) gC in_Me 6 rfl rfl 4 (by decide) fl_Mn_59 rfl d_Mn_addEdgesOf_22 ?_
  refine v_iconst gC d_Mn_addEdgesOf_25 ?_
  refine v_iload_n gC d_Mn_addEdgesOf_26 rfl 2 rfl ?_
  refine v_imul gC d_Mn_addEdgesOf_27 (3 * x2) rfl ?_
  refine v_iconst gC d_Mn_addEdgesOf_28 ?_
  refine v_iadd gC d_Mn_addEdgesOf_29 ((3 * x2) + 2) rfl ?_
  obtain ⟨hg3, h⟩ := h
  refine v_iald (g := (gMe_named s1)) gC 10 0 rfl rfl hg3 rfl (by decide) d_Mn_addEdgesOf_30 ?_
  refine v_istore (lv' := [(0, .ref (d0 0)), (1, .ref (d1 0)), (2, .int (zI x2)), (3, .int (zI ((gMe_named s1) (3 * x2)))), (4, .int (zI ((gMe_named s1) ((3 * x2) + 1)))), (5, .int (zI ((gMe_named s1) ((3 * x2) + 2))))]) gC d_Mn_addEdgesOf_31 (by decide) [1, 2, 3, 4, 5, 0] rfl ?_
  refine v_aload_n gC d_Mn_addEdgesOf_33 rfl 0 rfl ?_
  refine v_iload_n gC d_Mn_addEdgesOf_34 rfl 3 rfl ?_
  refine v_iload gC d_Mn_addEdgesOf_35 4 rfl ?_
  refine v_callV (rest := []) gC (k_Mn_addEdge l D K d0 ((gMe_named s1) (3 * x2)) ((gMe_named s1) ((3 * x2) + 1)) s0 _ h) wV_Mn_90 rfl ⟨by omega, by omega, Nat.zero_le _, Nat.zero_le _⟩ 0 rfl rfl [0, 1, 2, 3, 4, 5] [6, 7, 8, 9, 10] rfl (by decide) rfl (by decide) (by decide) rfl (Nat.le_of_ble_eq_true rfl) d_Mn_addEdgesOf_37 (fun v w1 hp => ?_)
  obtain ⟨u4, rfl, rfl, h⟩ := hp
  refine v_after (ws' := (w_Mn K d0 u4 ++ w_Me K d1 s1)) (st' := []) [5, 6, 7, 8, 9, 10, 0, 1, 2, 3, 4] (by decide) rfl rfl ?_
  refine v_aload_n gC d_Mn_addEdgesOf_40 rfl 0 rfl ?_
  refine v_iload gC d_Mn_addEdgesOf_41 4 rfl ?_
  refine v_iload gC d_Mn_addEdgesOf_43 5 rfl ?_
  refine v_callV (rest := []) gC (k_Mn_addEdge l D K d0 ((gMe_named s1) ((3 * x2) + 1)) ((gMe_named s1) ((3 * x2) + 2)) u4 _ h) wV_Mn_90 rfl ⟨by omega, by omega, Nat.zero_le _, Nat.zero_le _⟩ 0 rfl rfl [0, 1, 2, 3, 4, 5] [6, 7, 8, 9, 10] rfl (by decide) rfl (by decide) (by decide) rfl (Nat.le_of_ble_eq_true rfl) d_Mn_addEdgesOf_45 (fun v w1 hp => ?_)
  obtain ⟨u5, rfl, rfl, h⟩ := hp
  refine v_after (ws' := (w_Mn K d0 u5 ++ w_Me K d1 s1)) (st' := []) [5, 6, 7, 8, 9, 10, 0, 1, 2, 3, 4] (by decide) rfl rfl ?_
  refine v_aload_n gC d_Mn_addEdgesOf_48 rfl 0 rfl ?_
  refine v_iload gC d_Mn_addEdgesOf_49 5 rfl ?_
  refine v_iload_n gC d_Mn_addEdgesOf_51 rfl 3 rfl ?_
  refine v_callV (rest := []) gC (k_Mn_addEdge l D K d0 ((gMe_named s1) ((3 * x2) + 2)) ((gMe_named s1) (3 * x2)) u5 _ h) wV_Mn_90 rfl ⟨by omega, by omega, Nat.zero_le _, Nat.zero_le _⟩ 0 rfl rfl [0, 1, 2, 3, 4, 5] [6, 7, 8, 9, 10] rfl (by decide) rfl (by decide) (by decide) rfl (Nat.le_of_ble_eq_true rfl) d_Mn_addEdgesOf_52 (fun v w1 hp => ?_)
  obtain ⟨u6, rfl, rfl, h⟩ := hp
  refine v_after (ws' := (w_Mn K d0 u6 ++ w_Me K d1 s1)) (st' := []) [5, 6, 7, 8, 9, 10, 0, 1, 2, 3, 4] (by decide) rfl rfl ?_
  exact gret _ _ _ d_Mn_addEdgesOf_55 ⟨u6, rfl, rfl, h⟩

set_option maxHeartbeats 4000000 in
set_option maxRecDepth 100000 in
theorem k_Mn_weighEdges (l : Launch) (D : va_G) (K : Nat → ClassId) (d0 : Nat → Nat) (d1 : Nat → Nat) (s0 : s_Mn) (s1 : s_Me) (Q : s_Mn → Prop) (h : wp_Mn_weighEdges s0 s1 Q) : Kt l D K y_Mn_weighEdges b_Mn_weighEdges 3 none 2 47 [.ref (d0 0), .ref (d1 0)] (w_Mn K d0 s0 ++ w_Me K d1 s1) (fun v w1 => ∃ (u0 : s_Mn), v = none ∧ w1 = (w_Mn K d0 u0 ++ w_Me K d1 s1) ∧ Q u0) := by
  refine Kt.ofV (by decide +kernel) (Nat.le_of_ble_eq_true rfl) (lv0 := [(0, .ref (d0 0)), (1, .ref (d1 0))]) rfl ?_
  intro gp ge gR gs gm ga gb gh gc gA gQ gRf gRl gC gret
  unfold wp_Mn_weighEdges at h
  replace h := h
    (fun (v2 : Int) (s0 : s_Mn) => V gp l ge gR gs gm ga gb gh gc D gA 3 0 0 gQ (w_Mn K d0 s0 ++ w_Me K d1 s1) 18 [(0, .ref (d0 0)), (1, .ref (d1 0)), (2, .int (zI v2))] [])
    (by
      intro v2 s0 h
      refine v_iload_n gC d_Mn_weighEdges_18 rfl 2 rfl ?_
      refine v_aload_n gC d_Mn_weighEdges_19 rfl 1 rfl ?_
      refine v_get (v := .int (zI (gMe_triangles s1))) gC in_Me 6 rfl rfl 5 (by decide) fl_Mn_56 rfl d_Mn_weighEdges_20 ?_
      obtain ⟨hg3, hg4, h⟩ := h
      refine v_icmp_ge (tgt := 38) gC d_Mn_weighEdges_23 (by decide) hg3 hg4 (fun hc => ?_) (fun hc => ?_)
      · replace h := h.1 hc
        exact gret _ _ _ d_Mn_weighEdges_38 ⟨s0, rfl, rfl, h⟩
      · replace h := h.2 hc
        refine v_aload_n gC d_Mn_weighEdges_26 rfl 0 rfl ?_
        refine v_aload_n gC d_Mn_weighEdges_27 rfl 1 rfl ?_
        refine v_iload_n gC d_Mn_weighEdges_28 rfl 2 rfl ?_
        refine v_callV (rest := []) gC (k_Mn_addEdgesOf l D K d0 d1 v2 s0 s1 _ h) wV_Mn_86 rfl ⟨by omega, by omega, Nat.zero_le _, Nat.zero_le _⟩ 0 rfl rfl [0, 1, 2, 3, 4, 5, 6, 7, 8, 9, 10] [] rfl (by decide) rfl (by decide) (by decide) rfl (Nat.le_of_ble_eq_true rfl) d_Mn_weighEdges_29 (fun v w1 hp => ?_)
        obtain ⟨u5, rfl, rfl, h⟩ := hp
        refine v_after (ws' := (w_Mn K d0 u5 ++ w_Me K d1 s1)) (st' := []) [0, 1, 2, 3, 4, 5, 6, 7, 8, 9, 10] (by decide) rfl rfl ?_
        refine v_iinc (lv' := [(0, .ref (d0 0)), (1, .ref (d1 0)), (2, .int (zI (v2 + 1)))]) gC d_Mn_weighEdges_32 2 rfl (by decide) (v2 + 1) rfl [1, 2, 0] rfl ?_
        refine v_goto (tgt := 18) gC d_Mn_weighEdges_35 (by decide) ?_
        refine v_loc (lv' := [(0, .ref (d0 0)), (1, .ref (d1 0)), (2, .int (zI (v2 + 1)))]) [0, 1, 2] rfl ?_
        exact h)
  refine v_aload_n gC d_Mn_weighEdges_0 rfl 0 rfl ?_
  refine v_get (v := .ref (d0 3)) gC in_Mn 0 rfl rfl 5 (by decide) fl_Mn_19 rfl d_Mn_weighEdges_1 ?_
  refine v_iconst gC d_Mn_weighEdges_4 ?_
  refine v_callS (rest := []) gC (k_Arr_fill l D K (d0 3) 0 6400 (gMn_balance s0) (by decide) _ h) wS_Mn_80 rfl ⟨by omega, by omega, Nat.zero_le _, Nat.zero_le _⟩ [3] [0, 1, 2, 4, 5, 6, 7, 8, 9, 10] rfl (by decide) rfl (by decide) (by decide) rfl (Nat.le_of_ble_eq_true rfl) d_Mn_weighEdges_5 (fun v w1 hp => ?_)
  obtain ⟨u1, rfl, rfl, h⟩ := hp
  refine v_after (ws' := (w_Mn K d0 (mkMn (gMn_joined s0) (gMn_dropped s0) (gMn_closed s0) (gMn_lowestHere s0) (gMn_counted s0) u1 (gMn_openFrom s0) (gMn_hole s0)) ++ w_Me K d1 s1)) (st' := []) [0, 1, 2, 10, 3, 4, 5, 6, 7, 8, 9] (by decide) rfl rfl ?_
  refine v_aload_n gC d_Mn_weighEdges_8 rfl 0 rfl ?_
  refine v_get (v := .ref (d0 4)) gC in_Mn 0 rfl rfl 6 (by decide) fl_Mn_22 rfl d_Mn_weighEdges_9 ?_
  refine v_iconst gC d_Mn_weighEdges_12 ?_
  refine v_callS (rest := []) gC (k_Arr_fill l D K (d0 4) 0 80 (gMn_openFrom s0) (by decide) _ h) wS_Mn_80 rfl ⟨by omega, by omega, Nat.zero_le _, Nat.zero_le _⟩ [4] [0, 1, 2, 3, 5, 6, 7, 8, 9, 10] rfl (by decide) rfl (by decide) (by decide) rfl (Nat.le_of_ble_eq_true rfl) d_Mn_weighEdges_13 (fun v w1 hp => ?_)
  obtain ⟨u2, rfl, rfl, h⟩ := hp
  refine v_after (ws' := (w_Mn K d0 (mkMn (gMn_joined s0) (gMn_dropped s0) (gMn_closed s0) (gMn_lowestHere s0) (gMn_counted s0) u1 u2 (gMn_hole s0)) ++ w_Me K d1 s1)) (st' := []) [0, 1, 2, 3, 10, 4, 5, 6, 7, 8, 9] (by decide) rfl rfl ?_
  refine v_iconst gC d_Mn_weighEdges_16 ?_
  refine v_istore_n (lv' := [(0, .ref (d0 0)), (1, .ref (d1 0)), (2, .int (zI 0))]) gC d_Mn_weighEdges_17 rfl (by decide) [1, 2, 0] rfl ?_
  refine v_loc (lv' := [(0, .ref (d0 0)), (1, .ref (d1 0)), (2, .int (zI 0))]) [0, 1, 2] rfl ?_
  exact h

set_option maxHeartbeats 4000000 in
set_option maxRecDepth 100000 in
theorem k_Mn_isInHole (l : Launch) (D : va_G) (K : Nat → ClassId) (d0 : Nat → Nat) (x1 : Int) (x2 : Int) (s0 : s_Mn) (Q : Int → Prop) (h : wp_Mn_isInHole x1 x2 s0 Q) : Kt l D K y_Mn_isInHole b_Mn_isInHole 4 (some .boolean) 0 0 [.ref (d0 0), .int (zI x1), .int (zI x2)] (w_Mn K d0 s0) (fun v w1 => ∃ (r : Int), v = some (.int (zI r)) ∧ w1 = (w_Mn K d0 s0) ∧ Q r) := by
  refine Kt.ofZ (by decide +kernel) (Nat.le_of_ble_eq_true rfl) (lv0 := [(0, .ref (d0 0)), (1, .int (zI x1)), (2, .int (zI x2))]) rfl ?_
  intro gp ge gR gs gm ga gb gh gc gA gQ gRf gRl gC gret
  unfold wp_Mn_isInHole at h
  replace h := h
    (fun (v3 : Int) => V gp l ge gR gs gm ga gb gh gc D gA 4 0 0 gQ (w_Mn K d0 s0) 2 [(0, .ref (d0 0)), (1, .int (zI x1)), (2, .int (zI x2)), (3, .int (zI v3))] [])
    (by
      intro v3 h
      refine v_iload_n gC d_Mn_isInHole_2 rfl 3 rfl ?_
      refine v_iload_n gC d_Mn_isInHole_3 rfl 2 rfl ?_
      obtain ⟨hg1, hg2, h⟩ := h
      refine v_icmp_ge (tgt := 25) gC d_Mn_isInHole_4 (by decide) hg1 hg2 (fun hc => ?_) (fun hc => ?_)
      · replace h := h.1 hc
        refine v_iconst gC d_Mn_isInHole_25 ?_
        exact gret _ _ _ _ d_Mn_isInHole_26 rfl ⟨0, rfl, rfl, h⟩
      · replace h := h.2 hc
        refine v_aload_n gC d_Mn_isInHole_7 rfl 0 rfl ?_
        refine v_get (v := .ref (d0 5)) gC in_Mn 0 rfl rfl 7 (by decide) fl_Mn_25 rfl d_Mn_isInHole_8 ?_
        refine v_iload_n gC d_Mn_isInHole_11 rfl 3 rfl ?_
        obtain ⟨hg3, h⟩ := h
        refine v_iald (g := (gMn_hole s0)) gC 5 0 rfl rfl hg3 rfl (by decide) d_Mn_isInHole_12 ?_
        refine v_iload_n gC d_Mn_isInHole_13 rfl 1 rfl ?_
        obtain ⟨hg4, hg5, h⟩ := h
        refine v_icmp_ne (tgt := 19) gC d_Mn_isInHole_14 (by decide) hg4 hg5 (fun hc => ?_) (fun hc => ?_)
        · replace h := h.1 hc
          refine v_iinc (lv' := [(0, .ref (d0 0)), (1, .int (zI x1)), (2, .int (zI x2)), (3, .int (zI (v3 + 1)))]) gC d_Mn_isInHole_19 3 rfl (by decide) (v3 + 1) rfl [1, 2, 3, 0] rfl ?_
          refine v_goto (tgt := 2) gC d_Mn_isInHole_22 (by decide) ?_
          refine v_loc (lv' := [(0, .ref (d0 0)), (1, .int (zI x1)), (2, .int (zI x2)), (3, .int (zI (v3 + 1)))]) [0, 1, 2, 3] rfl ?_
          exact h
        · replace h := h.2 hc
          refine v_iconst gC d_Mn_isInHole_17 ?_
          exact gret _ _ _ _ d_Mn_isInHole_18 rfl ⟨1, rfl, rfl, h⟩)
  refine v_iconst gC d_Mn_isInHole_0 ?_
  refine v_istore_n (lv' := [(0, .ref (d0 0)), (1, .int (zI x1)), (2, .int (zI x2)), (3, .int (zI 0))]) gC d_Mn_isInHole_1 rfl (by decide) [1, 2, 3, 0] rfl ?_
  refine v_loc (lv' := [(0, .ref (d0 0)), (1, .int (zI x1)), (2, .int (zI x2)), (3, .int (zI 0))]) [0, 1, 2, 3] rfl ?_
  exact h

set_option maxHeartbeats 4000000 in
set_option maxRecDepth 100000 in
theorem k_Mn_nextCorner (l : Launch) (D : va_G) (K : Nat → ClassId) (d0 : Nat → Nat) (x1 : Int) (x2 : Int) (s0 : s_Mn) (Q : Int → Prop) (h : wp_Mn_nextCorner x1 x2 s0 Q) : Kt l D K y_Mn_nextCorner b_Mn_nextCorner 4 (some .int) 0 0 [.ref (d0 0), .int (zI x1), .int (zI x2)] (w_Mn K d0 s0) (fun v w1 => ∃ (r : Int), v = some (.int (zI r)) ∧ w1 = (w_Mn K d0 s0) ∧ Q r) := by
  refine Kt.ofI (by decide +kernel) (Nat.le_of_ble_eq_true rfl) (lv0 := [(0, .ref (d0 0)), (1, .int (zI x1)), (2, .int (zI x2))]) rfl ?_
  intro gp ge gR gs gm ga gb gh gc gA gQ gRf gRl gC gret
  unfold wp_Mn_nextCorner at h
  replace h := h
    (fun (v3 : Int) => V gp l ge gR gs gm ga gb gh gc D gA 4 0 0 gQ (w_Mn K d0 s0) 2 [(0, .ref (d0 0)), (1, .int (zI x1)), (2, .int (zI x2)), (3, .int (zI v3))] [])
    (by
      intro v3 h
      refine v_iload_n gC d_Mn_nextCorner_2 rfl 3 rfl ?_
      refine v_iload_n gC d_Mn_nextCorner_3 rfl 2 rfl ?_
      obtain ⟨hg1, hg2, h⟩ := h
      refine v_icmp_ge (tgt := 29) gC d_Mn_nextCorner_4 (by decide) hg1 hg2 (fun hc => ?_) (fun hc => ?_)
      · replace h := h.1 hc
        refine v_iload_n gC d_Mn_nextCorner_29 rfl 1 rfl ?_
        exact gret _ _ _ _ d_Mn_nextCorner_30 ⟨x1, rfl, rfl, h⟩
      · replace h := h.2 hc
        refine v_aload_n gC d_Mn_nextCorner_7 rfl 0 rfl ?_
        refine v_get (v := .ref (d0 3)) gC in_Mn 0 rfl rfl 5 (by decide) fl_Mn_19 rfl d_Mn_nextCorner_8 ?_
        refine v_iload_n gC d_Mn_nextCorner_11 rfl 1 rfl ?_
        refine v_bipush gC d_Mn_nextCorner_12 (by decide) ?_
        refine v_imul gC d_Mn_nextCorner_14 (x1 * 80) rfl ?_
        refine v_iload_n gC d_Mn_nextCorner_15 rfl 3 rfl ?_
        refine v_iadd gC d_Mn_nextCorner_16 ((x1 * 80) + v3) rfl ?_
        obtain ⟨hg3, h⟩ := h
        refine v_iald (g := (gMn_balance s0)) gC 3 0 rfl rfl hg3 rfl (by decide) d_Mn_nextCorner_17 ?_
        obtain ⟨hg4, h⟩ := h
        refine v_if_le (tgt := 23) gC d_Mn_nextCorner_18 (by decide) hg4 (fun hc => ?_) (fun hc => ?_)
        · replace h := h.1 hc
          refine v_iinc (lv' := [(0, .ref (d0 0)), (1, .int (zI x1)), (2, .int (zI x2)), (3, .int (zI (v3 + 1)))]) gC d_Mn_nextCorner_23 3 rfl (by decide) (v3 + 1) rfl [1, 2, 3, 0] rfl ?_
          refine v_goto (tgt := 2) gC d_Mn_nextCorner_26 (by decide) ?_
          refine v_loc (lv' := [(0, .ref (d0 0)), (1, .int (zI x1)), (2, .int (zI x2)), (3, .int (zI (v3 + 1)))]) [0, 1, 2, 3] rfl ?_
          exact h
        · replace h := h.2 hc
          refine v_iload_n gC d_Mn_nextCorner_21 rfl 3 rfl ?_
          exact gret _ _ _ _ d_Mn_nextCorner_22 ⟨v3, rfl, rfl, h⟩)
  refine v_iconst gC d_Mn_nextCorner_0 ?_
  refine v_istore_n (lv' := [(0, .ref (d0 0)), (1, .int (zI x1)), (2, .int (zI x2)), (3, .int (zI 0))]) gC d_Mn_nextCorner_1 rfl (by decide) [1, 2, 3, 0] rfl ?_
  refine v_loc (lv' := [(0, .ref (d0 0)), (1, .int (zI x1)), (2, .int (zI x2)), (3, .int (zI 0))]) [0, 1, 2, 3] rfl ?_
  exact h

set_option maxHeartbeats 4000000 in
set_option maxRecDepth 100000 in
theorem k_Mn_walkHole (l : Launch) (D : va_G) (K : Nat → ClassId) (d0 : Nat → Nat) (x1 : Int) (x2 : Int) (s0 : s_Mn) (Q : Int → s_Mn → Prop) (h : wp_Mn_walkHole x1 x2 s0 Q) : Kt l D K y_Mn_walkHole b_Mn_walkHole 5 (some .int) 1 23 [.ref (d0 0), .int (zI x1), .int (zI x2)] (w_Mn K d0 s0) (fun v w1 => ∃ (r : Int), ∃ (u0 : s_Mn), v = some (.int (zI r)) ∧ w1 = (w_Mn K d0 u0) ∧ Q r u0) := by
  refine Kt.ofI (by decide +kernel) (Nat.le_of_ble_eq_true rfl) (lv0 := [(0, .ref (d0 0)), (1, .int (zI x1)), (2, .int (zI x2))]) rfl ?_
  intro gp ge gR gs gm ga gb gh gc gA gQ gRf gRl gC gret
  unfold wp_Mn_walkHole at h
  replace h := h
    (fun (v3 : Int) (v4 : Int) (s0 : s_Mn) => V gp l ge gR gs gm ga gb gh gc D gA 5 0 0 gQ (w_Mn K d0 s0) 5 [(0, .ref (d0 0)), (1, .int (zI x1)), (2, .int (zI x2)), (3, .int (zI v3)), (4, .int (zI v4))] [])
    (by
      intro v3 v4 s0 h
      refine v_iload gC d_Mn_walkHole_5 4 rfl ?_
      refine v_bipush gC d_Mn_walkHole_7 (by decide) ?_
      obtain ⟨hg1, h⟩ := h
      refine v_icmp_ge (tgt := 65) gC d_Mn_walkHole_9 (by decide) hg1 (by decide) (fun hc => ?_) (fun hc => ?_)
      · replace h := h.1 hc
        refine v_iconst gC d_Mn_walkHole_65 ?_
        exact gret _ _ _ _ d_Mn_walkHole_66 ⟨0, s0, rfl, rfl, h⟩
      · replace h := h.2 hc
        refine v_aload_n gC d_Mn_walkHole_12 rfl 0 rfl ?_
        refine v_get (v := .ref (d0 4)) gC in_Mn 0 rfl rfl 6 (by decide) fl_Mn_22 rfl d_Mn_walkHole_13 ?_
        refine v_iload_n gC d_Mn_walkHole_16 rfl 3 rfl ?_
        obtain ⟨hg2, h⟩ := h
        refine v_iald (g := (gMn_openFrom s0)) gC 4 0 rfl rfl hg2 rfl (by decide) d_Mn_walkHole_17 ?_
        refine v_iconst gC d_Mn_walkHole_18 ?_
        obtain ⟨hg3, h⟩ := h
        refine v_icmp_ne (tgt := 32) gC d_Mn_walkHole_19 (by decide) hg3 (by decide) (fun hc => ?_) (fun hc => ?_)
        · replace h := h.1 hc
          refine v_iconst gC d_Mn_walkHole_32 ?_
          exact gret _ _ _ _ d_Mn_walkHole_33 ⟨0, s0, rfl, rfl, h⟩
        · replace h := h.2 hc
          refine v_aload_n gC d_Mn_walkHole_22 rfl 0 rfl ?_
          refine v_iload_n gC d_Mn_walkHole_23 rfl 3 rfl ?_
          refine v_iload gC d_Mn_walkHole_24 4 rfl ?_
          refine v_callV (rest := []) gC (k_Mn_isInHole l D K d0 v3 v4 s0 _ h) wV_Mn_101 rfl ⟨by omega, by omega, Nat.zero_le _, Nat.zero_le _⟩ 0 rfl rfl [0, 1, 2, 3, 4, 5] [] rfl (by decide) rfl (by decide) (by decide) rfl (Nat.le_of_ble_eq_true rfl) d_Mn_walkHole_26 (fun v w1 hp => ?_)
          obtain ⟨r4, rfl, rfl, h⟩ := hp
          refine v_after (ws' := (w_Mn K d0 s0)) (st' := [.int (zI r4)]) [0, 1, 2, 3, 4, 5] (by decide) rfl rfl ?_
          obtain ⟨hg5, h⟩ := h
          refine v_if_eq (tgt := 34) gC d_Mn_walkHole_29 (by decide) hg5 (fun hc => ?_) (fun hc => ?_)
          · replace h := h.1 hc
            refine v_aload_n gC d_Mn_walkHole_34 rfl 0 rfl ?_
            refine v_get (v := .ref (d0 5)) gC in_Mn 0 rfl rfl 7 (by decide) fl_Mn_25 rfl d_Mn_walkHole_35 ?_
            refine v_iload gC d_Mn_walkHole_38 4 rfl ?_
            refine v_iload_n gC d_Mn_walkHole_40 rfl 3 rfl ?_
            obtain ⟨hg6, h⟩ := h
            refine v_iast (g := (gMn_hole s0)) (ws' := (w_Mn K d0 (mkMn (gMn_joined s0) (gMn_dropped s0) (gMn_closed s0) (gMn_lowestHere s0) (gMn_counted s0) (gMn_balance s0) (gMn_openFrom s0) (iset (gMn_hole s0) v4 v3)))) gC 5 0 rfl rfl hg6 rfl (by decide) rfl d_Mn_walkHole_41 ?_
            refine v_aload_n gC d_Mn_walkHole_42 rfl 0 rfl ?_
            refine v_iload_n gC d_Mn_walkHole_43 rfl 3 rfl ?_
            refine v_iload_n gC d_Mn_walkHole_44 rfl 2 rfl ?_
            refine v_callV (rest := []) gC (k_Mn_nextCorner l D K d0 v3 x2 (mkMn (gMn_joined s0) (gMn_dropped s0) (gMn_closed s0) (gMn_lowestHere s0) (gMn_counted s0) (gMn_balance s0) (gMn_openFrom s0) (iset (gMn_hole s0) v4 v3)) _ h) wV_Mn_104 rfl ⟨by omega, by omega, Nat.zero_le _, Nat.zero_le _⟩ 0 rfl rfl [0, 1, 2, 3, 4, 5] [] rfl (by decide) rfl (by decide) (by decide) rfl (Nat.le_of_ble_eq_true rfl) d_Mn_walkHole_45 (fun v w1 hp => ?_)
            obtain ⟨r7, rfl, rfl, h⟩ := hp
            refine v_after (ws' := (w_Mn K d0 (mkMn (gMn_joined s0) (gMn_dropped s0) (gMn_closed s0) (gMn_lowestHere s0) (gMn_counted s0) (gMn_balance s0) (gMn_openFrom s0) (iset (gMn_hole s0) v4 v3)))) (st' := [.int (zI r7)]) [0, 1, 2, 3, 4, 5] (by decide) rfl rfl ?_
            refine v_istore_n (lv' := [(0, .ref (d0 0)), (1, .int (zI x1)), (2, .int (zI x2)), (3, .int (zI r7)), (4, .int (zI v4))]) gC d_Mn_walkHole_48 rfl (by decide) [1, 2, 3, 0, 4] rfl ?_
            refine v_iload_n gC d_Mn_walkHole_49 rfl 3 rfl ?_
            refine v_iload_n gC d_Mn_walkHole_50 rfl 1 rfl ?_
            obtain ⟨hg8, hg9, h⟩ := h
            refine v_icmp_ne (tgt := 59) gC d_Mn_walkHole_51 (by decide) hg8 hg9 (fun hc => ?_) (fun hc => ?_)
            · replace h := h.1 hc
              refine v_iinc (lv' := [(0, .ref (d0 0)), (1, .int (zI x1)), (2, .int (zI x2)), (3, .int (zI r7)), (4, .int (zI (v4 + 1)))]) gC d_Mn_walkHole_59 4 rfl (by decide) (v4 + 1) rfl [1, 2, 3, 4, 0] rfl ?_
              refine v_goto (tgt := 5) gC d_Mn_walkHole_62 (by decide) ?_
              refine v_loc (lv' := [(0, .ref (d0 0)), (1, .int (zI x1)), (2, .int (zI x2)), (3, .int (zI r7)), (4, .int (zI (v4 + 1)))]) [0, 1, 2, 3, 4] rfl ?_
              exact h
            · replace h := h.2 hc
              refine v_iload gC d_Mn_walkHole_54 4 rfl ?_
              refine v_iconst gC d_Mn_walkHole_56 ?_
              refine v_iadd gC d_Mn_walkHole_57 (v4 + 1) rfl ?_
              exact gret _ _ _ _ d_Mn_walkHole_58 ⟨v4 + 1, (mkMn (gMn_joined s0) (gMn_dropped s0) (gMn_closed s0) (gMn_lowestHere s0) (gMn_counted s0) (gMn_balance s0) (gMn_openFrom s0) (iset (gMn_hole s0) v4 v3)), rfl, rfl, h⟩
          · replace h := h.2 hc
            refine v_iconst gC d_Mn_walkHole_32 ?_
            exact gret _ _ _ _ d_Mn_walkHole_33 ⟨0, s0, rfl, rfl, h⟩)
  refine v_iload_n gC d_Mn_walkHole_0 rfl 1 rfl ?_
  refine v_istore_n (lv' := [(0, .ref (d0 0)), (1, .int (zI x1)), (2, .int (zI x2)), (3, .int (zI x1))]) gC d_Mn_walkHole_1 rfl (by decide) [1, 2, 3, 0] rfl ?_
  refine v_iconst gC d_Mn_walkHole_2 ?_
  refine v_istore (lv' := [(0, .ref (d0 0)), (1, .int (zI x1)), (2, .int (zI x2)), (3, .int (zI x1)), (4, .int (zI 0))]) gC d_Mn_walkHole_3 (by decide) [1, 2, 3, 4, 0] rfl ?_
  refine v_loc (lv' := [(0, .ref (d0 0)), (1, .int (zI x1)), (2, .int (zI x2)), (3, .int (zI x1)), (4, .int (zI 0))]) [0, 1, 2, 3, 4] rfl ?_
  exact h

set_option maxHeartbeats 4000000 in
set_option maxRecDepth 100000 in
theorem k_Mn_fillHole (l : Launch) (D : va_G) (K : Nat → ClassId) (d0 : Nat → Nat) (d1 : Nat → Nat) (x2 : Int) (s0 : s_Mn) (s1 : s_Me) (Q : s_Mn → s_Me → Prop) (h : wp_Mn_fillHole x2 s0 s1 Q) : Kt l D K y_Mn_fillHole b_Mn_fillHole 4 none 2 47 [.ref (d0 0), .ref (d1 0), .int (zI x2)] (w_Mn K d0 s0 ++ w_Me K d1 s1) (fun v w1 => ∃ (u0 : s_Mn), ∃ (u1 : s_Me), v = none ∧ w1 = (w_Mn K d0 u0 ++ w_Me K d1 u1) ∧ Q u0 u1) := by
  refine Kt.ofV (by decide +kernel) (Nat.le_of_ble_eq_true rfl) (lv0 := [(0, .ref (d0 0)), (1, .ref (d1 0)), (2, .int (zI x2))]) rfl ?_
  intro gp ge gR gs gm ga gb gh gc gA gQ gRf gRl gC gret
  unfold wp_Mn_fillHole at h
  replace h := h
    (fun (v3 : Int) (s0 : s_Mn) (s1 : s_Me) => V gp l ge gR gs gm ga gb gh gc D gA 4 0 0 gQ (w_Mn K d0 s0 ++ w_Me K d1 s1) 2 [(0, .ref (d0 0)), (1, .ref (d1 0)), (2, .int (zI x2)), (3, .int (zI v3))] [])
    (by
      intro v3 s0 s1 h
      refine v_iload_n gC d_Mn_fillHole_2 rfl 3 rfl ?_
      refine v_iload_n gC d_Mn_fillHole_3 rfl 2 rfl ?_
      refine v_iconst gC d_Mn_fillHole_4 ?_
      refine v_isub gC d_Mn_fillHole_5 (x2 - 2) rfl ?_
      obtain ⟨hg1, hg2, h⟩ := h
      refine v_icmp_gt (tgt := 51) gC d_Mn_fillHole_6 (by decide) hg1 hg2 (fun hc => ?_) (fun hc => ?_)
      · replace h := h.1 hc
        refine v_aload_n gC d_Mn_fillHole_51 rfl 0 rfl ?_
        refine v_dup gC d_Mn_fillHole_52 rfl ?_
        refine v_get (v := .int (zI (gMn_closed s0))) gC in_Mn 0 rfl rfl 2 (by decide) fl_Mn_111 rfl d_Mn_fillHole_53 ?_
        refine v_iconst gC d_Mn_fillHole_56 ?_
        refine v_iadd gC d_Mn_fillHole_57 ((gMn_closed s0) + 1) rfl ?_
        refine v_puti (ws' := (w_Mn K d0 (mkMn (gMn_joined s0) (gMn_dropped s0) ((gMn_closed s0) + 1) (gMn_lowestHere s0) (gMn_counted s0) (gMn_balance s0) (gMn_openFrom s0) (gMn_hole s0)) ++ w_Me K d1 s1)) gC in_Mn t_Mn ok_Mn n_Mn 0 rfl rfl 2 (by decide) fl_Mn_111 rfl (by decide +kernel) (Nat.le_of_ble_eq_true rfl) rfl d_Mn_fillHole_58 ?_
        exact gret _ _ _ d_Mn_fillHole_61 ⟨(mkMn (gMn_joined s0) (gMn_dropped s0) ((gMn_closed s0) + 1) (gMn_lowestHere s0) (gMn_counted s0) (gMn_balance s0) (gMn_openFrom s0) (gMn_hole s0)), s1, rfl, rfl, h⟩
      · replace h := h.2 hc
        refine v_aload_n gC d_Mn_fillHole_9 rfl 1 rfl ?_
        refine v_aload_n gC d_Mn_fillHole_10 rfl 0 rfl ?_
        refine v_get (v := .ref (d0 5)) gC in_Mn 0 rfl rfl 7 (by decide) fl_Mn_25 rfl d_Mn_fillHole_11 ?_
        refine v_iconst gC d_Mn_fillHole_14 ?_
        refine v_iald (g := (gMn_hole s0)) gC 5 0 rfl rfl (by decide) rfl (by decide) d_Mn_fillHole_15 ?_
        refine v_aload_n gC d_Mn_fillHole_16 rfl 0 rfl ?_
        refine v_get (v := .ref (d0 5)) gC in_Mn 0 rfl rfl 7 (by decide) fl_Mn_25 rfl d_Mn_fillHole_17 ?_
        refine v_iload_n gC d_Mn_fillHole_20 rfl 3 rfl ?_
        refine v_iconst gC d_Mn_fillHole_21 ?_
        refine v_iadd gC d_Mn_fillHole_22 (v3 + 1) rfl ?_
        obtain ⟨hg3, h⟩ := h
        refine v_iald (g := (gMn_hole s0)) gC 5 0 rfl rfl hg3 rfl (by decide) d_Mn_fillHole_23 ?_
        refine v_aload_n gC d_Mn_fillHole_24 rfl 0 rfl ?_
        refine v_get (v := .ref (d0 5)) gC in_Mn 0 rfl rfl 7 (by decide) fl_Mn_25 rfl d_Mn_fillHole_25 ?_
        refine v_iload_n gC d_Mn_fillHole_28 rfl 3 rfl ?_
        obtain ⟨hg4, h⟩ := h
        refine v_iald (g := (gMn_hole s0)) gC 5 0 rfl rfl hg4 rfl (by decide) d_Mn_fillHole_29 ?_
        refine v_callV (rest := []) gC (k_Me_addTriangle l D K d1 ((gMn_hole s0) 0) ((gMn_hole s0) (v3 + 1)) ((gMn_hole s0) v3) s1 _ h) wV_Mn_107 rfl ⟨by omega, by omega, Nat.zero_le _, Nat.zero_le _⟩ 0 rfl rfl [6, 7, 8, 9, 10] [0, 1, 2, 3, 4, 5] rfl (by decide) rfl (by decide) (by decide) rfl (Nat.le_of_ble_eq_true rfl) d_Mn_fillHole_30 (fun v w1 hp => ?_)
        obtain ⟨r5, u6, rfl, rfl, h⟩ := hp
        refine v_after (ws' := (w_Mn K d0 s0 ++ w_Me K d1 u6)) (st' := [.int (zI r5)]) [0, 1, 2, 3, 4, 5, 6, 7, 8, 9, 10] (by decide) rfl rfl ?_
        refine v_pop gC d_Mn_fillHole_33 rfl ?_
        refine v_aload_n gC d_Mn_fillHole_34 rfl 0 rfl ?_
        refine v_aload_n gC d_Mn_fillHole_35 rfl 1 rfl ?_
        refine v_aload_n gC d_Mn_fillHole_36 rfl 1 rfl ?_
        refine v_get (v := .int (zI (gMe_triangles u6))) gC in_Me 6 rfl rfl 5 (by decide) fl_Mn_56 rfl d_Mn_fillHole_37 ?_
        refine v_iconst gC d_Mn_fillHole_40 ?_
        refine v_isub gC d_Mn_fillHole_41 ((gMe_triangles u6) - 1) rfl ?_
        refine v_callV (rest := []) gC (k_Mn_addEdgesOf l D K d0 d1 ((gMe_triangles u6) - 1) s0 u6 _ h) wV_Mn_86 rfl ⟨by omega, by omega, Nat.zero_le _, Nat.zero_le _⟩ 0 rfl rfl [0, 1, 2, 3, 4, 5, 6, 7, 8, 9, 10] [] rfl (by decide) rfl (by decide) (by decide) rfl (Nat.le_of_ble_eq_true rfl) d_Mn_fillHole_42 (fun v w1 hp => ?_)
        obtain ⟨u7, rfl, rfl, h⟩ := hp
        refine v_after (ws' := (w_Mn K d0 u7 ++ w_Me K d1 u6)) (st' := []) [0, 1, 2, 3, 4, 5, 6, 7, 8, 9, 10] (by decide) rfl rfl ?_
        refine v_iinc (lv' := [(0, .ref (d0 0)), (1, .ref (d1 0)), (2, .int (zI x2)), (3, .int (zI (v3 + 1)))]) gC d_Mn_fillHole_45 3 rfl (by decide) (v3 + 1) rfl [1, 2, 3, 0] rfl ?_
        refine v_goto (tgt := 2) gC d_Mn_fillHole_48 (by decide) ?_
        refine v_loc (lv' := [(0, .ref (d0 0)), (1, .ref (d1 0)), (2, .int (zI x2)), (3, .int (zI (v3 + 1)))]) [0, 1, 2, 3] rfl ?_
        exact h)
  refine v_iconst gC d_Mn_fillHole_0 ?_
  refine v_istore_n (lv' := [(0, .ref (d0 0)), (1, .ref (d1 0)), (2, .int (zI x2)), (3, .int (zI 1))]) gC d_Mn_fillHole_1 rfl (by decide) [1, 2, 3, 0] rfl ?_
  refine v_loc (lv' := [(0, .ref (d0 0)), (1, .ref (d1 0)), (2, .int (zI x2)), (3, .int (zI 1))]) [0, 1, 2, 3] rfl ?_
  exact h

set_option maxHeartbeats 4000000 in
set_option maxRecDepth 100000 in
theorem k_Mn_closeFirstHole (l : Launch) (D : va_G) (K : Nat → ClassId) (d0 : Nat → Nat) (d1 : Nat → Nat) (s0 : s_Mn) (s1 : s_Me) (Q : Int → s_Mn → s_Me → Prop) (h : wp_Mn_closeFirstHole s0 s1 Q) : Kt l D K y_Mn_closeFirstHole b_Mn_closeFirstHole 4 (some .boolean) 3 70 [.ref (d0 0), .ref (d1 0)] (w_Mn K d0 s0 ++ w_Me K d1 s1) (fun v w1 => ∃ (r : Int), ∃ (u0 : s_Mn), ∃ (u1 : s_Me), v = some (.int (zI r)) ∧ w1 = (w_Mn K d0 u0 ++ w_Me K d1 u1) ∧ Q r u0 u1) := by
  refine Kt.ofZ (by decide +kernel) (Nat.le_of_ble_eq_true rfl) (lv0 := [(0, .ref (d0 0)), (1, .ref (d1 0))]) rfl ?_
  intro gp ge gR gs gm ga gb gh gc gA gQ gRf gRl gC gret
  unfold wp_Mn_closeFirstHole at h
  replace h := h
    (fun (v2 : Int) (s0 : s_Mn) (s1 : s_Me) => V gp l ge gR gs gm ga gb gh gc D gA 4 0 0 gQ (w_Mn K d0 s0 ++ w_Me K d1 s1) 2 [(0, .ref (d0 0)), (1, .ref (d1 0)), (2, .int (zI v2))] [])
    (by
      intro v2 s0 s1 h
      refine v_iload_n gC d_Mn_closeFirstHole_2 rfl 2 rfl ?_
      refine v_aload_n gC d_Mn_closeFirstHole_3 rfl 1 rfl ?_
      refine v_get (v := .int (zI (gMe_corners s1))) gC in_Me 6 rfl rfl 3 (by decide) fl_Mn_42 rfl d_Mn_closeFirstHole_4 ?_
      obtain ⟨hg1, hg2, h⟩ := h
      refine v_icmp_ge (tgt := 52) gC d_Mn_closeFirstHole_7 (by decide) hg1 hg2 (fun hc => ?_) (fun hc => ?_)
      · replace h := h.1 hc
        refine v_iconst gC d_Mn_closeFirstHole_52 ?_
        exact gret _ _ _ _ d_Mn_closeFirstHole_53 rfl ⟨0, s0, s1, rfl, rfl, h⟩
      · replace h := h.2 hc
        refine v_aload_n gC d_Mn_closeFirstHole_10 rfl 0 rfl ?_
        refine v_iload_n gC d_Mn_closeFirstHole_11 rfl 2 rfl ?_
        refine v_aload_n gC d_Mn_closeFirstHole_12 rfl 1 rfl ?_
        refine v_get (v := .int (zI (gMe_corners s1))) gC in_Me 6 rfl rfl 3 (by decide) fl_Mn_42 rfl d_Mn_closeFirstHole_13 ?_
        refine v_callV (rest := []) gC (k_Mn_walkHole l D K d0 v2 (gMe_corners s1) s0 _ h) wV_Mn_94 rfl ⟨by omega, by omega, Nat.zero_le _, Nat.zero_le _⟩ 0 rfl rfl [0, 1, 2, 3, 4, 5] [6, 7, 8, 9, 10] rfl (by decide) rfl (by decide) (by decide) rfl (Nat.le_of_ble_eq_true rfl) d_Mn_closeFirstHole_16 (fun v w1 hp => ?_)
        obtain ⟨r3, u4, rfl, rfl, h⟩ := hp
        refine v_after (ws' := (w_Mn K d0 u4 ++ w_Me K d1 s1)) (st' := [.int (zI r3)]) [5, 6, 7, 8, 9, 10, 0, 1, 2, 3, 4] (by decide) rfl rfl ?_
        refine v_istore_n (lv' := [(0, .ref (d0 0)), (1, .ref (d1 0)), (2, .int (zI v2)), (3, .int (zI r3))]) gC d_Mn_closeFirstHole_19 rfl (by decide) [1, 2, 3, 0] rfl ?_
        refine v_iload_n gC d_Mn_closeFirstHole_20 rfl 3 rfl ?_
        refine v_iconst gC d_Mn_closeFirstHole_21 ?_
        obtain ⟨hg5, h⟩ := h
        refine v_icmp_lt (tgt := 46) gC d_Mn_closeFirstHole_22 (by decide) hg5 (by decide) (fun hc => ?_) (fun hc => ?_)
        · replace h := h.1 hc
          refine v_iinc (lv' := [(0, .ref (d0 0)), (1, .ref (d1 0)), (2, .int (zI (v2 + 1))), (3, .int (zI r3))]) gC d_Mn_closeFirstHole_46 2 rfl (by decide) (v2 + 1) rfl [1, 2, 0, 3] rfl ?_
          refine v_goto (tgt := 2) gC d_Mn_closeFirstHole_49 (by decide) ?_
          refine v_loc (lv' := [(0, .ref (d0 0)), (1, .ref (d1 0)), (2, .int (zI (v2 + 1)))]) [0, 1, 2] rfl ?_
          exact h
        · replace h := h.2 hc
          refine v_aload_n gC d_Mn_closeFirstHole_25 rfl 1 rfl ?_
          refine v_get (v := .int (zI (gMe_triangles s1))) gC in_Me 6 rfl rfl 5 (by decide) fl_Mn_56 rfl d_Mn_closeFirstHole_26 ?_
          refine v_iload_n gC d_Mn_closeFirstHole_29 rfl 3 rfl ?_
          refine v_iadd gC d_Mn_closeFirstHole_30 ((gMe_triangles s1) + r3) rfl ?_
          refine v_iconst gC d_Mn_closeFirstHole_31 ?_
          refine v_isub gC d_Mn_closeFirstHole_32 (((gMe_triangles s1) + r3) - 2) rfl ?_
          refine v_bipush gC d_Mn_closeFirstHole_33 (by decide) ?_
          obtain ⟨hg6, h⟩ := h
          refine v_icmp_gt (tgt := 46) gC d_Mn_closeFirstHole_35 (by decide) hg6 (by decide) (fun hc => ?_) (fun hc => ?_)
          · replace h := h.1 hc
            refine v_iinc (lv' := [(0, .ref (d0 0)), (1, .ref (d1 0)), (2, .int (zI (v2 + 1))), (3, .int (zI r3))]) gC d_Mn_closeFirstHole_46 2 rfl (by decide) (v2 + 1) rfl [1, 2, 0, 3] rfl ?_
            refine v_goto (tgt := 2) gC d_Mn_closeFirstHole_49 (by decide) ?_
            refine v_loc (lv' := [(0, .ref (d0 0)), (1, .ref (d1 0)), (2, .int (zI (v2 + 1)))]) [0, 1, 2] rfl ?_
            exact h
          · replace h := h.2 hc
            refine v_aload_n gC d_Mn_closeFirstHole_38 rfl 0 rfl ?_
            refine v_aload_n gC d_Mn_closeFirstHole_39 rfl 1 rfl ?_
            refine v_iload_n gC d_Mn_closeFirstHole_40 rfl 3 rfl ?_
            refine v_callV (rest := []) gC (k_Mn_fillHole l D K d0 d1 r3 u4 s1 _ h) wV_Mn_98 rfl ⟨by omega, by omega, Nat.zero_le _, Nat.zero_le _⟩ 0 rfl rfl [0, 1, 2, 3, 4, 5, 6, 7, 8, 9, 10] [] rfl (by decide) rfl (by decide) (by decide) rfl (Nat.le_of_ble_eq_true rfl) d_Mn_closeFirstHole_41 (fun v w1 hp => ?_)
            obtain ⟨u7, u8, rfl, rfl, h⟩ := hp
            refine v_after (ws' := (w_Mn K d0 u7 ++ w_Me K d1 u8)) (st' := []) [0, 1, 2, 3, 4, 5, 6, 7, 8, 9, 10] (by decide) rfl rfl ?_
            refine v_iconst gC d_Mn_closeFirstHole_44 ?_
            exact gret _ _ _ _ d_Mn_closeFirstHole_45 rfl ⟨1, u7, u8, rfl, rfl, h⟩)
  refine v_iconst gC d_Mn_closeFirstHole_0 ?_
  refine v_istore_n (lv' := [(0, .ref (d0 0)), (1, .ref (d1 0)), (2, .int (zI 0))]) gC d_Mn_closeFirstHole_1 rfl (by decide) [1, 2, 0] rfl ?_
  refine v_loc (lv' := [(0, .ref (d0 0)), (1, .ref (d1 0)), (2, .int (zI 0))]) [0, 1, 2] rfl ?_
  exact h

set_option maxHeartbeats 4000000 in
set_option maxRecDepth 100000 in
theorem k_Mn_openInAll (l : Launch) (D : va_G) (K : Nat → ClassId) (d0 : Nat → Nat) (x1 : Int) (s0 : s_Mn) (Q : Int → Prop) (h : wp_Mn_openInAll x1 s0 Q) : Kt l D K y_Mn_openInAll b_Mn_openInAll 4 (some .int) 0 0 [.ref (d0 0), .int (zI x1)] (w_Mn K d0 s0) (fun v w1 => ∃ (r : Int), v = some (.int (zI r)) ∧ w1 = (w_Mn K d0 s0) ∧ Q r) := by
  refine Kt.ofI (by decide +kernel) (Nat.le_of_ble_eq_true rfl) (lv0 := [(0, .ref (d0 0)), (1, .int (zI x1))]) rfl ?_
  intro gp ge gR gs gm ga gb gh gc gA gQ gRf gRl gC gret
  unfold wp_Mn_openInAll at h
  replace h := h
    (fun (v2 : Int) (v3 : Int) => V gp l ge gR gs gm ga gb gh gc D gA 4 0 0 gQ (w_Mn K d0 s0) 4 [(0, .ref (d0 0)), (1, .int (zI x1)), (2, .int (zI v2)), (3, .int (zI v3))] [])
    (by
      intro v2 v3 h
      refine v_iload_n gC d_Mn_openInAll_4 rfl 3 rfl ?_
      refine v_iload_n gC d_Mn_openInAll_5 rfl 1 rfl ?_
      obtain ⟨hg1, hg2, h⟩ := h
      refine v_icmp_ge (tgt := 24) gC d_Mn_openInAll_6 (by decide) hg1 hg2 (fun hc => ?_) (fun hc => ?_)
      · replace h := h.1 hc
        refine v_iload_n gC d_Mn_openInAll_24 rfl 2 rfl ?_
        exact gret _ _ _ _ d_Mn_openInAll_25 ⟨v2, rfl, rfl, h⟩
      · replace h := h.2 hc
        refine v_iload_n gC d_Mn_openInAll_9 rfl 2 rfl ?_
        refine v_aload_n gC d_Mn_openInAll_10 rfl 0 rfl ?_
        refine v_get (v := .ref (d0 4)) gC in_Mn 0 rfl rfl 6 (by decide) fl_Mn_22 rfl d_Mn_openInAll_11 ?_
        refine v_iload_n gC d_Mn_openInAll_14 rfl 3 rfl ?_
        obtain ⟨hg3, h⟩ := h
        refine v_iald (g := (gMn_openFrom s0)) gC 4 0 rfl rfl hg3 rfl (by decide) d_Mn_openInAll_15 ?_
        refine v_iadd gC d_Mn_openInAll_16 (v2 + ((gMn_openFrom s0) v3)) rfl ?_
        refine v_istore_n (lv' := [(0, .ref (d0 0)), (1, .int (zI x1)), (2, .int (zI (v2 + ((gMn_openFrom s0) v3)))), (3, .int (zI v3))]) gC d_Mn_openInAll_17 rfl (by decide) [1, 2, 0, 3] rfl ?_
        refine v_iinc (lv' := [(0, .ref (d0 0)), (1, .int (zI x1)), (2, .int (zI (v2 + ((gMn_openFrom s0) v3)))), (3, .int (zI (v3 + 1)))]) gC d_Mn_openInAll_18 3 rfl (by decide) (v3 + 1) rfl [1, 2, 3, 0] rfl ?_
        refine v_goto (tgt := 4) gC d_Mn_openInAll_21 (by decide) ?_
        refine v_loc (lv' := [(0, .ref (d0 0)), (1, .int (zI x1)), (2, .int (zI (v2 + ((gMn_openFrom s0) v3)))), (3, .int (zI (v3 + 1)))]) [0, 1, 2, 3] rfl ?_
        exact h)
  refine v_iconst gC d_Mn_openInAll_0 ?_
  refine v_istore_n (lv' := [(0, .ref (d0 0)), (1, .int (zI x1)), (2, .int (zI 0))]) gC d_Mn_openInAll_1 rfl (by decide) [1, 2, 0] rfl ?_
  refine v_iconst gC d_Mn_openInAll_2 ?_
  refine v_istore_n (lv' := [(0, .ref (d0 0)), (1, .int (zI x1)), (2, .int (zI 0)), (3, .int (zI 0))]) gC d_Mn_openInAll_3 rfl (by decide) [1, 2, 3, 0] rfl ?_
  refine v_loc (lv' := [(0, .ref (d0 0)), (1, .int (zI x1)), (2, .int (zI 0)), (3, .int (zI 0))]) [0, 1, 2, 3] rfl ?_
  exact h

set_option maxHeartbeats 4000000 in
set_option maxRecDepth 100000 in
theorem k_Mn_mendMesh (l : Launch) (D : va_G) (K : Nat → ClassId) (d0 : Nat → Nat) (d1 : Nat → Nat) (s0 : s_Mn) (s1 : s_Me) (Q : Int → s_Mn → s_Me → Prop) (h : wp_Mn_mendMesh s0 s1 Q) : Kt l D K y_Mn_mendMesh b_Mn_mendMesh 4 (some .int) 4 93 [.ref (d0 0), .ref (d1 0)] (w_Mn K d0 s0 ++ w_Me K d1 s1) (fun v w1 => ∃ (r : Int), ∃ (u0 : s_Mn), ∃ (u1 : s_Me), v = some (.int (zI r)) ∧ w1 = (w_Mn K d0 u0 ++ w_Me K d1 u1) ∧ Q r u0 u1) := by
  refine Kt.ofI (by decide +kernel) (Nat.le_of_ble_eq_true rfl) (lv0 := [(0, .ref (d0 0)), (1, .ref (d1 0))]) rfl ?_
  intro gp ge gR gs gm ga gb gh gc gA gQ gRf gRl gC gret
  unfold wp_Mn_mendMesh at h
  replace h := h
    (fun (v2 : Int) (v3 : Int) (s0 : s_Mn) (s1 : s_Me) => V gp l ge gR gs gm ga gb gh gc D gA 4 0 0 gQ (w_Mn K d0 s0 ++ w_Me K d1 s1) 19 [(0, .ref (d0 0)), (1, .ref (d1 0)), (2, .int (zI v2)), (3, .int (zI v3))] [])
    (by
      intro v2 v3 s0 s1 h
      refine v_iload_n gC d_Mn_mendMesh_19 rfl 2 rfl ?_
      obtain ⟨hg6, h⟩ := h
      refine v_if_eq (tgt := 41) gC d_Mn_mendMesh_20 (by decide) hg6 (fun hc => ?_) (fun hc => ?_)
      · replace h := h.1 hc
        refine v_aload_n gC d_Mn_mendMesh_41 rfl 0 rfl ?_
        refine v_aload_n gC d_Mn_mendMesh_42 rfl 1 rfl ?_
        refine v_get (v := .int (zI (gMe_corners s1))) gC in_Me 6 rfl rfl 3 (by decide) fl_Mn_42 rfl d_Mn_mendMesh_43 ?_
        refine v_callV (rest := []) gC (k_Mn_openInAll l D K d0 (gMe_corners s1) s0 _ h) wV_Mn_48 rfl ⟨by omega, by omega, Nat.zero_le _, Nat.zero_le _⟩ 0 rfl rfl [0, 1, 2, 3, 4, 5] [6, 7, 8, 9, 10] rfl (by decide) rfl (by decide) (by decide) rfl (Nat.le_of_ble_eq_true rfl) d_Mn_mendMesh_46 (fun v w1 hp => ?_)
        obtain ⟨r7, rfl, rfl, h⟩ := hp
        refine v_after (ws' := (w_Mn K d0 s0 ++ w_Me K d1 s1)) (st' := [.int (zI r7)]) [5, 6, 7, 8, 9, 10, 0, 1, 2, 3, 4] (by decide) rfl rfl ?_
        exact gret _ _ _ _ d_Mn_mendMesh_49 ⟨r7, s0, s1, rfl, rfl, h⟩
      · replace h := h.2 hc
        refine v_iload_n gC d_Mn_mendMesh_23 rfl 3 rfl ?_
        refine v_bipush gC d_Mn_mendMesh_24 (by decide) ?_
        obtain ⟨hg8, h⟩ := h
        refine v_icmp_ge (tgt := 41) gC d_Mn_mendMesh_26 (by decide) hg8 (by decide) (fun hc => ?_) (fun hc => ?_)
        · replace h := h.1 hc
          refine v_aload_n gC d_Mn_mendMesh_41 rfl 0 rfl ?_
          refine v_aload_n gC d_Mn_mendMesh_42 rfl 1 rfl ?_
          refine v_get (v := .int (zI (gMe_corners s1))) gC in_Me 6 rfl rfl 3 (by decide) fl_Mn_42 rfl d_Mn_mendMesh_43 ?_
          refine v_callV (rest := []) gC (k_Mn_openInAll l D K d0 (gMe_corners s1) s0 _ h) wV_Mn_48 rfl ⟨by omega, by omega, Nat.zero_le _, Nat.zero_le _⟩ 0 rfl rfl [0, 1, 2, 3, 4, 5] [6, 7, 8, 9, 10] rfl (by decide) rfl (by decide) (by decide) rfl (Nat.le_of_ble_eq_true rfl) d_Mn_mendMesh_46 (fun v w1 hp => ?_)
          obtain ⟨r9, rfl, rfl, h⟩ := hp
          refine v_after (ws' := (w_Mn K d0 s0 ++ w_Me K d1 s1)) (st' := [.int (zI r9)]) [5, 6, 7, 8, 9, 10, 0, 1, 2, 3, 4] (by decide) rfl rfl ?_
          exact gret _ _ _ _ d_Mn_mendMesh_49 ⟨r9, s0, s1, rfl, rfl, h⟩
        · replace h := h.2 hc
          refine v_aload_n gC d_Mn_mendMesh_29 rfl 0 rfl ?_
          refine v_aload_n gC d_Mn_mendMesh_30 rfl 1 rfl ?_
          refine v_callV (rest := []) gC (k_Mn_closeFirstHole l D K d0 d1 s0 s1 _ h) wV_Mn_38 rfl ⟨by omega, by omega, Nat.zero_le _, Nat.zero_le _⟩ 0 rfl rfl [0, 1, 2, 3, 4, 5, 6, 7, 8, 9, 10] [] rfl (by decide) rfl (by decide) (by decide) rfl (Nat.le_of_ble_eq_true rfl) d_Mn_mendMesh_31 (fun v w1 hp => ?_)
          obtain ⟨r10, u11, u12, rfl, rfl, h⟩ := hp
          refine v_after (ws' := (w_Mn K d0 u11 ++ w_Me K d1 u12)) (st' := [.int (zI r10)]) [0, 1, 2, 3, 4, 5, 6, 7, 8, 9, 10] (by decide) rfl rfl ?_
          refine v_istore_n (lv' := [(0, .ref (d0 0)), (1, .ref (d1 0)), (2, .int (zI r10)), (3, .int (zI v3))]) gC d_Mn_mendMesh_34 rfl (by decide) [1, 2, 0, 3] rfl ?_
          refine v_iinc (lv' := [(0, .ref (d0 0)), (1, .ref (d1 0)), (2, .int (zI r10)), (3, .int (zI (v3 + 1)))]) gC d_Mn_mendMesh_35 3 rfl (by decide) (v3 + 1) rfl [1, 2, 3, 0] rfl ?_
          refine v_goto (tgt := 19) gC d_Mn_mendMesh_38 (by decide) ?_
          refine v_loc (lv' := [(0, .ref (d0 0)), (1, .ref (d1 0)), (2, .int (zI r10)), (3, .int (zI (v3 + 1)))]) [0, 1, 2, 3] rfl ?_
          exact h)
  refine v_aload_n gC d_Mn_mendMesh_0 rfl 0 rfl ?_
  refine v_aload_n gC d_Mn_mendMesh_1 rfl 1 rfl ?_
  refine v_callV (rest := []) gC (k_Mn_joinCorners l D K d0 d1 s0 s1 _ h) wV_Mn_28 rfl ⟨by omega, by omega, Nat.zero_le _, Nat.zero_le _⟩ 0 rfl rfl [0, 1, 2, 3, 4, 5, 6, 7, 8, 9, 10] [] rfl (by decide) rfl (by decide) (by decide) rfl (Nat.le_of_ble_eq_true rfl) d_Mn_mendMesh_2 (fun v w1 hp => ?_)
  obtain ⟨u1, u2, rfl, rfl, h⟩ := hp
  refine v_after (ws' := (w_Mn K d0 u1 ++ w_Me K d1 u2)) (st' := []) [0, 1, 2, 3, 4, 5, 6, 7, 8, 9, 10] (by decide) rfl rfl ?_
  refine v_aload_n gC d_Mn_mendMesh_5 rfl 0 rfl ?_
  refine v_aload_n gC d_Mn_mendMesh_6 rfl 1 rfl ?_
  refine v_callV (rest := []) gC (k_Mn_dropTriangles l D K d0 d1 u1 u2 _ h) wV_Mn_32 rfl ⟨by omega, by omega, Nat.zero_le _, Nat.zero_le _⟩ 0 rfl rfl [0, 1, 2, 3, 4, 5, 6, 7, 8, 9, 10] [] rfl (by decide) rfl (by decide) (by decide) rfl (Nat.le_of_ble_eq_true rfl) d_Mn_mendMesh_7 (fun v w1 hp => ?_)
  obtain ⟨u3, u4, rfl, rfl, h⟩ := hp
  refine v_after (ws' := (w_Mn K d0 u3 ++ w_Me K d1 u4)) (st' := []) [0, 1, 2, 3, 4, 5, 6, 7, 8, 9, 10] (by decide) rfl rfl ?_
  refine v_aload_n gC d_Mn_mendMesh_10 rfl 0 rfl ?_
  refine v_aload_n gC d_Mn_mendMesh_11 rfl 1 rfl ?_
  refine v_callV (rest := []) gC (k_Mn_weighEdges l D K d0 d1 u3 u4 _ h) wV_Mn_35 rfl ⟨by omega, by omega, Nat.zero_le _, Nat.zero_le _⟩ 0 rfl rfl [0, 1, 2, 3, 4, 5, 6, 7, 8, 9, 10] [] rfl (by decide) rfl (by decide) (by decide) rfl (Nat.le_of_ble_eq_true rfl) d_Mn_mendMesh_12 (fun v w1 hp => ?_)
  obtain ⟨u5, rfl, rfl, h⟩ := hp
  refine v_after (ws' := (w_Mn K d0 u5 ++ w_Me K d1 u4)) (st' := []) [0, 1, 2, 3, 4, 5, 6, 7, 8, 9, 10] (by decide) rfl rfl ?_
  refine v_iconst gC d_Mn_mendMesh_15 ?_
  refine v_istore_n (lv' := [(0, .ref (d0 0)), (1, .ref (d1 0)), (2, .int (zI 1))]) gC d_Mn_mendMesh_16 rfl (by decide) [1, 2, 0] rfl ?_
  refine v_iconst gC d_Mn_mendMesh_17 ?_
  refine v_istore_n (lv' := [(0, .ref (d0 0)), (1, .ref (d1 0)), (2, .int (zI 1)), (3, .int (zI 0))]) gC d_Mn_mendMesh_18 rfl (by decide) [1, 2, 3, 0] rfl ?_
  refine v_loc (lv' := [(0, .ref (d0 0)), (1, .ref (d1 0)), (2, .int (zI 1)), (3, .int (zI 0))]) [0, 1, 2, 3] rfl ?_
  exact h

set_option maxHeartbeats 4000000 in
set_option maxRecDepth 100000 in
theorem k_LS_mend (l : Launch) (D : va_G) (K : Nat → ClassId) (d0 : Nat → Nat) (s0 : s_LS) (Q : Int → s_LS → Prop) (h : wp_LS_mend s0 Q) : Kt l D K y_LS_mend b_LS_mend 1 (some .int) 5 116 [.ref (d0 0)] (w_LS K d0 s0) (fun v w1 => ∃ (r : Int), ∃ (u0 : s_LS), v = some (.int (zI r)) ∧ w1 = (w_LS K d0 u0) ∧ Q r u0) := by
  refine Kt.ofI (by decide +kernel) (Nat.le_of_ble_eq_true rfl) (lv0 := [(0, .ref (d0 0))]) rfl ?_
  intro gp ge gR gs gm ga gb gh gc gA gQ gRf gRl gC gret
  unfold wp_LS_mend at h
  refine v_aload_n gC d_LS_mend_0 rfl 0 rfl ?_
  refine v_get (v := .ref (d0 6)) gC in_LS 0 rfl rfl 1 (by decide) fl_LS_19 rfl d_LS_mend_1 ?_
  refine v_aload_n gC d_LS_mend_4 rfl 0 rfl ?_
  refine v_get (v := .ref (d0 1)) gC in_LS 0 rfl rfl 0 (by decide) fl_LS_12 rfl d_LS_mend_5 ?_
  refine v_callV (rest := []) gC (k_Mn_mendMesh l D K (fun i => d0 (i + 6)) (fun i => d0 (i + 1)) (gLS_mender s0) (gLS_mesh s0) _ h) wV_LS_58 rfl ⟨by omega, by omega, Nat.zero_le _, Nat.zero_le _⟩ 0 rfl rfl [6, 7, 8, 9, 10, 11, 1, 2, 3, 4, 5] [0, 12, 13, 14, 15, 16, 17, 18, 19, 20, 21, 22, 23, 24, 25, 26, 27, 28, 29, 30, 31, 32, 33, 34] rfl (by decide) rfl (by decide) (by decide) rfl (Nat.le_of_ble_eq_true rfl) d_LS_mend_8 (fun v w1 hp => ?_)
  obtain ⟨r1, u2, u3, rfl, rfl, h⟩ := hp
  refine v_after (ws' := (w_LS K d0 (mkLS u3 u2 (gLS_slices s0) (gLS_sorter s0) (gLS_router s0) (gLS_printer s0)))) (st' := [.int (zI r1)]) [0, 30, 31, 32, 33, 34, 24, 25, 26, 27, 28, 29, 1, 2, 3, 4, 5, 6, 7, 8, 9, 10, 11, 12, 13, 14, 15, 16, 17, 18, 19, 20, 21, 22, 23] (by decide) rfl rfl ?_
  exact gret _ _ _ _ d_LS_mend_11 ⟨r1, (mkLS u3 u2 (gLS_slices s0) (gLS_sorter s0) (gLS_router s0) (gLS_printer s0)), rfl, rfl, h⟩

set_option maxHeartbeats 4000000 in
set_option maxRecDepth 100000 in
theorem k_LS_mended (l : Launch) (D : va_G) (K : Nat → ClassId) (d0 : Nat → Nat) (x1 : Int) (s0 : s_LS) (Q : Int → Prop) (h : wp_LS_mended x1 s0 Q) : Kt l D K y_LS_mended b_LS_mended 2 (some .int) 0 0 [.ref (d0 0), .int (zI x1)] (w_LS K d0 s0) (fun v w1 => ∃ (r : Int), v = some (.int (zI r)) ∧ w1 = (w_LS K d0 s0) ∧ Q r) := by
  refine Kt.ofI (by decide +kernel) (Nat.le_of_ble_eq_true rfl) (lv0 := [(0, .ref (d0 0)), (1, .int (zI x1))]) rfl ?_
  intro gp ge gR gs gm ga gb gh gc gA gQ gRf gRl gC gret
  unfold wp_LS_mended at h
  refine v_iload_n gC d_LS_mended_0 rfl 1 rfl ?_
  obtain ⟨hg1, h⟩ := h
  by_cases hc : x1 = 0
  · replace h := h.1 hc
    refine v_tabIn (tgt := 32) (i := 0) gC d_LS_mended_1 hg1 hc 0 (by decide) (by decide) rfl (by decide) ?_
    refine v_aload_n gC d_LS_mended_32 rfl 0 rfl ?_
    refine v_get (v := .ref (d0 6)) gC in_LS 0 rfl rfl 1 (by decide) fl_LS_19 rfl d_LS_mended_33 ?_
    refine v_get (v := .int (zI (gMn_joined (gLS_mender s0)))) gC in_Mn 6 rfl rfl 0 (by decide) fl_LS_62 rfl d_LS_mended_36 ?_
    exact gret _ _ _ _ d_LS_mended_39 ⟨(gMn_joined (gLS_mender s0)), rfl, rfl, h⟩
  · replace h := h.2
    have hx0 := hc
    by_cases hc : x1 = 1
    · replace h := h.1 hc
      refine v_tabIn (tgt := 40) (i := 1) gC d_LS_mended_1 hg1 hc 1 (by decide) (by decide) rfl (by decide) ?_
      refine v_aload_n gC d_LS_mended_40 rfl 0 rfl ?_
      refine v_get (v := .ref (d0 6)) gC in_LS 0 rfl rfl 1 (by decide) fl_LS_19 rfl d_LS_mended_41 ?_
      refine v_get (v := .int (zI (gMn_dropped (gLS_mender s0)))) gC in_Mn 6 rfl rfl 1 (by decide) fl_LS_66 rfl d_LS_mended_44 ?_
      exact gret _ _ _ _ d_LS_mended_47 ⟨(gMn_dropped (gLS_mender s0)), rfl, rfl, h⟩
    · replace h := h.2
      have hx1 := hc
      by_cases hc : x1 = 2
      · replace h := h.1 hc
        refine v_tabIn (tgt := 48) (i := 2) gC d_LS_mended_1 hg1 hc 2 (by decide) (by decide) rfl (by decide) ?_
        refine v_aload_n gC d_LS_mended_48 rfl 0 rfl ?_
        refine v_get (v := .ref (d0 6)) gC in_LS 0 rfl rfl 1 (by decide) fl_LS_19 rfl d_LS_mended_49 ?_
        refine v_get (v := .int (zI (gMn_closed (gLS_mender s0)))) gC in_Mn 6 rfl rfl 2 (by decide) fl_LS_69 rfl d_LS_mended_52 ?_
        exact gret _ _ _ _ d_LS_mended_55 ⟨(gMn_closed (gLS_mender s0)), rfl, rfl, h⟩
      · replace h := h.2
        have hx2 := hc
        by_cases hc : x1 = 3
        · replace h := h.1 hc
          refine v_tabIn (tgt := 56) (i := 3) gC d_LS_mended_1 hg1 hc 3 (by decide) (by decide) rfl (by decide) ?_
          refine v_aload_n gC d_LS_mended_56 rfl 0 rfl ?_
          refine v_get (v := .ref (d0 1)) gC in_LS 0 rfl rfl 0 (by decide) fl_LS_12 rfl d_LS_mended_57 ?_
          refine v_get (v := .int (zI (gMe_triangles (gLS_mesh s0)))) gC in_Me 1 rfl rfl 5 (by decide) fl_LS_72 rfl d_LS_mended_60 ?_
          exact gret _ _ _ _ d_LS_mended_63 ⟨(gMe_triangles (gLS_mesh s0)), rfl, rfl, h⟩
        · replace h := h.2
          have hx3 := hc
          have hd : x1 < 0 ∨ 3 < x1 := by omega
          replace h := h hd
          refine v_tabOut (tgt := 64) gC d_LS_mended_1 hg1 hd (by decide) ?_
          refine v_iconst gC d_LS_mended_64 ?_
          exact gret _ _ _ _ d_LS_mended_65 ⟨(-1), rfl, rfl, h⟩
