set_option maxHeartbeats 4000000 in
set_option maxRecDepth 100000 in
theorem k_Mo_high (l : Launch) (D : va_G) (K : Nat → ClassId) (d0 : Nat → Nat) (x1 : Int) (s0 : s_Mo) (Q : Int → Prop) (h : wp_Mo_high x1 s0 Q) : Kt l D K y_Mo_high b_Mo_high 2 (some .int) 0 0 [.ref (d0 0), .int (zI x1)] (w_Mo K d0 s0) (fun v w1 => ∃ (r : Int), v = some (.int (zI r)) ∧ w1 = (w_Mo K d0 s0) ∧ Q r) := by
  refine Kt.ofI (by decide +kernel) (Nat.le_of_ble_eq_true rfl) (lv0 := [(0, .ref (d0 0)), (1, .int (zI x1))]) rfl ?_
  intro gp ge gR gs gm ga gb gh gc gA gQ gRf gRl gC gret
  unfold wp_Mo_high at h
  refine v_iconst gC d_Mo_high_0 ?_
  refine v_iload_n gC d_Mo_high_1 rfl 1 rfl ?_
  refine v_imul gC d_Mo_high_2 (2 * x1) rfl ?_
  refine v_iconst gC d_Mo_high_3 ?_
  refine v_iadd gC d_Mo_high_4 ((2 * x1) + 1) rfl ?_
  refine v_aload_n gC d_Mo_high_5 rfl 0 rfl ?_
  refine v_get (v := .int (zI (gMo_thickness s0))) gC in_Mo 0 rfl rfl 11 (by decide) fl_Mo_110 rfl d_Mo_high_6 ?_
  refine v_imul gC d_Mo_high_9 (((2 * x1) + 1) * (gMo_thickness s0)) rfl ?_
  exact gret _ _ _ _ d_Mo_high_10 ⟨((2 * x1) + 1) * (gMo_thickness s0), rfl, rfl, h⟩

set_option maxHeartbeats 4000000 in
set_option maxRecDepth 100000 in
theorem k_Mo_isAbove (l : Launch) (D : va_G) (K : Nat → ClassId) (d0 : Nat → Nat) (x1 : Int) (x2 : Int) (s0 : s_Mo) (Q : Int → Prop) (h : wp_Mo_isAbove x1 x2 s0 Q) : Kt l D K y_Mo_isAbove b_Mo_isAbove 3 (some .boolean) 1 21 [.ref (d0 0), .int (zI x1), .int (zI x2)] (w_Mo K d0 s0) (fun v w1 => ∃ (r : Int), v = some (.int (zI r)) ∧ w1 = (w_Mo K d0 s0) ∧ Q r) := by
  refine Kt.ofZ (by decide +kernel) (Nat.le_of_ble_eq_true rfl) (lv0 := [(0, .ref (d0 0)), (1, .int (zI x1)), (2, .int (zI x2))]) rfl ?_
  intro gp ge gR gs gm ga gb gh gc gA gQ gRf gRl gC gret
  unfold wp_Mo_isAbove at h
  refine v_iconst gC d_Mo_isAbove_0 ?_
  refine v_aload_n gC d_Mo_isAbove_1 rfl 0 rfl ?_
  refine v_get (v := .ref (d0 7)) gC in_Mo 0 rfl rfl 15 (by decide) fl_Mo_28 rfl d_Mo_isAbove_2 ?_
  refine v_iload_n gC d_Mo_isAbove_5 rfl 1 rfl ?_
  obtain ⟨hg1, h⟩ := h
  refine v_iald (g := (gMo_cz s0)) gC 7 0 rfl rfl hg1 rfl (by decide) d_Mo_isAbove_6 ?_
  refine v_imul gC d_Mo_isAbove_7 (2 * ((gMo_cz s0) x1)) rfl ?_
  refine v_aload_n gC d_Mo_isAbove_8 rfl 0 rfl ?_
  refine v_iload_n gC d_Mo_isAbove_9 rfl 2 rfl ?_
  refine v_callV (rest := [.int (zI (2 * ((gMo_cz s0) x1)))]) gC (k_Mo_high l D K d0 x2 s0 _ h) wV_Mo_119 rfl ⟨by omega, by omega, Nat.zero_le _, Nat.zero_le _⟩ 0 rfl rfl [0, 1, 2, 3, 4, 5, 6, 7, 8, 9, 10, 11] [] rfl (by decide) rfl (by decide) (by decide) rfl (Nat.le_of_ble_eq_true rfl) d_Mo_isAbove_10 (fun v w1 hp => ?_)
  obtain ⟨r2, rfl, rfl, h⟩ := hp
  refine v_after (ws' := (w_Mo K d0 s0)) (st' := [.int (zI r2), .int (zI (2 * ((gMo_cz s0) x1)))]) [0, 1, 2, 3, 4, 5, 6, 7, 8, 9, 10, 11] (by decide) rfl rfl ?_
  obtain ⟨hg3, hg4, h⟩ := h
  refine v_icmp_le (tgt := 20) gC d_Mo_isAbove_13 (by decide) hg3 hg4 (fun hc => ?_) (fun hc => ?_)
  · replace h := h.1 hc
    refine v_iconst gC d_Mo_isAbove_20 ?_
    exact gret _ _ _ _ d_Mo_isAbove_21 rfl ⟨0, rfl, rfl, h⟩
  · replace h := h.2 hc
    refine v_iconst gC d_Mo_isAbove_16 ?_
    refine v_goto (tgt := 21) gC d_Mo_isAbove_17 (by decide) ?_
    exact gret _ _ _ _ d_Mo_isAbove_21 rfl ⟨1, rfl, rfl, h⟩

set_option maxHeartbeats 4000000 in
set_option maxRecDepth 100000 in
theorem k_Mo_isCut (l : Launch) (D : va_G) (K : Nat → ClassId) (d0 : Nat → Nat) (x1 : Int) (x2 : Int) (s0 : s_Mo) (Q : Int → Prop) (h : wp_Mo_isCut x1 x2 s0 Q) : Kt l D K y_Mo_isCut b_Mo_isCut 4 (some .boolean) 2 43 [.ref (d0 0), .int (zI x1), .int (zI x2)] (w_Mo K d0 s0) (fun v w1 => ∃ (r : Int), v = some (.int (zI r)) ∧ w1 = (w_Mo K d0 s0) ∧ Q r) := by
  refine Kt.ofZ (by decide +kernel) (Nat.le_of_ble_eq_true rfl) (lv0 := [(0, .ref (d0 0)), (1, .int (zI x1)), (2, .int (zI x2))]) rfl ?_
  intro gp ge gR gs gm ga gb gh gc gA gQ gRf gRl gC gret
  unfold wp_Mo_isCut at h
  refine v_aload_n gC d_Mo_isCut_0 rfl 0 rfl ?_
  refine v_iconst gC d_Mo_isCut_1 ?_
  refine v_iload_n gC d_Mo_isCut_2 rfl 2 rfl ?_
  refine v_imul gC d_Mo_isCut_3 (3 * x2) rfl ?_
  refine v_iload_n gC d_Mo_isCut_4 rfl 1 rfl ?_
  refine v_callV (rest := []) gC (k_Mo_isAbove l D K d0 (3 * x2) x1 s0 _ h) wV_Mo_131 rfl ⟨by omega, by omega, Nat.zero_le _, Nat.zero_le _⟩ 0 rfl rfl [0, 1, 2, 3, 4, 5, 6, 7, 8, 9, 10, 11] [] rfl (by decide) rfl (by decide) (by decide) rfl (Nat.le_of_ble_eq_true rfl) d_Mo_isCut_5 (fun v w1 hp => ?_)
  obtain ⟨r1, rfl, rfl, h⟩ := hp
  refine v_after (ws' := (w_Mo K d0 s0)) (st' := [.int (zI r1)]) [0, 1, 2, 3, 4, 5, 6, 7, 8, 9, 10, 11] (by decide) rfl rfl ?_
  refine v_istore_n (lv' := [(0, .ref (d0 0)), (1, .int (zI x1)), (2, .int (zI x2)), (3, .int (zI r1))]) gC d_Mo_isCut_8 rfl (by decide) [1, 2, 3, 0] rfl ?_
  refine v_aload_n gC d_Mo_isCut_9 rfl 0 rfl ?_
  refine v_iconst gC d_Mo_isCut_10 ?_
  refine v_iload_n gC d_Mo_isCut_11 rfl 2 rfl ?_
  refine v_imul gC d_Mo_isCut_12 (3 * x2) rfl ?_
  refine v_iconst gC d_Mo_isCut_13 ?_
  refine v_iadd gC d_Mo_isCut_14 ((3 * x2) + 1) rfl ?_
  refine v_iload_n gC d_Mo_isCut_15 rfl 1 rfl ?_
  refine v_callV (rest := []) gC (k_Mo_isAbove l D K d0 ((3 * x2) + 1) x1 s0 _ h) wV_Mo_131 rfl ⟨by omega, by omega, Nat.zero_le _, Nat.zero_le _⟩ 0 rfl rfl [0, 1, 2, 3, 4, 5, 6, 7, 8, 9, 10, 11] [] rfl (by decide) rfl (by decide) (by decide) rfl (Nat.le_of_ble_eq_true rfl) d_Mo_isCut_16 (fun v w1 hp => ?_)
  obtain ⟨r2, rfl, rfl, h⟩ := hp
  refine v_after (ws' := (w_Mo K d0 s0)) (st' := [.int (zI r2)]) [0, 1, 2, 3, 4, 5, 6, 7, 8, 9, 10, 11] (by decide) rfl rfl ?_
  refine v_iload_n gC d_Mo_isCut_19 rfl 3 rfl ?_
  obtain ⟨hg3, hg4, h⟩ := h
  refine v_icmp_ne (tgt := 37) gC d_Mo_isCut_20 (by decide) hg3 hg4 (fun hc => ?_) (fun hc => ?_)
  · replace h := h.1 hc
    refine v_iconst gC d_Mo_isCut_37 ?_
    refine v_goto (tgt := 42) gC d_Mo_isCut_38 (by decide) ?_
    exact gret _ _ _ _ d_Mo_isCut_42 rfl ⟨1, rfl, rfl, h⟩
  · replace h := h.2 hc
    refine v_aload_n gC d_Mo_isCut_23 rfl 0 rfl ?_
    refine v_iconst gC d_Mo_isCut_24 ?_
    refine v_iload_n gC d_Mo_isCut_25 rfl 2 rfl ?_
    refine v_imul gC d_Mo_isCut_26 (3 * x2) rfl ?_
    refine v_iconst gC d_Mo_isCut_27 ?_
    refine v_iadd gC d_Mo_isCut_28 ((3 * x2) + 2) rfl ?_
    refine v_iload_n gC d_Mo_isCut_29 rfl 1 rfl ?_
    refine v_callV (rest := []) gC (k_Mo_isAbove l D K d0 ((3 * x2) + 2) x1 s0 _ h) wV_Mo_131 rfl ⟨by omega, by omega, Nat.zero_le _, Nat.zero_le _⟩ 0 rfl rfl [0, 1, 2, 3, 4, 5, 6, 7, 8, 9, 10, 11] [] rfl (by decide) rfl (by decide) (by decide) rfl (Nat.le_of_ble_eq_true rfl) d_Mo_isCut_30 (fun v w1 hp => ?_)
    obtain ⟨r5, rfl, rfl, h⟩ := hp
    refine v_after (ws' := (w_Mo K d0 s0)) (st' := [.int (zI r5)]) [0, 1, 2, 3, 4, 5, 6, 7, 8, 9, 10, 11] (by decide) rfl rfl ?_
    refine v_iload_n gC d_Mo_isCut_33 rfl 3 rfl ?_
    obtain ⟨hg6, h⟩ := h
    refine v_icmp_eq (tgt := 41) gC d_Mo_isCut_34 (by decide) hg6 hg4 (fun hc => ?_) (fun hc => ?_)
    · replace h := h.1 hc
      refine v_iconst gC d_Mo_isCut_41 ?_
      exact gret _ _ _ _ d_Mo_isCut_42 rfl ⟨0, rfl, rfl, h⟩
    · replace h := h.2 hc
      refine v_iconst gC d_Mo_isCut_37 ?_
      refine v_goto (tgt := 42) gC d_Mo_isCut_38 (by decide) ?_
      exact gret _ _ _ _ d_Mo_isCut_42 rfl ⟨1, rfl, rfl, h⟩

set_option maxHeartbeats 4000000 in
set_option maxRecDepth 100000 in
theorem k_Mo_edgeOf (l : Launch) (D : va_G) (K : Nat → ClassId) (d0 : Nat → Nat) (x1 : Int) (x2 : Int) (x3 : Int) (s0 : s_Mo) (Q : Int → Prop) (h : wp_Mo_edgeOf x1 x2 x3 s0 Q) : Kt l D K y_Mo_edgeOf b_Mo_edgeOf 6 (some .int) 2 43 [.ref (d0 0), .int (zI x1), .int (zI x2), .int (zI x3)] (w_Mo K d0 s0) (fun v w1 => ∃ (r : Int), v = some (.int (zI r)) ∧ w1 = (w_Mo K d0 s0) ∧ Q r) := by
  refine Kt.ofI (by decide +kernel) (Nat.le_of_ble_eq_true rfl) (lv0 := [(0, .ref (d0 0)), (1, .int (zI x1)), (2, .int (zI x2)), (3, .int (zI x3))]) rfl ?_
  intro gp ge gR gs gm ga gb gh gc gA gQ gRf gRl gC gret
  unfold wp_Mo_edgeOf at h
  replace h := h
    (fun (v4 : Int) (v5 : Int) => V gp l ge gR gs gm ga gb gh gc D gA 6 0 0 gQ (w_Mo K d0 s0) 6 [(0, .ref (d0 0)), (1, .int (zI x1)), (2, .int (zI x2)), (4, .int (zI v4)), (5, .int (zI v5))] [])
    (by
      intro v4 v5 h
      refine v_iload gC d_Mo_edgeOf_6 4 rfl ?_
      refine v_iconst gC d_Mo_edgeOf_8 ?_
      obtain ⟨hg1, h⟩ := h
      refine v_icmp_ge (tgt := 61) gC d_Mo_edgeOf_9 (by decide) hg1 (by decide) (fun hc => ?_) (fun hc => ?_)
      · replace h := h.1 hc
        refine v_iconst gC d_Mo_edgeOf_61 ?_
        exact gret _ _ _ _ d_Mo_edgeOf_62 ⟨(-1), rfl, rfl, h⟩
      · replace h := h.2 hc
        refine v_aload_n gC d_Mo_edgeOf_12 rfl 0 rfl ?_
        refine v_iconst gC d_Mo_edgeOf_13 ?_
        refine v_iload_n gC d_Mo_edgeOf_14 rfl 2 rfl ?_
        refine v_imul gC d_Mo_edgeOf_15 (3 * x2) rfl ?_
        refine v_iload gC d_Mo_edgeOf_16 4 rfl ?_
        refine v_iadd gC d_Mo_edgeOf_18 ((3 * x2) + v5) rfl ?_
        refine v_iload_n gC d_Mo_edgeOf_19 rfl 1 rfl ?_
        refine v_callV (rest := []) gC (k_Mo_isAbove l D K d0 ((3 * x2) + v5) x1 s0 _ h) wV_Mo_131 rfl ⟨by omega, by omega, Nat.zero_le _, Nat.zero_le _⟩ 0 rfl rfl [0, 1, 2, 3, 4, 5, 6, 7, 8, 9, 10, 11] [] rfl (by decide) rfl (by decide) (by decide) rfl (Nat.le_of_ble_eq_true rfl) d_Mo_edgeOf_20 (fun v w1 hp => ?_)
        obtain ⟨r2, rfl, rfl, h⟩ := hp
        refine v_after (ws' := (w_Mo K d0 s0)) (st' := [.int (zI r2)]) [0, 1, 2, 3, 4, 5, 6, 7, 8, 9, 10, 11] (by decide) rfl rfl ?_
        refine v_aload_n gC d_Mo_edgeOf_23 rfl 0 rfl ?_
        refine v_iconst gC d_Mo_edgeOf_24 ?_
        refine v_iload_n gC d_Mo_edgeOf_25 rfl 2 rfl ?_
        refine v_imul gC d_Mo_edgeOf_26 (3 * x2) rfl ?_
        refine v_iload gC d_Mo_edgeOf_27 4 rfl ?_
        refine v_iconst gC d_Mo_edgeOf_29 ?_
        refine v_iadd gC d_Mo_edgeOf_30 (v5 + 1) rfl ?_
        refine v_iconst gC d_Mo_edgeOf_31 ?_
        obtain ⟨hg3, h⟩ := h
        refine v_irem gC d_Mo_edgeOf_32 hg3 (by decide) (by decide) ?_
        refine v_iadd gC d_Mo_edgeOf_33 ((3 * x2) + (Int.tmod (v5 + 1) 3)) rfl ?_
        refine v_iload_n gC d_Mo_edgeOf_34 rfl 1 rfl ?_
        refine v_callV (rest := [.int (zI r2)]) gC (k_Mo_isAbove l D K d0 ((3 * x2) + (Int.tmod (v5 + 1) 3)) x1 s0 _ h) wV_Mo_131 rfl ⟨by omega, by omega, Nat.zero_le _, Nat.zero_le _⟩ 0 rfl rfl [0, 1, 2, 3, 4, 5, 6, 7, 8, 9, 10, 11] [] rfl (by decide) rfl (by decide) (by decide) rfl (Nat.le_of_ble_eq_true rfl) d_Mo_edgeOf_35 (fun v w1 hp => ?_)
        obtain ⟨r4, rfl, rfl, h⟩ := hp
        refine v_after (ws' := (w_Mo K d0 s0)) (st' := [.int (zI r4), .int (zI r2)]) [0, 1, 2, 3, 4, 5, 6, 7, 8, 9, 10, 11] (by decide) rfl rfl ?_
        obtain ⟨hg5, hg6, h⟩ := h
        refine v_icmp_ne (tgt := 44) gC d_Mo_edgeOf_38 (by decide) hg5 hg6 (fun hc => ?_) (fun hc => ?_)
        · replace h := h.1 hc
          refine v_iload gC d_Mo_edgeOf_44 3 rfl ?_
          obtain ⟨hg7, h⟩ := h
          refine v_if_ne (tgt := 52) gC d_Mo_edgeOf_46 (by decide) hg7 (fun hc => ?_) (fun hc => ?_)
          · replace h := h.1 hc
            refine v_iinc (lv' := [(0, .ref (d0 0)), (1, .int (zI x1)), (2, .int (zI x2)), (4, .int (zI (v4 + (-1)))), (5, .int (zI v5))]) gC d_Mo_edgeOf_52 3 rfl (by decide) (v4 + (-1)) rfl [1, 2, 3, 0, 4] rfl ?_
            refine v_iinc (lv' := [(0, .ref (d0 0)), (1, .int (zI x1)), (2, .int (zI x2)), (4, .int (zI (v4 + (-1)))), (5, .int (zI (v5 + 1)))]) gC d_Mo_edgeOf_55 4 rfl (by decide) (v5 + 1) rfl [1, 2, 3, 4, 0] rfl ?_
            refine v_goto (tgt := 6) gC d_Mo_edgeOf_58 (by decide) ?_
            refine v_loc (lv' := [(0, .ref (d0 0)), (1, .int (zI x1)), (2, .int (zI x2)), (4, .int (zI (v4 + (-1)))), (5, .int (zI (v5 + 1)))]) [0, 1, 2, 3, 4] rfl ?_
            exact h
          · replace h := h.2 hc
            refine v_iload gC d_Mo_edgeOf_49 4 rfl ?_
            exact gret _ _ _ _ d_Mo_edgeOf_51 ⟨v5, rfl, rfl, h⟩
        · replace h := h.2 hc
          refine v_goto (tgt := 55) gC d_Mo_edgeOf_41 (by decide) ?_
          refine v_iinc (lv' := [(0, .ref (d0 0)), (1, .int (zI x1)), (2, .int (zI x2)), (4, .int (zI v4)), (5, .int (zI (v5 + 1)))]) gC d_Mo_edgeOf_55 4 rfl (by decide) (v5 + 1) rfl [1, 2, 3, 4, 0] rfl ?_
          refine v_goto (tgt := 6) gC d_Mo_edgeOf_58 (by decide) ?_
          refine v_loc (lv' := [(0, .ref (d0 0)), (1, .int (zI x1)), (2, .int (zI x2)), (4, .int (zI v4)), (5, .int (zI (v5 + 1)))]) [0, 1, 2, 3, 4] rfl ?_
          exact h)
  refine v_iload_n gC d_Mo_edgeOf_0 rfl 3 rfl ?_
  refine v_istore (lv' := [(0, .ref (d0 0)), (1, .int (zI x1)), (2, .int (zI x2)), (3, .int (zI x3)), (4, .int (zI x3))]) gC d_Mo_edgeOf_1 (by decide) [1, 2, 3, 4, 0] rfl ?_
  refine v_iconst gC d_Mo_edgeOf_3 ?_
  refine v_istore (lv' := [(0, .ref (d0 0)), (1, .int (zI x1)), (2, .int (zI x2)), (3, .int (zI x3)), (4, .int (zI x3)), (5, .int (zI 0))]) gC d_Mo_edgeOf_4 (by decide) [1, 2, 3, 4, 5, 0] rfl ?_
  refine v_loc (lv' := [(0, .ref (d0 0)), (1, .int (zI x1)), (2, .int (zI x2)), (4, .int (zI x3)), (5, .int (zI 0))]) [0, 1, 2, 4, 5] rfl ?_
  exact h

set_option maxHeartbeats 4000000 in
set_option maxRecDepth 100000 in
theorem k_Mo_end (l : Launch) (D : va_G) (K : Nat → ClassId) (d0 : Nat → Nat) (x1 : Int) (x2 : Int) (x3 : Int) (x4 : Int) (s0 : s_Mo) (Q : Int → Prop) (h : wp_Mo_end x1 x2 x3 x4 s0 Q) : Kt l D K y_Mo_end b_Mo_end 10 (some .int) 3 68 [.ref (d0 0), .int (zI x1), .int (zI x2), .int (zI x3), .int (zI x4)] (w_Mo K d0 s0) (fun v w1 => ∃ (r : Int), v = some (.int (zI r)) ∧ w1 = (w_Mo K d0 s0) ∧ Q r) := by
  refine Kt.ofI (by decide +kernel) (Nat.le_of_ble_eq_true rfl) (lv0 := [(0, .ref (d0 0)), (1, .int (zI x1)), (2, .int (zI x2)), (3, .int (zI x3)), (4, .int (zI x4))]) rfl ?_
  intro gp ge gR gs gm ga gb gh gc gA gQ gRf gRl gC gret
  unfold wp_Mo_end at h
  replace h := h
    (fun (v6 : Int) (v7 : Int) => V gp l ge gR gs gm ga gb gh gc D gA 10 0 0 gQ (w_Mo K d0 s0) 51 [(0, .ref (d0 0)), (1, .int (zI x1)), (4, .int (zI x4)), (6, .int (zI v6)), (7, .int (zI v7))] [])
    (by
      intro v6 v7 h
      refine v_iconst gC d_Mo_end_51 ?_
      refine v_aload_n gC d_Mo_end_52 rfl 0 rfl ?_
      refine v_get (v := .ref (d0 7)) gC in_Mo 0 rfl rfl 15 (by decide) fl_Mo_28 rfl d_Mo_end_53 ?_
      refine v_iload gC d_Mo_end_56 4 rfl ?_
      obtain ⟨hg5, h⟩ := h
      refine v_iald (g := (gMo_cz s0)) gC 7 0 rfl rfl hg5 rfl (by decide) d_Mo_end_58 ?_
      refine v_aload_n gC d_Mo_end_59 rfl 0 rfl ?_
      refine v_get (v := .ref (d0 7)) gC in_Mo 0 rfl rfl 15 (by decide) fl_Mo_28 rfl d_Mo_end_60 ?_
      refine v_iload gC d_Mo_end_63 3 rfl ?_
      obtain ⟨hg6, h⟩ := h
      refine v_iald (g := (gMo_cz s0)) gC 7 0 rfl rfl hg6 rfl (by decide) d_Mo_end_65 ?_
      refine v_isub gC d_Mo_end_66 (((gMo_cz s0) v7) - ((gMo_cz s0) v6)) rfl ?_
      refine v_imul gC d_Mo_end_67 (2 * (((gMo_cz s0) v7) - ((gMo_cz s0) v6))) rfl ?_
      refine v_istore (lv' := [(0, .ref (d0 0)), (1, .int (zI x1)), (4, .int (zI x4)), (6, .int (zI v6)), (7, .int (zI v7)), (8, .int (zI (2 * (((gMo_cz s0) v7) - ((gMo_cz s0) v6)))))]) gC d_Mo_end_68 (by decide) [1, 2, 3, 4, 5, 0] rfl ?_
      refine v_aload_n gC d_Mo_end_70 rfl 0 rfl ?_
      refine v_iload_n gC d_Mo_end_71 rfl 1 rfl ?_
      refine v_callV (rest := []) gC (k_Mo_high l D K d0 x1 s0 _ h) wV_Mo_119 rfl ⟨by omega, by omega, Nat.zero_le _, Nat.zero_le _⟩ 0 rfl rfl [0, 1, 2, 3, 4, 5, 6, 7, 8, 9, 10, 11] [] rfl (by decide) rfl (by decide) (by decide) rfl (Nat.le_of_ble_eq_true rfl) d_Mo_end_72 (fun v w1 hp => ?_)
      obtain ⟨r7, rfl, rfl, h⟩ := hp
      refine v_after (ws' := (w_Mo K d0 s0)) (st' := [.int (zI r7)]) [0, 1, 2, 3, 4, 5, 6, 7, 8, 9, 10, 11] (by decide) rfl rfl ?_
      refine v_iconst gC d_Mo_end_75 ?_
      refine v_aload_n gC d_Mo_end_76 rfl 0 rfl ?_
      refine v_get (v := .ref (d0 7)) gC in_Mo 0 rfl rfl 15 (by decide) fl_Mo_28 rfl d_Mo_end_77 ?_
      refine v_iload gC d_Mo_end_80 3 rfl ?_
      refine v_iald (g := (gMo_cz s0)) gC 7 0 rfl rfl hg6 rfl (by decide) d_Mo_end_82 ?_
      refine v_imul gC d_Mo_end_83 (2 * ((gMo_cz s0) v6)) rfl ?_
      refine v_isub gC d_Mo_end_84 (r7 - (2 * ((gMo_cz s0) v6))) rfl ?_
      refine v_istore (lv' := [(0, .ref (d0 0)), (1, .int (zI x1)), (4, .int (zI x4)), (6, .int (zI v6)), (7, .int (zI v7)), (8, .int (zI (2 * (((gMo_cz s0) v7) - ((gMo_cz s0) v6))))), (9, .int (zI (r7 - (2 * ((gMo_cz s0) v6)))))]) gC d_Mo_end_85 (by decide) [1, 2, 3, 4, 5, 6, 0] rfl ?_
      refine v_iload gC d_Mo_end_87 2 rfl ?_
      obtain ⟨hg8, h⟩ := h
      refine v_if_ne (tgt := 97) gC d_Mo_end_89 (by decide) hg8 (fun hc => ?_) (fun hc => ?_)
      · replace h := h.1 hc
        refine v_iload gC d_Mo_end_97 2 rfl ?_
        refine v_iconst gC d_Mo_end_99 ?_
        refine v_icmp_ne (tgt := 135) gC d_Mo_end_100 (by decide) hg8 (by decide) (fun hc => ?_) (fun hc => ?_)
        · replace h := h.1 hc
          refine v_aload_n gC d_Mo_end_135 rfl 0 rfl ?_
          refine v_get (v := .ref (d0 6)) gC in_Mo 0 rfl rfl 14 (by decide) fl_Mo_25 rfl d_Mo_end_136 ?_
          refine v_iload gC d_Mo_end_139 3 rfl ?_
          refine v_iald (g := (gMo_cy s0)) gC 6 0 rfl rfl hg6 rfl (by decide) d_Mo_end_141 ?_
          refine v_iload gC d_Mo_end_142 5 rfl ?_
          refine v_imul gC d_Mo_end_144 (((gMo_cy s0) v6) * (2 * (((gMo_cz s0) v7) - ((gMo_cz s0) v6)))) rfl ?_
          refine v_aload_n gC d_Mo_end_145 rfl 0 rfl ?_
          refine v_get (v := .ref (d0 6)) gC in_Mo 0 rfl rfl 14 (by decide) fl_Mo_25 rfl d_Mo_end_146 ?_
          refine v_iload gC d_Mo_end_149 4 rfl ?_
          refine v_iald (g := (gMo_cy s0)) gC 6 0 rfl rfl hg5 rfl (by decide) d_Mo_end_151 ?_
          refine v_aload_n gC d_Mo_end_152 rfl 0 rfl ?_
          refine v_get (v := .ref (d0 6)) gC in_Mo 0 rfl rfl 14 (by decide) fl_Mo_25 rfl d_Mo_end_153 ?_
          refine v_iload gC d_Mo_end_156 3 rfl ?_
          refine v_iald (g := (gMo_cy s0)) gC 6 0 rfl rfl hg6 rfl (by decide) d_Mo_end_158 ?_
          refine v_isub gC d_Mo_end_159 (((gMo_cy s0) v7) - ((gMo_cy s0) v6)) rfl ?_
          refine v_iload gC d_Mo_end_160 6 rfl ?_
          refine v_imul gC d_Mo_end_162 ((((gMo_cy s0) v7) - ((gMo_cy s0) v6)) * (r7 - (2 * ((gMo_cz s0) v6)))) rfl ?_
          refine v_iadd gC d_Mo_end_163 ((((gMo_cy s0) v6) * (2 * (((gMo_cz s0) v7) - ((gMo_cz s0) v6)))) + ((((gMo_cy s0) v7) - ((gMo_cy s0) v6)) * (r7 - (2 * ((gMo_cz s0) v6))))) rfl ?_
          exact gret _ _ _ _ d_Mo_end_164 ⟨(((gMo_cy s0) v6) * (2 * (((gMo_cz s0) v7) - ((gMo_cz s0) v6)))) + ((((gMo_cy s0) v7) - ((gMo_cy s0) v6)) * (r7 - (2 * ((gMo_cz s0) v6)))), rfl, rfl, h⟩
        · replace h := h.2 hc
          refine v_aload_n gC d_Mo_end_103 rfl 0 rfl ?_
          refine v_get (v := .ref (d0 5)) gC in_Mo 0 rfl rfl 13 (by decide) fl_Mo_22 rfl d_Mo_end_104 ?_
          refine v_iload gC d_Mo_end_107 3 rfl ?_
          refine v_iald (g := (gMo_cx s0)) gC 5 0 rfl rfl hg6 rfl (by decide) d_Mo_end_109 ?_
          refine v_iload gC d_Mo_end_110 5 rfl ?_
          refine v_imul gC d_Mo_end_112 (((gMo_cx s0) v6) * (2 * (((gMo_cz s0) v7) - ((gMo_cz s0) v6)))) rfl ?_
          refine v_aload_n gC d_Mo_end_113 rfl 0 rfl ?_
          refine v_get (v := .ref (d0 5)) gC in_Mo 0 rfl rfl 13 (by decide) fl_Mo_22 rfl d_Mo_end_114 ?_
          refine v_iload gC d_Mo_end_117 4 rfl ?_
          refine v_iald (g := (gMo_cx s0)) gC 5 0 rfl rfl hg5 rfl (by decide) d_Mo_end_119 ?_
          refine v_aload_n gC d_Mo_end_120 rfl 0 rfl ?_
          refine v_get (v := .ref (d0 5)) gC in_Mo 0 rfl rfl 13 (by decide) fl_Mo_22 rfl d_Mo_end_121 ?_
          refine v_iload gC d_Mo_end_124 3 rfl ?_
          refine v_iald (g := (gMo_cx s0)) gC 5 0 rfl rfl hg6 rfl (by decide) d_Mo_end_126 ?_
          refine v_isub gC d_Mo_end_127 (((gMo_cx s0) v7) - ((gMo_cx s0) v6)) rfl ?_
          refine v_iload gC d_Mo_end_128 6 rfl ?_
          refine v_imul gC d_Mo_end_130 ((((gMo_cx s0) v7) - ((gMo_cx s0) v6)) * (r7 - (2 * ((gMo_cz s0) v6)))) rfl ?_
          refine v_iadd gC d_Mo_end_131 ((((gMo_cx s0) v6) * (2 * (((gMo_cz s0) v7) - ((gMo_cz s0) v6)))) + ((((gMo_cx s0) v7) - ((gMo_cx s0) v6)) * (r7 - (2 * ((gMo_cz s0) v6))))) rfl ?_
          refine v_goto (tgt := 164) gC d_Mo_end_132 (by decide) ?_
          exact gret _ _ _ _ d_Mo_end_164 ⟨(((gMo_cx s0) v6) * (2 * (((gMo_cz s0) v7) - ((gMo_cz s0) v6)))) + ((((gMo_cx s0) v7) - ((gMo_cx s0) v6)) * (r7 - (2 * ((gMo_cz s0) v6)))), rfl, rfl, h⟩
      · replace h := h.2 hc
        refine v_iload gC d_Mo_end_92 5 rfl ?_
        refine v_goto (tgt := 164) gC d_Mo_end_94 (by decide) ?_
        exact gret _ _ _ _ d_Mo_end_164 ⟨2 * (((gMo_cz s0) v7) - ((gMo_cz s0) v6)), rfl, rfl, h⟩)
  refine v_aload_n gC d_Mo_end_0 rfl 0 rfl ?_
  refine v_iload_n gC d_Mo_end_1 rfl 1 rfl ?_
  refine v_iload_n gC d_Mo_end_2 rfl 2 rfl ?_
  refine v_iload_n gC d_Mo_end_3 rfl 3 rfl ?_
  refine v_callV (rest := []) gC (k_Mo_edgeOf l D K d0 x1 x2 x3 s0 _ h) wV_Mo_135 rfl ⟨by omega, by omega, Nat.zero_le _, Nat.zero_le _⟩ 0 rfl rfl [0, 1, 2, 3, 4, 5, 6, 7, 8, 9, 10, 11] [] rfl (by decide) rfl (by decide) (by decide) rfl (Nat.le_of_ble_eq_true rfl) d_Mo_end_4 (fun v w1 hp => ?_)
  obtain ⟨r1, rfl, rfl, h⟩ := hp
  refine v_after (ws' := (w_Mo K d0 s0)) (st' := [.int (zI r1)]) [0, 1, 2, 3, 4, 5, 6, 7, 8, 9, 10, 11] (by decide) rfl rfl ?_
  refine v_istore (lv' := [(0, .ref (d0 0)), (1, .int (zI x1)), (2, .int (zI x2)), (3, .int (zI x3)), (4, .int (zI x4)), (5, .int (zI r1))]) gC d_Mo_end_7 (by decide) [1, 2, 3, 4, 5, 0] rfl ?_
  refine v_iconst gC d_Mo_end_9 ?_
  refine v_iload_n gC d_Mo_end_10 rfl 2 rfl ?_
  refine v_imul gC d_Mo_end_11 (3 * x2) rfl ?_
  refine v_iload gC d_Mo_end_12 5 rfl ?_
  refine v_iadd gC d_Mo_end_14 ((3 * x2) + r1) rfl ?_
  refine v_istore (lv' := [(0, .ref (d0 0)), (1, .int (zI x1)), (2, .int (zI x2)), (3, .int (zI x3)), (4, .int (zI x4)), (5, .int (zI r1)), (6, .int (zI ((3 * x2) + r1)))]) gC d_Mo_end_15 (by decide) [1, 2, 3, 4, 5, 6, 0] rfl ?_
  refine v_iconst gC d_Mo_end_17 ?_
  refine v_iload_n gC d_Mo_end_18 rfl 2 rfl ?_
  refine v_imul gC d_Mo_end_19 (3 * x2) rfl ?_
  refine v_iload gC d_Mo_end_20 5 rfl ?_
  refine v_iconst gC d_Mo_end_22 ?_
  refine v_iadd gC d_Mo_end_23 (r1 + 1) rfl ?_
  refine v_iconst gC d_Mo_end_24 ?_
  obtain ⟨hg2, h⟩ := h
  refine v_irem gC d_Mo_end_25 hg2 (by decide) (by decide) ?_
  refine v_iadd gC d_Mo_end_26 ((3 * x2) + (Int.tmod (r1 + 1) 3)) rfl ?_
  refine v_istore (lv' := [(0, .ref (d0 0)), (1, .int (zI x1)), (2, .int (zI x2)), (3, .int (zI x3)), (4, .int (zI x4)), (5, .int (zI r1)), (6, .int (zI ((3 * x2) + r1))), (7, .int (zI ((3 * x2) + (Int.tmod (r1 + 1) 3))))]) gC d_Mo_end_27 (by decide) [1, 2, 3, 4, 5, 6, 7, 0] rfl ?_
  refine v_aload_n gC d_Mo_end_29 rfl 0 rfl ?_
  refine v_iload gC d_Mo_end_30 6 rfl ?_
  refine v_iload_n gC d_Mo_end_32 rfl 1 rfl ?_
  refine v_callV (rest := []) gC (k_Mo_isAbove l D K d0 ((3 * x2) + r1) x1 s0 _ h) wV_Mo_131 rfl ⟨by omega, by omega, Nat.zero_le _, Nat.zero_le _⟩ 0 rfl rfl [0, 1, 2, 3, 4, 5, 6, 7, 8, 9, 10, 11] [] rfl (by decide) rfl (by decide) (by decide) rfl (Nat.le_of_ble_eq_true rfl) d_Mo_end_33 (fun v w1 hp => ?_)
  obtain ⟨r3, rfl, rfl, h⟩ := hp
  refine v_after (ws' := (w_Mo K d0 s0)) (st' := [.int (zI r3)]) [0, 1, 2, 3, 4, 5, 6, 7, 8, 9, 10, 11] (by decide) rfl rfl ?_
  obtain ⟨hg4, h⟩ := h
  refine v_if_eq (tgt := 51) gC d_Mo_end_36 (by decide) hg4 (fun hc => ?_) (fun hc => ?_)
  · replace h := h.1 hc
    refine v_loc (lv' := [(0, .ref (d0 0)), (1, .int (zI x1)), (4, .int (zI x4)), (6, .int (zI ((3 * x2) + r1))), (7, .int (zI ((3 * x2) + (Int.tmod (r1 + 1) 3))))]) [0, 1, 4, 6, 7] rfl ?_
    exact h
  · replace h := h.2 hc
    refine v_iload gC d_Mo_end_39 6 rfl ?_
    refine v_istore (lv' := [(0, .ref (d0 0)), (1, .int (zI x1)), (2, .int (zI x2)), (3, .int (zI x3)), (4, .int (zI x4)), (5, .int (zI r1)), (6, .int (zI ((3 * x2) + r1))), (7, .int (zI ((3 * x2) + (Int.tmod (r1 + 1) 3)))), (8, .int (zI ((3 * x2) + r1)))]) gC d_Mo_end_41 (by decide) [1, 2, 3, 4, 5, 6, 7, 8, 0] rfl ?_
    refine v_iload gC d_Mo_end_43 7 rfl ?_
    refine v_istore (lv' := [(0, .ref (d0 0)), (1, .int (zI x1)), (2, .int (zI x2)), (3, .int (zI x3)), (4, .int (zI x4)), (5, .int (zI r1)), (6, .int (zI ((3 * x2) + (Int.tmod (r1 + 1) 3)))), (7, .int (zI ((3 * x2) + (Int.tmod (r1 + 1) 3)))), (8, .int (zI ((3 * x2) + r1)))]) gC d_Mo_end_45 (by decide) [1, 2, 3, 4, 5, 6, 0, 7, 8] rfl ?_
    refine v_iload gC d_Mo_end_47 8 rfl ?_
    refine v_istore (lv' := [(0, .ref (d0 0)), (1, .int (zI x1)), (2, .int (zI x2)), (3, .int (zI x3)), (4, .int (zI x4)), (5, .int (zI r1)), (6, .int (zI ((3 * x2) + (Int.tmod (r1 + 1) 3)))), (7, .int (zI ((3 * x2) + r1))), (8, .int (zI ((3 * x2) + r1)))]) gC d_Mo_end_49 (by decide) [1, 2, 3, 4, 5, 6, 7, 0, 8] rfl ?_
    refine v_loc (lv' := [(0, .ref (d0 0)), (1, .int (zI x1)), (4, .int (zI x4)), (6, .int (zI ((3 * x2) + (Int.tmod (r1 + 1) 3)))), (7, .int (zI ((3 * x2) + r1)))]) [0, 1, 4, 6, 7] rfl ?_
    exact h

set_option maxHeartbeats 4000000 in
set_option maxRecDepth 100000 in
theorem k_Mo_isLeft (l : Launch) (D : va_G) (K : Nat → ClassId) (d0 : Nat → Nat) (x1 : Int) (x2 : Int) (x3 : Int) (x4 : Int) (s0 : s_Mo) (Q : Int → Prop) (h : wp_Mo_isLeft x1 x2 x3 x4 s0 Q) : Kt l D K y_Mo_isLeft b_Mo_isLeft 25 (some .boolean) 4 97 [.ref (d0 0), .int (zI x1), .int (zI x2), .int (zI x3), .int (zI x4)] (w_Mo K d0 s0) (fun v w1 => ∃ (r : Int), v = some (.int (zI r)) ∧ w1 = (w_Mo K d0 s0) ∧ Q r) := by
  refine Kt.ofZ (by decide +kernel) (Nat.le_of_ble_eq_true rfl) (lv0 := [(0, .ref (d0 0)), (1, .int (zI x1)), (2, .int (zI x2)), (3, .int (zI x3)), (4, .int (zI x4))]) rfl ?_
  intro gp ge gR gs gm ga gb gh gc gA gQ gRf gRl gC gret
  unfold wp_Mo_isLeft at h
  replace h := h
    (fun (v5 : Int) (v7 : Int) (v9 : Int) (v11 : Int) (v13 : Int) (v15 : Int) (v17 : Int) (v19 : Int) (v21 : Int) (t0 : Int) => V gp l ge gR gs gm ga gb gh gc D gA 25 0 0 gQ (w_Mo K d0 s0) 133 [(5, .long (lI v5)), (7, .long (lI v7)), (9, .long (lI v9)), (11, .long (lI v11)), (13, .long (lI v13)), (15, .long (lI v15)), (17, .long (lI v17)), (19, .long (lI v19)), (21, .int (zI v21))] [.int (zI t0)])
    (by
      intro v5 v7 v9 v11 v13 v15 v17 v19 v21 t0 h
      refine v_istore (lv' := [(5, .long (lI v5)), (7, .long (lI v7)), (9, .long (lI v9)), (11, .long (lI v11)), (13, .long (lI v13)), (15, .long (lI v15)), (17, .long (lI v17)), (19, .long (lI v19)), (21, .int (zI v21)), (22, .int (zI t0))]) gC d_Mo_isLeft_133 (by decide) [1, 2, 3, 4, 5, 6, 7, 8, 9, 0] rfl ?_
      refine v_iload gC d_Mo_isLeft_135 8 rfl ?_
      refine v_iload gC d_Mo_isLeft_137 9 rfl ?_
      obtain ⟨hg21, hg22, h⟩ := h
      refine v_icmp_ne (tgt := 144) gC d_Mo_isLeft_139 (by decide) hg21 hg22 (fun hc => ?_) (fun hc => ?_)
      · replace h := h.1 hc
        refine v_lload gC d_Mo_isLeft_144 4 rfl ?_
        refine v_lload gC d_Mo_isLeft_146 0 rfl ?_
        refine v_lmul gC d_Mo_isLeft_148 (v13 * v5) rfl ?_
        refine v_lload gC d_Mo_isLeft_149 1 rfl ?_
        refine v_lload gC d_Mo_isLeft_151 3 rfl ?_
        refine v_lmul gC d_Mo_isLeft_153 (v7 * v11) rfl ?_
        refine v_lsub gC d_Mo_isLeft_154 ((v13 * v5) - (v7 * v11)) rfl ?_
        refine v_lload gC d_Mo_isLeft_155 6 rfl ?_
        refine v_lload gC d_Mo_isLeft_157 0 rfl ?_
        refine v_lmul gC d_Mo_isLeft_159 (v17 * v5) rfl ?_
        refine v_ldc2 gC kc_Mo_149 d_Mo_isLeft_160 ?_
        refine v_lload gC d_Mo_isLeft_163 2 rfl ?_
        refine v_lmul gC d_Mo_isLeft_165 (2 * v9) rfl ?_
        refine v_lsub gC d_Mo_isLeft_166 ((v17 * v5) - (2 * v9)) rfl ?_
        refine v_lmul gC d_Mo_isLeft_167 (((v13 * v5) - (v7 * v11)) * ((v17 * v5) - (2 * v9))) rfl ?_
        refine v_lload gC d_Mo_isLeft_168 5 rfl ?_
        refine v_lload gC d_Mo_isLeft_170 0 rfl ?_
        refine v_lmul gC d_Mo_isLeft_172 (v15 * v5) rfl ?_
        refine v_lload gC d_Mo_isLeft_173 2 rfl ?_
        refine v_lload gC d_Mo_isLeft_175 3 rfl ?_
        refine v_lmul gC d_Mo_isLeft_177 (v9 * v11) rfl ?_
        refine v_lsub gC d_Mo_isLeft_178 ((v15 * v5) - (v9 * v11)) rfl ?_
        refine v_lload gC d_Mo_isLeft_179 7 rfl ?_
        refine v_lload gC d_Mo_isLeft_181 0 rfl ?_
        refine v_lmul gC d_Mo_isLeft_183 (v19 * v5) rfl ?_
        refine v_ldc2 gC kc_Mo_149 d_Mo_isLeft_184 ?_
        refine v_lload gC d_Mo_isLeft_187 1 rfl ?_
        refine v_lmul gC d_Mo_isLeft_189 (2 * v7) rfl ?_
        refine v_lsub gC d_Mo_isLeft_190 ((v19 * v5) - (2 * v7)) rfl ?_
        refine v_lmul gC d_Mo_isLeft_191 (((v15 * v5) - (v9 * v11)) * ((v19 * v5) - (2 * v7))) rfl ?_
        refine v_lsub gC d_Mo_isLeft_192 ((((v13 * v5) - (v7 * v11)) * ((v17 * v5) - (2 * v9))) - (((v15 * v5) - (v9 * v11)) * ((v19 * v5) - (2 * v7)))) rfl ?_
        refine v_lstore (lv' := [(5, .long (lI v5)), (7, .long (lI v7)), (9, .long (lI v9)), (11, .long (lI v11)), (13, .long (lI v13)), (15, .long (lI v15)), (17, .long (lI v17)), (19, .long (lI v19)), (21, .int (zI v21)), (22, .int (zI t0)), (23, .long (lI ((((v13 * v5) - (v7 * v11)) * ((v17 * v5) - (2 * v9))) - (((v15 * v5) - (v9 * v11)) * ((v19 * v5) - (2 * v7))))))]) gC d_Mo_isLeft_193 (by decide) [1, 2, 3, 4, 5, 6, 7, 8, 9, 10, 0] rfl ?_
        refine v_iload gC d_Mo_isLeft_195 8 rfl ?_
        refine v_if_eq (tgt := 215) gC d_Mo_isLeft_197 (by decide) hg21 (fun hc => ?_) (fun hc => ?_)
        · replace h := h.1 hc
          refine v_lload gC d_Mo_isLeft_215 10 rfl ?_
          refine v_lconst (i := 0) gC d_Mo_isLeft_217 (by decide) ?_
          obtain ⟨hg23, h⟩ := h
          refine v_lcmp gC d_Mo_isLeft_218 hg23 (by decide) ?_
          refine v_if_le (tgt := 226) gC d_Mo_isLeft_219 (by decide) (cmpZ_rg _ _) (fun hc => ?_) (fun hc => ?_)
          · replace h := h.1 hc
            refine v_iconst gC d_Mo_isLeft_226 ?_
            exact gret _ _ _ _ d_Mo_isLeft_227 rfl ⟨0, rfl, rfl, h⟩
          · replace h := h.2 hc
            refine v_iconst gC d_Mo_isLeft_222 ?_
            refine v_goto (tgt := 227) gC d_Mo_isLeft_223 (by decide) ?_
            exact gret _ _ _ _ d_Mo_isLeft_227 rfl ⟨1, rfl, rfl, h⟩
        · replace h := h.2 hc
          refine v_lload gC d_Mo_isLeft_200 10 rfl ?_
          refine v_lconst (i := 0) gC d_Mo_isLeft_202 (by decide) ?_
          obtain ⟨hg24, h⟩ := h
          refine v_lcmp gC d_Mo_isLeft_203 hg24 (by decide) ?_
          refine v_if_ge (tgt := 211) gC d_Mo_isLeft_204 (by decide) (cmpZ_rg _ _) (fun hc => ?_) (fun hc => ?_)
          · replace h := h.1 hc
            refine v_iconst gC d_Mo_isLeft_211 ?_
            refine v_goto (tgt := 227) gC d_Mo_isLeft_212 (by decide) ?_
            exact gret _ _ _ _ d_Mo_isLeft_227 rfl ⟨0, rfl, rfl, h⟩
          · replace h := h.2 hc
            refine v_iconst gC d_Mo_isLeft_207 ?_
            refine v_goto (tgt := 227) gC d_Mo_isLeft_208 (by decide) ?_
            exact gret _ _ _ _ d_Mo_isLeft_227 rfl ⟨1, rfl, rfl, h⟩
      · replace h := h.2 hc
        refine v_iconst gC d_Mo_isLeft_142 ?_
        exact gret _ _ _ _ d_Mo_isLeft_143 rfl ⟨0, rfl, rfl, h⟩)
  refine v_aload_n gC d_Mo_isLeft_0 rfl 0 rfl ?_
  refine v_iload_n gC d_Mo_isLeft_1 rfl 1 rfl ?_
  refine v_iload_n gC d_Mo_isLeft_2 rfl 2 rfl ?_
  refine v_iconst gC d_Mo_isLeft_3 ?_
  refine v_iconst gC d_Mo_isLeft_4 ?_
  refine v_callV (rest := []) gC (k_Mo_end l D K d0 x1 x2 0 0 s0 _ h) wV_Mo_141 rfl ⟨by omega, by omega, Nat.zero_le _, Nat.zero_le _⟩ 0 rfl rfl [0, 1, 2, 3, 4, 5, 6, 7, 8, 9, 10, 11] [] rfl (by decide) rfl (by decide) (by decide) rfl (Nat.le_of_ble_eq_true rfl) d_Mo_isLeft_5 (fun v w1 hp => ?_)
  obtain ⟨r1, rfl, rfl, h⟩ := hp
  refine v_after (ws' := (w_Mo K d0 s0)) (st' := [.int (zI r1)]) [0, 1, 2, 3, 4, 5, 6, 7, 8, 9, 10, 11] (by decide) rfl rfl ?_
  obtain ⟨hg2, h⟩ := h
  refine v_i2l gC d_Mo_isLeft_8 hg2 ?_
  refine v_lstore (lv' := [(0, .ref (d0 0)), (1, .int (zI x1)), (2, .int (zI x2)), (3, .int (zI x3)), (4, .int (zI x4)), (5, .long (lI r1))]) gC d_Mo_isLeft_9 (by decide) [1, 2, 3, 4, 5, 0] rfl ?_
  refine v_aload_n gC d_Mo_isLeft_11 rfl 0 rfl ?_
  refine v_iload_n gC d_Mo_isLeft_12 rfl 1 rfl ?_
  refine v_iload_n gC d_Mo_isLeft_13 rfl 2 rfl ?_
  refine v_iconst gC d_Mo_isLeft_14 ?_
  refine v_iconst gC d_Mo_isLeft_15 ?_
  refine v_callV (rest := []) gC (k_Mo_end l D K d0 x1 x2 0 1 s0 _ h) wV_Mo_141 rfl ⟨by omega, by omega, Nat.zero_le _, Nat.zero_le _⟩ 0 rfl rfl [0, 1, 2, 3, 4, 5, 6, 7, 8, 9, 10, 11] [] rfl (by decide) rfl (by decide) (by decide) rfl (Nat.le_of_ble_eq_true rfl) d_Mo_isLeft_16 (fun v w1 hp => ?_)
  obtain ⟨r3, rfl, rfl, h⟩ := hp
  refine v_after (ws' := (w_Mo K d0 s0)) (st' := [.int (zI r3)]) [0, 1, 2, 3, 4, 5, 6, 7, 8, 9, 10, 11] (by decide) rfl rfl ?_
  obtain ⟨hg4, h⟩ := h
  refine v_i2l gC d_Mo_isLeft_19 hg4 ?_
  refine v_lstore (lv' := [(0, .ref (d0 0)), (1, .int (zI x1)), (2, .int (zI x2)), (3, .int (zI x3)), (4, .int (zI x4)), (5, .long (lI r1)), (7, .long (lI r3))]) gC d_Mo_isLeft_20 (by decide) [1, 2, 3, 4, 5, 6, 0] rfl ?_
  refine v_aload_n gC d_Mo_isLeft_22 rfl 0 rfl ?_
  refine v_iload_n gC d_Mo_isLeft_23 rfl 1 rfl ?_
  refine v_iload_n gC d_Mo_isLeft_24 rfl 2 rfl ?_
  refine v_iconst gC d_Mo_isLeft_25 ?_
  refine v_iconst gC d_Mo_isLeft_26 ?_
  refine v_callV (rest := []) gC (k_Mo_end l D K d0 x1 x2 0 2 s0 _ h) wV_Mo_141 rfl ⟨by omega, by omega, Nat.zero_le _, Nat.zero_le _⟩ 0 rfl rfl [0, 1, 2, 3, 4, 5, 6, 7, 8, 9, 10, 11] [] rfl (by decide) rfl (by decide) (by decide) rfl (Nat.le_of_ble_eq_true rfl) d_Mo_isLeft_27 (fun v w1 hp => ?_)
  obtain ⟨r5, rfl, rfl, h⟩ := hp
  refine v_after (ws' := (w_Mo K d0 s0)) (st' := [.int (zI r5)]) [0, 1, 2, 3, 4, 5, 6, 7, 8, 9, 10, 11] (by decide) rfl rfl ?_
  obtain ⟨hg6, h⟩ := h
  refine v_i2l gC d_Mo_isLeft_30 hg6 ?_
  refine v_lstore (lv' := [(0, .ref (d0 0)), (1, .int (zI x1)), (2, .int (zI x2)), (3, .int (zI x3)), (4, .int (zI x4)), (5, .long (lI r1)), (7, .long (lI r3)), (9, .long (lI r5))]) gC d_Mo_isLeft_31 (by decide) [1, 2, 3, 4, 5, 6, 7, 0] rfl ?_
  refine v_aload_n gC d_Mo_isLeft_33 rfl 0 rfl ?_
  refine v_iload_n gC d_Mo_isLeft_34 rfl 1 rfl ?_
  refine v_iload_n gC d_Mo_isLeft_35 rfl 2 rfl ?_
  refine v_iconst gC d_Mo_isLeft_36 ?_
  refine v_iconst gC d_Mo_isLeft_37 ?_
  refine v_callV (rest := []) gC (k_Mo_end l D K d0 x1 x2 1 0 s0 _ h) wV_Mo_141 rfl ⟨by omega, by omega, Nat.zero_le _, Nat.zero_le _⟩ 0 rfl rfl [0, 1, 2, 3, 4, 5, 6, 7, 8, 9, 10, 11] [] rfl (by decide) rfl (by decide) (by decide) rfl (Nat.le_of_ble_eq_true rfl) d_Mo_isLeft_38 (fun v w1 hp => ?_)
  obtain ⟨r7, rfl, rfl, h⟩ := hp
  refine v_after (ws' := (w_Mo K d0 s0)) (st' := [.int (zI r7)]) [0, 1, 2, 3, 4, 5, 6, 7, 8, 9, 10, 11] (by decide) rfl rfl ?_
  obtain ⟨hg8, h⟩ := h
  refine v_i2l gC d_Mo_isLeft_41 hg8 ?_
  refine v_lstore (lv' := [(0, .ref (d0 0)), (1, .int (zI x1)), (2, .int (zI x2)), (3, .int (zI x3)), (4, .int (zI x4)), (5, .long (lI r1)), (7, .long (lI r3)), (9, .long (lI r5)), (11, .long (lI r7))]) gC d_Mo_isLeft_42 (by decide) [1, 2, 3, 4, 5, 6, 7, 8, 0] rfl ?_
  refine v_aload_n gC d_Mo_isLeft_44 rfl 0 rfl ?_
  refine v_iload_n gC d_Mo_isLeft_45 rfl 1 rfl ?_
  refine v_iload_n gC d_Mo_isLeft_46 rfl 2 rfl ?_
  refine v_iconst gC d_Mo_isLeft_47 ?_
  refine v_iconst gC d_Mo_isLeft_48 ?_
  refine v_callV (rest := []) gC (k_Mo_end l D K d0 x1 x2 1 1 s0 _ h) wV_Mo_141 rfl ⟨by omega, by omega, Nat.zero_le _, Nat.zero_le _⟩ 0 rfl rfl [0, 1, 2, 3, 4, 5, 6, 7, 8, 9, 10, 11] [] rfl (by decide) rfl (by decide) (by decide) rfl (Nat.le_of_ble_eq_true rfl) d_Mo_isLeft_49 (fun v w1 hp => ?_)
  obtain ⟨r9, rfl, rfl, h⟩ := hp
  refine v_after (ws' := (w_Mo K d0 s0)) (st' := [.int (zI r9)]) [0, 1, 2, 3, 4, 5, 6, 7, 8, 9, 10, 11] (by decide) rfl rfl ?_
  obtain ⟨hg10, h⟩ := h
  refine v_i2l gC d_Mo_isLeft_52 hg10 ?_
  refine v_lstore (lv' := [(0, .ref (d0 0)), (1, .int (zI x1)), (2, .int (zI x2)), (3, .int (zI x3)), (4, .int (zI x4)), (5, .long (lI r1)), (7, .long (lI r3)), (9, .long (lI r5)), (11, .long (lI r7)), (13, .long (lI r9))]) gC d_Mo_isLeft_53 (by decide) [1, 2, 3, 4, 5, 6, 7, 8, 9, 0] rfl ?_
  refine v_aload_n gC d_Mo_isLeft_55 rfl 0 rfl ?_
  refine v_iload_n gC d_Mo_isLeft_56 rfl 1 rfl ?_
  refine v_iload_n gC d_Mo_isLeft_57 rfl 2 rfl ?_
  refine v_iconst gC d_Mo_isLeft_58 ?_
  refine v_iconst gC d_Mo_isLeft_59 ?_
  refine v_callV (rest := []) gC (k_Mo_end l D K d0 x1 x2 1 2 s0 _ h) wV_Mo_141 rfl ⟨by omega, by omega, Nat.zero_le _, Nat.zero_le _⟩ 0 rfl rfl [0, 1, 2, 3, 4, 5, 6, 7, 8, 9, 10, 11] [] rfl (by decide) rfl (by decide) (by decide) rfl (Nat.le_of_ble_eq_true rfl) d_Mo_isLeft_60 (fun v w1 hp => ?_)
  obtain ⟨r11, rfl, rfl, h⟩ := hp
  refine v_after (ws' := (w_Mo K d0 s0)) (st' := [.int (zI r11)]) [0, 1, 2, 3, 4, 5, 6, 7, 8, 9, 10, 11] (by decide) rfl rfl ?_
  obtain ⟨hg12, h⟩ := h
  refine v_i2l gC d_Mo_isLeft_63 hg12 ?_
  refine v_lstore (lv' := [(0, .ref (d0 0)), (1, .int (zI x1)), (2, .int (zI x2)), (3, .int (zI x3)), (4, .int (zI x4)), (5, .long (lI r1)), (7, .long (lI r3)), (9, .long (lI r5)), (11, .long (lI r7)), (13, .long (lI r9)), (15, .long (lI r11))]) gC d_Mo_isLeft_64 (by decide) [1, 2, 3, 4, 5, 6, 7, 8, 9, 10, 0] rfl ?_
  refine v_ldc2 gC kc_Mo_145 d_Mo_isLeft_66 ?_
  refine v_iload gC d_Mo_isLeft_69 4 rfl ?_
  obtain ⟨hg13, h⟩ := h
  refine v_i2l gC d_Mo_isLeft_71 hg13 ?_
  refine v_lmul gC d_Mo_isLeft_72 (20 * x4) rfl ?_
  refine v_ldc2 gC kc_Mo_147 d_Mo_isLeft_73 ?_
  refine v_ladd gC d_Mo_isLeft_76 ((20 * x4) + 9) rfl ?_
  refine v_lstore (lv' := [(0, .ref (d0 0)), (1, .int (zI x1)), (2, .int (zI x2)), (3, .int (zI x3)), (4, .int (zI x4)), (5, .long (lI r1)), (7, .long (lI r3)), (9, .long (lI r5)), (11, .long (lI r7)), (13, .long (lI r9)), (15, .long (lI r11)), (17, .long (lI ((20 * x4) + 9)))]) gC d_Mo_isLeft_77 (by decide) [1, 2, 3, 4, 5, 6, 7, 8, 9, 10, 11, 0] rfl ?_
  refine v_ldc2 gC kc_Mo_145 d_Mo_isLeft_79 ?_
  refine v_iload_n gC d_Mo_isLeft_82 rfl 3 rfl ?_
  obtain ⟨hg14, h⟩ := h
  refine v_i2l gC d_Mo_isLeft_83 hg14 ?_
  refine v_lmul gC d_Mo_isLeft_84 (20 * x3) rfl ?_
  refine v_ldc2 gC kc_Mo_147 d_Mo_isLeft_85 ?_
  refine v_ladd gC d_Mo_isLeft_88 ((20 * x3) + 9) rfl ?_
  refine v_lstore (lv' := [(0, .ref (d0 0)), (1, .int (zI x1)), (2, .int (zI x2)), (3, .int (zI x3)), (4, .int (zI x4)), (5, .long (lI r1)), (7, .long (lI r3)), (9, .long (lI r5)), (11, .long (lI r7)), (13, .long (lI r9)), (15, .long (lI r11)), (17, .long (lI ((20 * x4) + 9))), (19, .long (lI ((20 * x3) + 9)))]) gC d_Mo_isLeft_89 (by decide) [1, 2, 3, 4, 5, 6, 7, 8, 9, 10, 11, 12, 0] rfl ?_
  refine v_ldc2 gC kc_Mo_149 d_Mo_isLeft_91 ?_
  refine v_lload gC d_Mo_isLeft_94 7 rfl ?_
  refine v_lmul gC d_Mo_isLeft_96 (2 * r5) rfl ?_
  refine v_lload gC d_Mo_isLeft_97 11 rfl ?_
  refine v_lload gC d_Mo_isLeft_99 5 rfl ?_
  refine v_lmul gC d_Mo_isLeft_101 (((20 * x4) + 9) * r1) rfl ?_
  obtain ⟨hg15, hg16, h⟩ := h
  refine v_lcmp gC d_Mo_isLeft_102 hg15 hg16 ?_
  refine v_if_gt (tgt := 110) gC d_Mo_isLeft_103 (by decide) (cmpZ_rg _ _) (fun hc => ?_) (fun hc => ?_)
  · replace h := h.1 hc
    refine v_iconst gC d_Mo_isLeft_110 ?_
    refine v_istore (lv' := [(0, .ref (d0 0)), (1, .int (zI x1)), (2, .int (zI x2)), (3, .int (zI x3)), (4, .int (zI x4)), (5, .long (lI r1)), (7, .long (lI r3)), (9, .long (lI r5)), (11, .long (lI r7)), (13, .long (lI r9)), (15, .long (lI r11)), (17, .long (lI ((20 * x4) + 9))), (19, .long (lI ((20 * x3) + 9))), (21, .int (zI 0))]) gC d_Mo_isLeft_111 (by decide) [1, 2, 3, 4, 5, 6, 7, 8, 9, 10, 11, 12, 13, 0] rfl ?_
    refine v_ldc2 gC kc_Mo_149 d_Mo_isLeft_113 ?_
    refine v_lload gC d_Mo_isLeft_116 10 rfl ?_
    refine v_lmul gC d_Mo_isLeft_118 (2 * r11) rfl ?_
    refine v_lload gC d_Mo_isLeft_119 11 rfl ?_
    refine v_lload gC d_Mo_isLeft_121 8 rfl ?_
    refine v_lmul gC d_Mo_isLeft_123 (((20 * x4) + 9) * r7) rfl ?_
    obtain ⟨hg17, hg18, h⟩ := h
    refine v_lcmp gC d_Mo_isLeft_124 hg17 hg18 ?_
    refine v_if_gt (tgt := 132) gC d_Mo_isLeft_125 (by decide) (cmpZ_rg _ _) (fun hc => ?_) (fun hc => ?_)
    · replace h := h.1 hc
      refine v_iconst gC d_Mo_isLeft_132 ?_
      refine v_loc (lv' := [(5, .long (lI r1)), (7, .long (lI r3)), (9, .long (lI r5)), (11, .long (lI r7)), (13, .long (lI r9)), (15, .long (lI r11)), (17, .long (lI ((20 * x4) + 9))), (19, .long (lI ((20 * x3) + 9))), (21, .int (zI 0))]) [5, 6, 7, 8, 9, 10, 11, 12, 13] rfl ?_
      exact h
    · replace h := h.2 hc
      refine v_iconst gC d_Mo_isLeft_128 ?_
      refine v_goto (tgt := 133) gC d_Mo_isLeft_129 (by decide) ?_
      refine v_loc (lv' := [(5, .long (lI r1)), (7, .long (lI r3)), (9, .long (lI r5)), (11, .long (lI r7)), (13, .long (lI r9)), (15, .long (lI r11)), (17, .long (lI ((20 * x4) + 9))), (19, .long (lI ((20 * x3) + 9))), (21, .int (zI 0))]) [5, 6, 7, 8, 9, 10, 11, 12, 13] rfl ?_
      exact h
  · replace h := h.2 hc
    refine v_iconst gC d_Mo_isLeft_106 ?_
    refine v_goto (tgt := 111) gC d_Mo_isLeft_107 (by decide) ?_
    refine v_istore (lv' := [(0, .ref (d0 0)), (1, .int (zI x1)), (2, .int (zI x2)), (3, .int (zI x3)), (4, .int (zI x4)), (5, .long (lI r1)), (7, .long (lI r3)), (9, .long (lI r5)), (11, .long (lI r7)), (13, .long (lI r9)), (15, .long (lI r11)), (17, .long (lI ((20 * x4) + 9))), (19, .long (lI ((20 * x3) + 9))), (21, .int (zI 1))]) gC d_Mo_isLeft_111 (by decide) [1, 2, 3, 4, 5, 6, 7, 8, 9, 10, 11, 12, 13, 0] rfl ?_
    refine v_ldc2 gC kc_Mo_149 d_Mo_isLeft_113 ?_
    refine v_lload gC d_Mo_isLeft_116 10 rfl ?_
    refine v_lmul gC d_Mo_isLeft_118 (2 * r11) rfl ?_
    refine v_lload gC d_Mo_isLeft_119 11 rfl ?_
    refine v_lload gC d_Mo_isLeft_121 8 rfl ?_
    refine v_lmul gC d_Mo_isLeft_123 (((20 * x4) + 9) * r7) rfl ?_
    obtain ⟨hg19, hg20, h⟩ := h
    refine v_lcmp gC d_Mo_isLeft_124 hg19 hg20 ?_
    refine v_if_gt (tgt := 132) gC d_Mo_isLeft_125 (by decide) (cmpZ_rg _ _) (fun hc => ?_) (fun hc => ?_)
    · replace h := h.1 hc
      refine v_iconst gC d_Mo_isLeft_132 ?_
      refine v_loc (lv' := [(5, .long (lI r1)), (7, .long (lI r3)), (9, .long (lI r5)), (11, .long (lI r7)), (13, .long (lI r9)), (15, .long (lI r11)), (17, .long (lI ((20 * x4) + 9))), (19, .long (lI ((20 * x3) + 9))), (21, .int (zI 1))]) [5, 6, 7, 8, 9, 10, 11, 12, 13] rfl ?_
      exact h
    · replace h := h.2 hc
      refine v_iconst gC d_Mo_isLeft_128 ?_
      refine v_goto (tgt := 133) gC d_Mo_isLeft_129 (by decide) ?_
      refine v_loc (lv' := [(5, .long (lI r1)), (7, .long (lI r3)), (9, .long (lI r5)), (11, .long (lI r7)), (13, .long (lI r9)), (15, .long (lI r11)), (17, .long (lI ((20 * x4) + 9))), (19, .long (lI ((20 * x3) + 9))), (21, .int (zI 1))]) [5, 6, 7, 8, 9, 10, 11, 12, 13] rfl ?_
      exact h

set_option maxHeartbeats 4000000 in
set_option maxRecDepth 100000 in
theorem k_Mo_isInside (l : Launch) (D : va_G) (K : Nat → ClassId) (d0 : Nat → Nat) (x1 : Int) (x2 : Int) (x3 : Int) (s0 : s_Mo) (Q : Int → Prop) (h : wp_Mo_isInside x1 x2 x3 s0 Q) : Kt l D K y_Mo_isInside b_Mo_isInside 6 (some .boolean) 5 141 [.ref (d0 0), .int (zI x1), .int (zI x2), .int (zI x3)] (w_Mo K d0 s0) (fun v w1 => ∃ (r : Int), v = some (.int (zI r)) ∧ w1 = (w_Mo K d0 s0) ∧ Q r) := by
  refine Kt.ofZ (by decide +kernel) (Nat.le_of_ble_eq_true rfl) (lv0 := [(0, .ref (d0 0)), (1, .int (zI x1)), (2, .int (zI x2)), (3, .int (zI x3))]) rfl ?_
  intro gp ge gR gs gm ga gb gh gc gA gQ gRf gRl gC gret
  unfold wp_Mo_isInside at h
  replace h := h
    (fun (v4 : Int) (v5 : Int) => V gp l ge gR gs gm ga gb gh gc D gA 6 0 0 gQ (w_Mo K d0 s0) 6 [(0, .ref (d0 0)), (1, .int (zI x1)), (2, .int (zI x2)), (3, .int (zI x3)), (4, .int (zI v4)), (5, .int (zI v5))] [])
    (by
      intro v4 v5 h
      refine v_iload gC d_Mo_isInside_6 5 rfl ?_
      refine v_aload_n gC d_Mo_isInside_8 rfl 0 rfl ?_
      refine v_get (v := .int (zI (gMo_cuts s0))) gC in_Mo 0 rfl rfl 12 (by decide) fl_Mo_113 rfl d_Mo_isInside_9 ?_
      obtain ⟨hg1, hg2, h⟩ := h
      refine v_icmp_ge (tgt := 55) gC d_Mo_isInside_12 (by decide) hg1 hg2 (fun hc => ?_) (fun hc => ?_)
      · replace h := h.1 hc
        refine v_iload gC d_Mo_isInside_55 4 rfl ?_
        obtain ⟨hg3, h⟩ := h
        exact gret _ _ _ _ d_Mo_isInside_57 (nz_of hg3) ⟨v4, rfl, rfl, h⟩
      · replace h := h.2 hc
        refine v_aload_n gC d_Mo_isInside_15 rfl 0 rfl ?_
        refine v_iload_n gC d_Mo_isInside_16 rfl 1 rfl ?_
        refine v_iload gC d_Mo_isInside_17 5 rfl ?_
        refine v_callV (rest := []) gC (k_Mo_isCut l D K d0 x1 v5 s0 _ h) wV_Mo_138 rfl ⟨by omega, by omega, Nat.zero_le _, Nat.zero_le _⟩ 0 rfl rfl [0, 1, 2, 3, 4, 5, 6, 7, 8, 9, 10, 11] [] rfl (by decide) rfl (by decide) (by decide) rfl (Nat.le_of_ble_eq_true rfl) d_Mo_isInside_19 (fun v w1 hp => ?_)
        obtain ⟨r4, rfl, rfl, h⟩ := hp
        refine v_after (ws' := (w_Mo K d0 s0)) (st' := [.int (zI r4)]) [0, 1, 2, 3, 4, 5, 6, 7, 8, 9, 10, 11] (by decide) rfl rfl ?_
        obtain ⟨hg5, h⟩ := h
        refine v_if_eq (tgt := 49) gC d_Mo_isInside_22 (by decide) hg5 (fun hc => ?_) (fun hc => ?_)
        · replace h := h.1 hc
          refine v_iinc (lv' := [(0, .ref (d0 0)), (1, .int (zI x1)), (2, .int (zI x2)), (3, .int (zI x3)), (4, .int (zI v4)), (5, .int (zI (v5 + 1)))]) gC d_Mo_isInside_49 5 rfl (by decide) (v5 + 1) rfl [1, 2, 3, 4, 5, 0] rfl ?_
          refine v_goto (tgt := 6) gC d_Mo_isInside_52 (by decide) ?_
          refine v_loc (lv' := [(0, .ref (d0 0)), (1, .int (zI x1)), (2, .int (zI x2)), (3, .int (zI x3)), (4, .int (zI v4)), (5, .int (zI (v5 + 1)))]) [0, 1, 2, 3, 4, 5] rfl ?_
          exact h
        · replace h := h.2 hc
          refine v_aload_n gC d_Mo_isInside_25 rfl 0 rfl ?_
          refine v_iload_n gC d_Mo_isInside_26 rfl 1 rfl ?_
          refine v_iload gC d_Mo_isInside_27 5 rfl ?_
          refine v_iload_n gC d_Mo_isInside_29 rfl 2 rfl ?_
          refine v_iload_n gC d_Mo_isInside_30 rfl 3 rfl ?_
          refine v_callV (rest := []) gC (k_Mo_isLeft l D K d0 x1 v5 x2 x3 s0 _ h) wV_Mo_151 rfl ⟨by omega, by omega, Nat.zero_le _, Nat.zero_le _⟩ 0 rfl rfl [0, 1, 2, 3, 4, 5, 6, 7, 8, 9, 10, 11] [] rfl (by decide) rfl (by decide) (by decide) rfl (Nat.le_of_ble_eq_true rfl) d_Mo_isInside_31 (fun v w1 hp => ?_)
          obtain ⟨r6, rfl, rfl, h⟩ := hp
          refine v_after (ws' := (w_Mo K d0 s0)) (st' := [.int (zI r6)]) [0, 1, 2, 3, 4, 5, 6, 7, 8, 9, 10, 11] (by decide) rfl rfl ?_
          obtain ⟨hg7, h⟩ := h
          refine v_if_eq (tgt := 49) gC d_Mo_isInside_34 (by decide) hg7 (fun hc => ?_) (fun hc => ?_)
          · replace h := h.1 hc
            refine v_iinc (lv' := [(0, .ref (d0 0)), (1, .int (zI x1)), (2, .int (zI x2)), (3, .int (zI x3)), (4, .int (zI v4)), (5, .int (zI (v5 + 1)))]) gC d_Mo_isInside_49 5 rfl (by decide) (v5 + 1) rfl [1, 2, 3, 4, 5, 0] rfl ?_
            refine v_goto (tgt := 6) gC d_Mo_isInside_52 (by decide) ?_
            refine v_loc (lv' := [(0, .ref (d0 0)), (1, .int (zI x1)), (2, .int (zI x2)), (3, .int (zI x3)), (4, .int (zI v4)), (5, .int (zI (v5 + 1)))]) [0, 1, 2, 3, 4, 5] rfl ?_
            exact h
          · replace h := h.2 hc
            refine v_iload gC d_Mo_isInside_37 4 rfl ?_
            obtain ⟨hg8, h⟩ := h
            refine v_if_ne (tgt := 46) gC d_Mo_isInside_39 (by decide) hg8 (fun hc => ?_) (fun hc => ?_)
            · replace h := h.1 hc
              refine v_iconst gC d_Mo_isInside_46 ?_
              refine v_istore (lv' := [(0, .ref (d0 0)), (1, .int (zI x1)), (2, .int (zI x2)), (3, .int (zI x3)), (4, .int (zI 0)), (5, .int (zI v5))]) gC d_Mo_isInside_47 (by decide) [1, 2, 3, 4, 0, 5] rfl ?_
              refine v_iinc (lv' := [(0, .ref (d0 0)), (1, .int (zI x1)), (2, .int (zI x2)), (3, .int (zI x3)), (4, .int (zI 0)), (5, .int (zI (v5 + 1)))]) gC d_Mo_isInside_49 5 rfl (by decide) (v5 + 1) rfl [1, 2, 3, 4, 5, 0] rfl ?_
              refine v_goto (tgt := 6) gC d_Mo_isInside_52 (by decide) ?_
              refine v_loc (lv' := [(0, .ref (d0 0)), (1, .int (zI x1)), (2, .int (zI x2)), (3, .int (zI x3)), (4, .int (zI 0)), (5, .int (zI (v5 + 1)))]) [0, 1, 2, 3, 4, 5] rfl ?_
              exact h
            · replace h := h.2 hc
              refine v_iconst gC d_Mo_isInside_42 ?_
              refine v_goto (tgt := 47) gC d_Mo_isInside_43 (by decide) ?_
              refine v_istore (lv' := [(0, .ref (d0 0)), (1, .int (zI x1)), (2, .int (zI x2)), (3, .int (zI x3)), (4, .int (zI 1)), (5, .int (zI v5))]) gC d_Mo_isInside_47 (by decide) [1, 2, 3, 4, 0, 5] rfl ?_
              refine v_iinc (lv' := [(0, .ref (d0 0)), (1, .int (zI x1)), (2, .int (zI x2)), (3, .int (zI x3)), (4, .int (zI 1)), (5, .int (zI (v5 + 1)))]) gC d_Mo_isInside_49 5 rfl (by decide) (v5 + 1) rfl [1, 2, 3, 4, 5, 0] rfl ?_
              refine v_goto (tgt := 6) gC d_Mo_isInside_52 (by decide) ?_
              refine v_loc (lv' := [(0, .ref (d0 0)), (1, .int (zI x1)), (2, .int (zI x2)), (3, .int (zI x3)), (4, .int (zI 1)), (5, .int (zI (v5 + 1)))]) [0, 1, 2, 3, 4, 5] rfl ?_
              exact h)
  refine v_iconst gC d_Mo_isInside_0 ?_
  refine v_istore (lv' := [(0, .ref (d0 0)), (1, .int (zI x1)), (2, .int (zI x2)), (3, .int (zI x3)), (4, .int (zI 0))]) gC d_Mo_isInside_1 (by decide) [1, 2, 3, 4, 0] rfl ?_
  refine v_iconst gC d_Mo_isInside_3 ?_
  refine v_istore (lv' := [(0, .ref (d0 0)), (1, .int (zI x1)), (2, .int (zI x2)), (3, .int (zI x3)), (4, .int (zI 0)), (5, .int (zI 0))]) gC d_Mo_isInside_4 (by decide) [1, 2, 3, 4, 5, 0] rfl ?_
  refine v_loc (lv' := [(0, .ref (d0 0)), (1, .int (zI x1)), (2, .int (zI x2)), (3, .int (zI x3)), (4, .int (zI 0)), (5, .int (zI 0))]) [0, 1, 2, 3, 4, 5] rfl ?_
  exact h

set_option maxHeartbeats 4000000 in
set_option maxRecDepth 100000 in
theorem k_Mo_clear (l : Launch) (D : va_G) (K : Nat → ClassId) (d0 : Nat → Nat) (s0 : s_Mo) (Q : s_Mo → Prop) (h : wp_Mo_clear s0 Q) : Kt l D K y_Mo_clear b_Mo_clear 2 none 0 0 [.ref (d0 0)] (w_Mo K d0 s0) (fun v w1 => ∃ (u0 : s_Mo), v = none ∧ w1 = (w_Mo K d0 u0) ∧ Q u0) := by
  refine Kt.ofV (by decide +kernel) (Nat.le_of_ble_eq_true rfl) (lv0 := [(0, .ref (d0 0))]) rfl ?_
  intro gp ge gR gs gm ga gb gh gc gA gQ gRf gRl gC gret
  unfold wp_Mo_clear at h
  replace h := h
    (fun (v1 : Int) (s0 : s_Mo) => V gp l ge gR gs gm ga gb gh gc D gA 2 0 0 gQ (w_Mo K d0 s0) 12 [(0, .ref (d0 0)), (1, .int (zI v1))] [])
    (by
      intro v1 s0 h
      refine v_iload_n gC d_Mo_clear_12 rfl 1 rfl ?_
      refine v_sipush gC d_Mo_clear_13 (by decide) ?_
      obtain ⟨hg1, h⟩ := h
      refine v_icmp_ge (tgt := 32) gC d_Mo_clear_16 (by decide) hg1 (by decide) (fun hc => ?_) (fun hc => ?_)
      · replace h := h.1 hc
        exact gret _ _ _ d_Mo_clear_32 ⟨s0, rfl, rfl, h⟩
      · replace h := h.2 hc
        refine v_aload_n gC d_Mo_clear_19 rfl 0 rfl ?_
        refine v_get (v := .ref (d0 10)) gC in_Mo 0 rfl rfl 26 (by decide) fl_Mo_38 rfl d_Mo_clear_20 ?_
        refine v_iload_n gC d_Mo_clear_23 rfl 1 rfl ?_
        refine v_iconst gC d_Mo_clear_24 ?_
        obtain ⟨hg2, h⟩ := h
        refine v_iast (g := (gMo_beads s0)) (ws' := (w_Mo K d0 (mkMo (gMo_thrown s0) (gMo_corners s0) (gMo_px s0) (gMo_py s0) (gMo_pz s0) (gMo_triangles s0) (gMo_named s0) (gMo_joined s0) (gMo_dropped s0) (gMo_closed s0) (gMo_layers s0) (gMo_thickness s0) (gMo_cuts s0) (gMo_cx s0) (gMo_cy s0) (gMo_cz s0) (gMo_solids s0) (gMo_shell s0) (gMo_skin s0) (gMo_period s0) (gMo_reach s0) (gMo_gap s0) (gMo_bytes s0) (gMo_played s0) (gMo_at s0) (gMo_program s0) (iset (gMo_beads s0) v1 0) (gMo_ring s0)))) gC 10 0 rfl rfl hg2 rfl (by decide) rfl d_Mo_clear_25 ?_
        refine v_iinc (lv' := [(0, .ref (d0 0)), (1, .int (zI (v1 + 1)))]) gC d_Mo_clear_26 1 rfl (by decide) (v1 + 1) rfl [1, 0] rfl ?_
        refine v_goto (tgt := 12) gC d_Mo_clear_29 (by decide) ?_
        refine v_loc (lv' := [(0, .ref (d0 0)), (1, .int (zI (v1 + 1)))]) [0, 1] rfl ?_
        exact h)
  refine v_aload_n gC d_Mo_clear_0 rfl 0 rfl ?_
  refine v_iconst gC d_Mo_clear_1 ?_
  refine v_puti (ws' := (w_Mo K d0 (mkMo (gMo_thrown s0) (gMo_corners s0) (gMo_px s0) (gMo_py s0) (gMo_pz s0) (gMo_triangles s0) (gMo_named s0) (gMo_joined s0) (gMo_dropped s0) (gMo_closed s0) (gMo_layers s0) (gMo_thickness s0) (gMo_cuts s0) (gMo_cx s0) (gMo_cy s0) (gMo_cz s0) (gMo_solids s0) (gMo_shell s0) (gMo_skin s0) (gMo_period s0) (gMo_reach s0) (gMo_gap s0) (gMo_bytes s0) 0 (gMo_at s0) (gMo_program s0) (gMo_beads s0) (gMo_ring s0)))) gC in_Mo t_Mo ok_Mo n_Mo 0 rfl rfl 23 (by decide) fl_Mo_182 rfl (by decide +kernel) (Nat.le_of_ble_eq_true rfl) rfl d_Mo_clear_2 ?_
  refine v_aload_n gC d_Mo_clear_5 rfl 0 rfl ?_
  refine v_iconst gC d_Mo_clear_6 ?_
  refine v_puti (ws' := (w_Mo K d0 (mkMo (gMo_thrown s0) (gMo_corners s0) (gMo_px s0) (gMo_py s0) (gMo_pz s0) (gMo_triangles s0) (gMo_named s0) (gMo_joined s0) (gMo_dropped s0) (gMo_closed s0) (gMo_layers s0) (gMo_thickness s0) (gMo_cuts s0) (gMo_cx s0) (gMo_cy s0) (gMo_cz s0) (gMo_solids s0) (gMo_shell s0) (gMo_skin s0) (gMo_period s0) (gMo_reach s0) (gMo_gap s0) (gMo_bytes s0) 0 (-1) (gMo_program s0) (gMo_beads s0) (gMo_ring s0)))) gC in_Mo t_Mo ok_Mo n_Mo 0 rfl rfl 24 (by decide) fl_Mo_57 rfl (by decide +kernel) (Nat.le_of_ble_eq_true rfl) rfl d_Mo_clear_7 ?_
  refine v_iconst gC d_Mo_clear_10 ?_
  refine v_istore_n (lv' := [(0, .ref (d0 0)), (1, .int (zI 0))]) gC d_Mo_clear_11 rfl (by decide) [1, 0] rfl ?_
  refine v_loc (lv' := [(0, .ref (d0 0)), (1, .int (zI 0))]) [0, 1] rfl ?_
  exact h
