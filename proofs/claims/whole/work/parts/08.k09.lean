set_option maxHeartbeats 4000000 in
set_option maxRecDepth 100000 in
theorem k_Mo_open (l : Launch) (D : va_G) (K : Nat → ClassId) (d0 : Nat → Nat) (x1 : Int) (x2 : Int) (s0 : s_Mo) (Q : Int → Prop) (h : wp_Mo_open x1 x2 s0 Q) : Kt l D K y_Mo_open b_Mo_open 7 (some .int) 0 0 [.ref (d0 0), .int (zI x1), .int (zI x2)] (w_Mo K d0 s0) (fun v w1 => ∃ (r : Int), v = some (.int (zI r)) ∧ w1 = (w_Mo K d0 s0) ∧ Q r) := by
  refine Kt.ofI (by decide +kernel) (Nat.le_of_ble_eq_true rfl) (lv0 := [(0, .ref (d0 0)), (1, .int (zI x1)), (2, .int (zI x2))]) rfl ?_
  intro gp ge gR gs gm ga gb gh gc gA gQ gRf gRl gC gret
  unfold wp_Mo_open at h
  replace h := h
    (fun (v3 : Int) (v4 : Int) => V gp l ge gR gs gm ga gb gh gc D gA 7 0 0 gQ (w_Mo K d0 s0) 5 [(0, .ref (d0 0)), (1, .int (zI x1)), (2, .int (zI x2)), (3, .int (zI v3)), (4, .int (zI v4))] [])
    (fun (v3 : Int) (v4 : Int) (v5 : Int) (t0 : Int) => V gp l ge gR gs gm ga gb gh gc D gA 7 0 0 gQ (w_Mo K d0 s0) 48 [(0, .ref (d0 0)), (1, .int (zI x1)), (2, .int (zI x2)), (3, .int (zI v3)), (4, .int (zI v4)), (5, .int (zI v5))] [.int (zI t0), .ref (d0 4)])
    (fun (v4 : Int) (v5 : Int) (v6 : Int) (t0 : Int) => V gp l ge gR gs gm ga gb gh gc D gA 7 0 0 gQ (w_Mo K d0 s0) 68 [(0, .ref (d0 0)), (1, .int (zI x1)), (2, .int (zI x2)), (4, .int (zI v4)), (5, .int (zI v5)), (6, .int (zI v6))] [.int (zI t0)])
    (by
      intro v3 v4 h
      refine v_iload gC d_Mo_open_5 4 rfl ?_
      refine v_iconst gC d_Mo_open_7 ?_
      refine v_aload_n gC d_Mo_open_8 rfl 0 rfl ?_
      refine v_get (v := .int (zI (gMo_triangles s0))) gC in_Mo 0 rfl rfl 5 (by decide) fl_Mo_70 rfl d_Mo_open_9 ?_
      refine v_imul gC d_Mo_open_12 (3 * (gMo_triangles s0)) rfl ?_
      obtain ⟨hg1, hg2, h⟩ := h
      refine v_icmp_ge (tgt := 93) gC d_Mo_open_13 (by decide) hg1 hg2 (fun hc => ?_) (fun hc => ?_)
      · replace h := h.1 hc
        refine v_iload_n gC d_Mo_open_93 rfl 3 rfl ?_
        obtain ⟨hg3, h⟩ := h
        refine v_if_le (tgt := 101) gC d_Mo_open_94 (by decide) hg3 (fun hc => ?_) (fun hc => ?_)
        · replace h := h.1 hc
          refine v_iconst gC d_Mo_open_101 ?_
          exact gret _ _ _ _ d_Mo_open_102 ⟨0, rfl, rfl, h⟩
        · replace h := h.2 hc
          refine v_iload_n gC d_Mo_open_97 rfl 3 rfl ?_
          refine v_goto (tgt := 102) gC d_Mo_open_98 (by decide) ?_
          exact gret _ _ _ _ d_Mo_open_102 ⟨v3, rfl, rfl, h⟩
      · replace h := h.2 hc
        refine v_aload_n gC d_Mo_open_16 rfl 0 rfl ?_
        refine v_get (v := .ref (d0 4)) gC in_Mo 0 rfl rfl 6 (by decide) fl_Mo_19 rfl d_Mo_open_17 ?_
        refine v_iload gC d_Mo_open_20 4 rfl ?_
        obtain ⟨hg4, h⟩ := h
        refine v_iald (g := (gMo_named s0)) gC 4 0 rfl rfl hg4 rfl (by decide) d_Mo_open_22 ?_
        refine v_istore (lv' := [(0, .ref (d0 0)), (1, .int (zI x1)), (2, .int (zI x2)), (3, .int (zI v3)), (4, .int (zI v4)), (5, .int (zI ((gMo_named s0) v4)))]) gC d_Mo_open_23 (by decide) [1, 2, 3, 4, 5, 0] rfl ?_
        refine v_aload_n gC d_Mo_open_25 rfl 0 rfl ?_
        refine v_get (v := .ref (d0 4)) gC in_Mo 0 rfl rfl 6 (by decide) fl_Mo_19 rfl d_Mo_open_26 ?_
        refine v_iload gC d_Mo_open_29 4 rfl ?_
        refine v_iconst gC d_Mo_open_31 ?_
        refine v_irem gC d_Mo_open_32 hg1 (by decide) (by decide) ?_
        refine v_iconst gC d_Mo_open_33 ?_
        obtain ⟨hg5, h⟩ := h
        refine v_icmp_ne (tgt := 44) gC d_Mo_open_34 (by decide) hg5 (by decide) (fun hc => ?_) (fun hc => ?_)
        · replace h := h.1 hc
          refine v_iload gC d_Mo_open_44 4 rfl ?_
          refine v_iconst gC d_Mo_open_46 ?_
          refine v_iadd gC d_Mo_open_47 (v4 + 1) rfl ?_
          refine v_loc (lv' := [(0, .ref (d0 0)), (1, .int (zI x1)), (2, .int (zI x2)), (3, .int (zI v3)), (4, .int (zI v4)), (5, .int (zI ((gMo_named s0) v4)))]) [0, 1, 2, 3, 4, 5] rfl ?_
          exact h
        · replace h := h.2 hc
          refine v_iload gC d_Mo_open_37 4 rfl ?_
          refine v_iconst gC d_Mo_open_39 ?_
          refine v_isub gC d_Mo_open_40 (v4 - 2) rfl ?_
          refine v_goto (tgt := 48) gC d_Mo_open_41 (by decide) ?_
          refine v_loc (lv' := [(0, .ref (d0 0)), (1, .int (zI x1)), (2, .int (zI x2)), (3, .int (zI v3)), (4, .int (zI v4)), (5, .int (zI ((gMo_named s0) v4)))]) [0, 1, 2, 3, 4, 5] rfl ?_
          exact h)
    (by
      intro v3 v4 v5 t0 h
      obtain ⟨hg6, h⟩ := h
      refine v_iald (g := (gMo_named s0)) gC 4 0 rfl rfl hg6 rfl (by decide) d_Mo_open_48 ?_
      refine v_istore (lv' := [(0, .ref (d0 0)), (1, .int (zI x1)), (2, .int (zI x2)), (3, .int (zI v3)), (4, .int (zI v4)), (5, .int (zI v5)), (6, .int (zI ((gMo_named s0) t0)))]) gC d_Mo_open_49 (by decide) [1, 2, 3, 4, 5, 6, 0] rfl ?_
      refine v_iload_n gC d_Mo_open_51 rfl 3 rfl ?_
      refine v_iload gC d_Mo_open_52 5 rfl ?_
      refine v_iload_n gC d_Mo_open_54 rfl 1 rfl ?_
      obtain ⟨hg7, hg8, h⟩ := h
      refine v_icmp_ne (tgt := 68) gC d_Mo_open_55 (by decide) hg7 hg8 (fun hc => ?_) (fun hc => ?_)
      · replace h := h.1 hc
        refine v_loc (lv' := [(0, .ref (d0 0)), (1, .int (zI x1)), (2, .int (zI x2)), (4, .int (zI v4)), (5, .int (zI v5)), (6, .int (zI ((gMo_named s0) t0)))]) [0, 1, 2, 4, 5, 6] rfl ?_
        exact h
      · replace h := h.2 hc
        refine v_iload gC d_Mo_open_58 6 rfl ?_
        refine v_iload_n gC d_Mo_open_60 rfl 2 rfl ?_
        obtain ⟨hg9, hg10, h⟩ := h
        refine v_icmp_ne (tgt := 68) gC d_Mo_open_61 (by decide) hg9 hg10 (fun hc => ?_) (fun hc => ?_)
        · replace h := h.1 hc
          refine v_loc (lv' := [(0, .ref (d0 0)), (1, .int (zI x1)), (2, .int (zI x2)), (4, .int (zI v4)), (5, .int (zI v5)), (6, .int (zI ((gMo_named s0) t0)))]) [0, 1, 2, 4, 5, 6] rfl ?_
          exact h
        · replace h := h.2 hc
          refine v_iconst gC d_Mo_open_64 ?_
          refine v_goto (tgt := 85) gC d_Mo_open_65 (by decide) ?_
          refine v_iadd gC d_Mo_open_85 (v3 + 1) rfl ?_
          refine v_istore_n (lv' := [(0, .ref (d0 0)), (1, .int (zI x1)), (2, .int (zI x2)), (3, .int (zI (v3 + 1))), (4, .int (zI v4)), (5, .int (zI v5)), (6, .int (zI ((gMo_named s0) t0)))]) gC d_Mo_open_86 rfl (by decide) [1, 2, 3, 0, 4, 5, 6] rfl ?_
          refine v_iinc (lv' := [(0, .ref (d0 0)), (1, .int (zI x1)), (2, .int (zI x2)), (3, .int (zI (v3 + 1))), (4, .int (zI (v4 + 1))), (5, .int (zI v5)), (6, .int (zI ((gMo_named s0) t0)))]) gC d_Mo_open_87 4 rfl (by decide) (v4 + 1) rfl [1, 2, 3, 4, 0, 5, 6] rfl ?_
          refine v_goto (tgt := 5) gC d_Mo_open_90 (by decide) ?_
          refine v_loc (lv' := [(0, .ref (d0 0)), (1, .int (zI x1)), (2, .int (zI x2)), (3, .int (zI (v3 + 1))), (4, .int (zI (v4 + 1)))]) [0, 1, 2, 3, 4] rfl ?_
          exact h)
    (by
      intro v4 v5 v6 t0 h
      refine v_iload gC d_Mo_open_68 4 rfl ?_
      refine v_iload_n gC d_Mo_open_70 rfl 2 rfl ?_
      obtain ⟨hg11, hg12, h⟩ := h
      refine v_icmp_ne (tgt := 84) gC d_Mo_open_71 (by decide) hg11 hg12 (fun hc => ?_) (fun hc => ?_)
      · replace h := h.1 hc
        refine v_iconst gC d_Mo_open_84 ?_
        refine v_iadd gC d_Mo_open_85 (t0 + 0) rfl ?_
        refine v_istore_n (lv' := [(0, .ref (d0 0)), (1, .int (zI x1)), (2, .int (zI x2)), (3, .int (zI (t0 + 0))), (4, .int (zI v4)), (5, .int (zI v5)), (6, .int (zI v6))]) gC d_Mo_open_86 rfl (by decide) [1, 2, 3, 0, 4, 5, 6] rfl ?_
        refine v_iinc (lv' := [(0, .ref (d0 0)), (1, .int (zI x1)), (2, .int (zI x2)), (3, .int (zI (t0 + 0))), (4, .int (zI (v4 + 1))), (5, .int (zI v5)), (6, .int (zI v6))]) gC d_Mo_open_87 4 rfl (by decide) (v4 + 1) rfl [1, 2, 3, 4, 0, 5, 6] rfl ?_
        refine v_goto (tgt := 5) gC d_Mo_open_90 (by decide) ?_
        refine v_loc (lv' := [(0, .ref (d0 0)), (1, .int (zI x1)), (2, .int (zI x2)), (3, .int (zI (t0 + 0))), (4, .int (zI (v4 + 1)))]) [0, 1, 2, 3, 4] rfl ?_
        exact h
      · replace h := h.2 hc
        refine v_iload gC d_Mo_open_74 5 rfl ?_
        refine v_iload_n gC d_Mo_open_76 rfl 1 rfl ?_
        obtain ⟨hg13, hg14, h⟩ := h
        refine v_icmp_ne (tgt := 84) gC d_Mo_open_77 (by decide) hg13 hg14 (fun hc => ?_) (fun hc => ?_)
        · replace h := h.1 hc
          refine v_iconst gC d_Mo_open_84 ?_
          refine v_iadd gC d_Mo_open_85 (t0 + 0) rfl ?_
          refine v_istore_n (lv' := [(0, .ref (d0 0)), (1, .int (zI x1)), (2, .int (zI x2)), (3, .int (zI (t0 + 0))), (4, .int (zI v4)), (5, .int (zI v5)), (6, .int (zI v6))]) gC d_Mo_open_86 rfl (by decide) [1, 2, 3, 0, 4, 5, 6] rfl ?_
          refine v_iinc (lv' := [(0, .ref (d0 0)), (1, .int (zI x1)), (2, .int (zI x2)), (3, .int (zI (t0 + 0))), (4, .int (zI (v4 + 1))), (5, .int (zI v5)), (6, .int (zI v6))]) gC d_Mo_open_87 4 rfl (by decide) (v4 + 1) rfl [1, 2, 3, 4, 0, 5, 6] rfl ?_
          refine v_goto (tgt := 5) gC d_Mo_open_90 (by decide) ?_
          refine v_loc (lv' := [(0, .ref (d0 0)), (1, .int (zI x1)), (2, .int (zI x2)), (3, .int (zI (t0 + 0))), (4, .int (zI (v4 + 1)))]) [0, 1, 2, 3, 4] rfl ?_
          exact h
        · replace h := h.2 hc
          refine v_iconst gC d_Mo_open_80 ?_
          refine v_goto (tgt := 85) gC d_Mo_open_81 (by decide) ?_
          refine v_iadd gC d_Mo_open_85 (t0 + (-1)) rfl ?_
          refine v_istore_n (lv' := [(0, .ref (d0 0)), (1, .int (zI x1)), (2, .int (zI x2)), (3, .int (zI (t0 + (-1)))), (4, .int (zI v4)), (5, .int (zI v5)), (6, .int (zI v6))]) gC d_Mo_open_86 rfl (by decide) [1, 2, 3, 0, 4, 5, 6] rfl ?_
          refine v_iinc (lv' := [(0, .ref (d0 0)), (1, .int (zI x1)), (2, .int (zI x2)), (3, .int (zI (t0 + (-1)))), (4, .int (zI (v4 + 1))), (5, .int (zI v5)), (6, .int (zI v6))]) gC d_Mo_open_87 4 rfl (by decide) (v4 + 1) rfl [1, 2, 3, 4, 0, 5, 6] rfl ?_
          refine v_goto (tgt := 5) gC d_Mo_open_90 (by decide) ?_
          refine v_loc (lv' := [(0, .ref (d0 0)), (1, .int (zI x1)), (2, .int (zI x2)), (3, .int (zI (t0 + (-1)))), (4, .int (zI (v4 + 1)))]) [0, 1, 2, 3, 4] rfl ?_
          exact h)
  refine v_iconst gC d_Mo_open_0 ?_
  refine v_istore_n (lv' := [(0, .ref (d0 0)), (1, .int (zI x1)), (2, .int (zI x2)), (3, .int (zI 0))]) gC d_Mo_open_1 rfl (by decide) [1, 2, 3, 0] rfl ?_
  refine v_iconst gC d_Mo_open_2 ?_
  refine v_istore (lv' := [(0, .ref (d0 0)), (1, .int (zI x1)), (2, .int (zI x2)), (3, .int (zI 0)), (4, .int (zI 0))]) gC d_Mo_open_3 (by decide) [1, 2, 3, 4, 0] rfl ?_
  refine v_loc (lv' := [(0, .ref (d0 0)), (1, .int (zI x1)), (2, .int (zI x2)), (3, .int (zI 0)), (4, .int (zI 0))]) [0, 1, 2, 3, 4] rfl ?_
  exact h

set_option maxHeartbeats 4000000 in
set_option maxRecDepth 100000 in
theorem k_Mo_only (l : Launch) (D : va_G) (K : Nat → ClassId) (d0 : Nat → Nat) (x1 : Int) (s0 : s_Mo) (Q : Int → Prop) (h : wp_Mo_only x1 s0 Q) : Kt l D K y_Mo_only b_Mo_only 5 (some .int) 1 26 [.ref (d0 0), .int (zI x1)] (w_Mo K d0 s0) (fun v w1 => ∃ (r : Int), v = some (.int (zI r)) ∧ w1 = (w_Mo K d0 s0) ∧ Q r) := by
  refine Kt.ofI (by decide +kernel) (Nat.le_of_ble_eq_true rfl) (lv0 := [(0, .ref (d0 0)), (1, .int (zI x1))]) rfl ?_
  intro gp ge gR gs gm ga gb gh gc gA gQ gRf gRl gC gret
  unfold wp_Mo_only at h
  replace h := h
    (fun (v2 : Int) (v3 : Int) => V gp l ge gR gs gm ga gb gh gc D gA 5 0 0 gQ (w_Mo K d0 s0) 4 [(0, .ref (d0 0)), (1, .int (zI x1)), (2, .int (zI v2)), (3, .int (zI v3))] [])
    (fun (v2 : Int) (v3 : Int) (t0 : Int) => V gp l ge gR gs gm ga gb gh gc D gA 5 0 0 gQ (w_Mo K d0 s0) 27 [(0, .ref (d0 0)), (1, .int (zI x1)), (2, .int (zI v2)), (3, .int (zI v3))] [.int (zI t0)])
    (by
      intro v2 v3 h
      refine v_iload_n gC d_Mo_only_4 rfl 3 rfl ?_
      refine v_aload_n gC d_Mo_only_5 rfl 0 rfl ?_
      refine v_get (v := .int (zI (gMo_corners s0))) gC in_Mo 0 rfl rfl 1 (by decide) fl_Mo_63 rfl d_Mo_only_6 ?_
      obtain ⟨hg1, hg2, h⟩ := h
      refine v_icmp_ge (tgt := 57) gC d_Mo_only_9 (by decide) hg1 hg2 (fun hc => ?_) (fun hc => ?_)
      · replace h := h.1 hc
        refine v_iload_n gC d_Mo_only_57 rfl 2 rfl ?_
        exact gret _ _ _ _ d_Mo_only_58 ⟨v2, rfl, rfl, h⟩
      · replace h := h.2 hc
        refine v_iload_n gC d_Mo_only_12 rfl 1 rfl ?_
        refine v_iload_n gC d_Mo_only_13 rfl 3 rfl ?_
        obtain ⟨hg3, h⟩ := h
        refine v_icmp_ne (tgt := 21) gC d_Mo_only_14 (by decide) hg3 hg1 (fun hc => ?_) (fun hc => ?_)
        · replace h := h.1 hc
          refine v_aload_n gC d_Mo_only_21 rfl 0 rfl ?_
          refine v_iload_n gC d_Mo_only_22 rfl 1 rfl ?_
          refine v_iload_n gC d_Mo_only_23 rfl 3 rfl ?_
          refine v_callV (rest := []) gC (k_Mo_open l D K d0 x1 v3 s0 _ h) wV_Mo_91 rfl ⟨by omega, by omega, Nat.zero_le _, Nat.zero_le _⟩ 0 rfl rfl [0, 1, 2, 3, 4, 5, 6, 7, 8, 9, 10, 11] [] rfl (by decide) rfl (by decide) (by decide) rfl (Nat.le_of_ble_eq_true rfl) d_Mo_only_24 (fun v w1 hp => ?_)
          obtain ⟨r4, rfl, rfl, h⟩ := hp
          refine v_after (ws' := (w_Mo K d0 s0)) (st' := [.int (zI r4)]) [0, 1, 2, 3, 4, 5, 6, 7, 8, 9, 10, 11] (by decide) rfl rfl ?_
          refine v_loc (lv' := [(0, .ref (d0 0)), (1, .int (zI x1)), (2, .int (zI v2)), (3, .int (zI v3))]) [0, 1, 2, 3] rfl ?_
          exact h
        · replace h := h.2 hc
          refine v_iconst gC d_Mo_only_17 ?_
          refine v_goto (tgt := 27) gC d_Mo_only_18 (by decide) ?_
          refine v_loc (lv' := [(0, .ref (d0 0)), (1, .int (zI x1)), (2, .int (zI v2)), (3, .int (zI v3))]) [0, 1, 2, 3] rfl ?_
          exact h)
    (by
      intro v2 v3 t0 h
      refine v_istore (lv' := [(0, .ref (d0 0)), (1, .int (zI x1)), (2, .int (zI v2)), (3, .int (zI v3)), (4, .int (zI t0))]) gC d_Mo_only_27 (by decide) [1, 2, 3, 4, 0] rfl ?_
      refine v_iload gC d_Mo_only_29 4 rfl ?_
      obtain ⟨hg5, h⟩ := h
      refine v_if_ne (tgt := 37) gC d_Mo_only_31 (by decide) hg5 (fun hc => ?_) (fun hc => ?_)
      · replace h := h.1 hc
        refine v_iload gC d_Mo_only_37 4 rfl ?_
        refine v_iconst gC d_Mo_only_39 ?_
        refine v_icmp_gt (tgt := 47) gC d_Mo_only_40 (by decide) hg5 (by decide) (fun hc => ?_) (fun hc => ?_)
        · replace h := h.1 hc
          refine v_iconst gC d_Mo_only_47 ?_
          exact gret _ _ _ _ d_Mo_only_48 ⟨(-1), rfl, rfl, h⟩
        · replace h := h.2 hc
          refine v_iload_n gC d_Mo_only_43 rfl 2 rfl ?_
          obtain ⟨hg6, h⟩ := h
          refine v_if_lt (tgt := 49) gC d_Mo_only_44 (by decide) hg6 (fun hc => ?_) (fun hc => ?_)
          · replace h := h.1 hc
            refine v_iload_n gC d_Mo_only_49 rfl 3 rfl ?_
            refine v_istore_n (lv' := [(0, .ref (d0 0)), (1, .int (zI x1)), (2, .int (zI v3)), (3, .int (zI v3)), (4, .int (zI t0))]) gC d_Mo_only_50 rfl (by decide) [1, 2, 0, 3, 4] rfl ?_
            refine v_iinc (lv' := [(0, .ref (d0 0)), (1, .int (zI x1)), (2, .int (zI v3)), (3, .int (zI (v3 + 1))), (4, .int (zI t0))]) gC d_Mo_only_51 3 rfl (by decide) (v3 + 1) rfl [1, 2, 3, 0, 4] rfl ?_
            refine v_goto (tgt := 4) gC d_Mo_only_54 (by decide) ?_
            refine v_loc (lv' := [(0, .ref (d0 0)), (1, .int (zI x1)), (2, .int (zI v3)), (3, .int (zI (v3 + 1)))]) [0, 1, 2, 3] rfl ?_
            exact h
          · replace h := h.2 hc
            refine v_iconst gC d_Mo_only_47 ?_
            exact gret _ _ _ _ d_Mo_only_48 ⟨(-1), rfl, rfl, h⟩
      · replace h := h.2 hc
        refine v_goto (tgt := 51) gC d_Mo_only_34 (by decide) ?_
        refine v_iinc (lv' := [(0, .ref (d0 0)), (1, .int (zI x1)), (2, .int (zI v2)), (3, .int (zI (v3 + 1))), (4, .int (zI t0))]) gC d_Mo_only_51 3 rfl (by decide) (v3 + 1) rfl [1, 2, 3, 0, 4] rfl ?_
        refine v_goto (tgt := 4) gC d_Mo_only_54 (by decide) ?_
        refine v_loc (lv' := [(0, .ref (d0 0)), (1, .int (zI x1)), (2, .int (zI v2)), (3, .int (zI (v3 + 1)))]) [0, 1, 2, 3] rfl ?_
        exact h)
  refine v_iconst gC d_Mo_only_0 ?_
  refine v_istore_n (lv' := [(0, .ref (d0 0)), (1, .int (zI x1)), (2, .int (zI (-1)))]) gC d_Mo_only_1 rfl (by decide) [1, 2, 0] rfl ?_
  refine v_iconst gC d_Mo_only_2 ?_
  refine v_istore_n (lv' := [(0, .ref (d0 0)), (1, .int (zI x1)), (2, .int (zI (-1))), (3, .int (zI 0))]) gC d_Mo_only_3 rfl (by decide) [1, 2, 3, 0] rfl ?_
  refine v_loc (lv' := [(0, .ref (d0 0)), (1, .int (zI x1)), (2, .int (zI (-1))), (3, .int (zI 0))]) [0, 1, 2, 3] rfl ?_
  exact h

set_option maxHeartbeats 4000000 in
set_option maxRecDepth 100000 in
theorem k_Mo_hole (l : Launch) (D : va_G) (K : Nat → ClassId) (d0 : Nat → Nat) (x1 : Int) (s0 : s_Mo) (Q : Int → s_Mo → Prop) (h : wp_Mo_hole x1 s0 Q) : Kt l D K y_Mo_hole b_Mo_hole 6 (some .int) 2 50 [.ref (d0 0), .int (zI x1)] (w_Mo K d0 s0) (fun v w1 => ∃ (r : Int), ∃ (u0 : s_Mo), v = some (.int (zI r)) ∧ w1 = (w_Mo K d0 u0) ∧ Q r u0) := by
  refine Kt.ofI (by decide +kernel) (Nat.le_of_ble_eq_true rfl) (lv0 := [(0, .ref (d0 0)), (1, .int (zI x1))]) rfl ?_
  intro gp ge gR gs gm ga gb gh gc gA gQ gRf gRl gC gret
  unfold wp_Mo_hole at h
  replace h := h
    (fun (v2 : Int) (v3 : Int) (s0 : s_Mo) => V gp l ge gR gs gm ga gb gh gc D gA 6 0 0 gQ (w_Mo K d0 s0) 4 [(0, .ref (d0 0)), (1, .int (zI x1)), (2, .int (zI v2)), (3, .int (zI v3))] [])
    (fun (v2 : Int) (v3 : Int) (v4 : Int) (v5 : Int) (s0 : s_Mo) => V gp l ge gR gs gm ga gb gh gc D gA 6 0 0 gQ (w_Mo K d0 s0) 27 [(0, .ref (d0 0)), (1, .int (zI x1)), (2, .int (zI v2)), (3, .int (zI v3)), (4, .int (zI v4)), (5, .int (zI v5))] [])
    (by
      intro v2 v3 s0 h
      refine v_iload_n gC d_Mo_hole_4 rfl 2 rfl ?_
      refine v_bipush gC d_Mo_hole_5 (by decide) ?_
      obtain ⟨hg1, h⟩ := h
      refine v_icmp_ge (tgt := 103) gC d_Mo_hole_7 (by decide) hg1 (by decide) (fun hc => ?_) (fun hc => ?_)
      · replace h := h.1 hc
        refine v_iconst gC d_Mo_hole_103 ?_
        exact gret _ _ _ _ d_Mo_hole_104 ⟨0, s0, rfl, rfl, h⟩
      · replace h := h.2 hc
        refine v_aload_n gC d_Mo_hole_10 rfl 0 rfl ?_
        refine v_iload_n gC d_Mo_hole_11 rfl 3 rfl ?_
        refine v_callV (rest := []) gC (k_Mo_only l D K d0 v3 s0 _ h) wV_Mo_95 rfl ⟨by omega, by omega, Nat.zero_le _, Nat.zero_le _⟩ 0 rfl rfl [0, 1, 2, 3, 4, 5, 6, 7, 8, 9, 10, 11] [] rfl (by decide) rfl (by decide) (by decide) rfl (Nat.le_of_ble_eq_true rfl) d_Mo_hole_12 (fun v w1 hp => ?_)
        obtain ⟨r2, rfl, rfl, h⟩ := hp
        refine v_after (ws' := (w_Mo K d0 s0)) (st' := [.int (zI r2)]) [0, 1, 2, 3, 4, 5, 6, 7, 8, 9, 10, 11] (by decide) rfl rfl ?_
        refine v_istore (lv' := [(0, .ref (d0 0)), (1, .int (zI x1)), (2, .int (zI v2)), (3, .int (zI v3)), (4, .int (zI r2))]) gC d_Mo_hole_15 (by decide) [1, 2, 3, 4, 0] rfl ?_
        refine v_iload gC d_Mo_hole_17 4 rfl ?_
        obtain ⟨hg3, h⟩ := h
        refine v_if_ge (tgt := 24) gC d_Mo_hole_19 (by decide) hg3 (fun hc => ?_) (fun hc => ?_)
        · replace h := h.1 hc
          refine v_iconst gC d_Mo_hole_24 ?_
          refine v_istore (lv' := [(0, .ref (d0 0)), (1, .int (zI x1)), (2, .int (zI v2)), (3, .int (zI v3)), (4, .int (zI r2)), (5, .int (zI 0))]) gC d_Mo_hole_25 (by decide) [1, 2, 3, 4, 5, 0] rfl ?_
          refine v_loc (lv' := [(0, .ref (d0 0)), (1, .int (zI x1)), (2, .int (zI v2)), (3, .int (zI v3)), (4, .int (zI r2)), (5, .int (zI 0))]) [0, 1, 2, 3, 4, 5] rfl ?_
          exact h
        · replace h := h.2 hc
          refine v_iconst gC d_Mo_hole_22 ?_
          exact gret _ _ _ _ d_Mo_hole_23 ⟨0, s0, rfl, rfl, h⟩)
    (by
      intro v2 v3 v4 v5 s0 h
      refine v_iload gC d_Mo_hole_27 5 rfl ?_
      refine v_iload_n gC d_Mo_hole_29 rfl 2 rfl ?_
      obtain ⟨hg4, hg5, h⟩ := h
      refine v_icmp_ge (tgt := 52) gC d_Mo_hole_30 (by decide) hg4 hg5 (fun hc => ?_) (fun hc => ?_)
      · replace h := h.1 hc
        refine v_aload_n gC d_Mo_hole_52 rfl 0 rfl ?_
        refine v_get (v := .ref (d0 11)) gC in_Mo 0 rfl rfl 27 (by decide) fl_Mo_41 rfl d_Mo_hole_53 ?_
        refine v_iload_n gC d_Mo_hole_56 rfl 2 rfl ?_
        refine v_iload_n gC d_Mo_hole_57 rfl 3 rfl ?_
        obtain ⟨hg6, h⟩ := h
        refine v_iast (g := (gMo_ring s0)) (ws' := (w_Mo K d0 (mkMo (gMo_thrown s0) (gMo_corners s0) (gMo_px s0) (gMo_py s0) (gMo_pz s0) (gMo_triangles s0) (gMo_named s0) (gMo_joined s0) (gMo_dropped s0) (gMo_closed s0) (gMo_layers s0) (gMo_thickness s0) (gMo_cuts s0) (gMo_cx s0) (gMo_cy s0) (gMo_cz s0) (gMo_solids s0) (gMo_shell s0) (gMo_skin s0) (gMo_period s0) (gMo_reach s0) (gMo_gap s0) (gMo_bytes s0) (gMo_played s0) (gMo_at s0) (gMo_program s0) (gMo_beads s0) (iset (gMo_ring s0) v2 v3)))) gC 11 0 rfl rfl hg6 rfl (by decide) rfl d_Mo_hole_58 ?_
        refine v_iinc (lv' := [(0, .ref (d0 0)), (1, .int (zI x1)), (2, .int (zI (v2 + 1))), (3, .int (zI v3)), (4, .int (zI v4)), (5, .int (zI v5))]) gC d_Mo_hole_59 2 rfl (by decide) (v2 + 1) rfl [1, 2, 0, 3, 4, 5] rfl ?_
        refine v_iload gC d_Mo_hole_62 4 rfl ?_
        refine v_istore_n (lv' := [(0, .ref (d0 0)), (1, .int (zI x1)), (2, .int (zI (v2 + 1))), (3, .int (zI v4)), (4, .int (zI v4)), (5, .int (zI v5))]) gC d_Mo_hole_64 rfl (by decide) [1, 2, 3, 0, 4, 5] rfl ?_
        refine v_iload_n gC d_Mo_hole_65 rfl 3 rfl ?_
        refine v_iload_n gC d_Mo_hole_66 rfl 1 rfl ?_
        obtain ⟨hg7, hg8, h⟩ := h
        refine v_icmp_ne (tgt := 100) gC d_Mo_hole_67 (by decide) hg7 hg8 (fun hc => ?_) (fun hc => ?_)
        · replace h := h.1 hc
          refine v_goto (tgt := 4) gC d_Mo_hole_100 (by decide) ?_
          refine v_loc (lv' := [(0, .ref (d0 0)), (1, .int (zI x1)), (2, .int (zI (v2 + 1))), (3, .int (zI v4))]) [0, 1, 2, 3] rfl ?_
          exact h
        · replace h := h.2 hc
          refine v_iload_n gC d_Mo_hole_70 rfl 2 rfl ?_
          refine v_iconst gC d_Mo_hole_71 ?_
          obtain ⟨hg9, h⟩ := h
          refine v_icmp_lt (tgt := 98) gC d_Mo_hole_72 (by decide) hg9 (by decide) (fun hc => ?_) (fun hc => ?_)
          · replace h := h.1 hc
            refine v_iconst gC d_Mo_hole_98 ?_
            exact gret _ _ _ _ d_Mo_hole_99 ⟨0, (mkMo (gMo_thrown s0) (gMo_corners s0) (gMo_px s0) (gMo_py s0) (gMo_pz s0) (gMo_triangles s0) (gMo_named s0) (gMo_joined s0) (gMo_dropped s0) (gMo_closed s0) (gMo_layers s0) (gMo_thickness s0) (gMo_cuts s0) (gMo_cx s0) (gMo_cy s0) (gMo_cz s0) (gMo_solids s0) (gMo_shell s0) (gMo_skin s0) (gMo_period s0) (gMo_reach s0) (gMo_gap s0) (gMo_bytes s0) (gMo_played s0) (gMo_at s0) (gMo_program s0) (gMo_beads s0) (iset (gMo_ring s0) v2 v3)), rfl, rfl, h⟩
          · replace h := h.2 hc
            refine v_iload_n gC d_Mo_hole_75 rfl 2 rfl ?_
            refine v_bipush gC d_Mo_hole_76 (by decide) ?_
            refine v_icmp_gt (tgt := 98) gC d_Mo_hole_78 (by decide) hg9 (by decide) (fun hc => ?_) (fun hc => ?_)
            · replace h := h.1 hc
              refine v_iconst gC d_Mo_hole_98 ?_
              exact gret _ _ _ _ d_Mo_hole_99 ⟨0, (mkMo (gMo_thrown s0) (gMo_corners s0) (gMo_px s0) (gMo_py s0) (gMo_pz s0) (gMo_triangles s0) (gMo_named s0) (gMo_joined s0) (gMo_dropped s0) (gMo_closed s0) (gMo_layers s0) (gMo_thickness s0) (gMo_cuts s0) (gMo_cx s0) (gMo_cy s0) (gMo_cz s0) (gMo_solids s0) (gMo_shell s0) (gMo_skin s0) (gMo_period s0) (gMo_reach s0) (gMo_gap s0) (gMo_bytes s0) (gMo_played s0) (gMo_at s0) (gMo_program s0) (gMo_beads s0) (iset (gMo_ring s0) v2 v3)), rfl, rfl, h⟩
            · replace h := h.2 hc
              refine v_aload_n gC d_Mo_hole_81 rfl 0 rfl ?_
              refine v_get (v := .int (zI (gMo_triangles s0))) gC in_Mo 0 rfl rfl 5 (by decide) fl_Mo_70 rfl d_Mo_hole_82 ?_
              refine v_iload_n gC d_Mo_hole_85 rfl 2 rfl ?_
              refine v_iadd gC d_Mo_hole_86 ((gMo_triangles s0) + (v2 + 1)) rfl ?_
              refine v_iconst gC d_Mo_hole_87 ?_
              refine v_isub gC d_Mo_hole_88 (((gMo_triangles s0) + (v2 + 1)) - 2) rfl ?_
              refine v_bipush gC d_Mo_hole_89 (by decide) ?_
              obtain ⟨hg10, h⟩ := h
              refine v_icmp_gt (tgt := 98) gC d_Mo_hole_91 (by decide) hg10 (by decide) (fun hc => ?_) (fun hc => ?_)
              · replace h := h.1 hc
                refine v_iconst gC d_Mo_hole_98 ?_
                exact gret _ _ _ _ d_Mo_hole_99 ⟨0, (mkMo (gMo_thrown s0) (gMo_corners s0) (gMo_px s0) (gMo_py s0) (gMo_pz s0) (gMo_triangles s0) (gMo_named s0) (gMo_joined s0) (gMo_dropped s0) (gMo_closed s0) (gMo_layers s0) (gMo_thickness s0) (gMo_cuts s0) (gMo_cx s0) (gMo_cy s0) (gMo_cz s0) (gMo_solids s0) (gMo_shell s0) (gMo_skin s0) (gMo_period s0) (gMo_reach s0) (gMo_gap s0) (gMo_bytes s0) (gMo_played s0) (gMo_at s0) (gMo_program s0) (gMo_beads s0) (iset (gMo_ring s0) v2 v3)), rfl, rfl, h⟩
              · replace h := h.2 hc
                refine v_iload_n gC d_Mo_hole_94 rfl 2 rfl ?_
                refine v_goto (tgt := 99) gC d_Mo_hole_95 (by decide) ?_
                exact gret _ _ _ _ d_Mo_hole_99 ⟨v2 + 1, (mkMo (gMo_thrown s0) (gMo_corners s0) (gMo_px s0) (gMo_py s0) (gMo_pz s0) (gMo_triangles s0) (gMo_named s0) (gMo_joined s0) (gMo_dropped s0) (gMo_closed s0) (gMo_layers s0) (gMo_thickness s0) (gMo_cuts s0) (gMo_cx s0) (gMo_cy s0) (gMo_cz s0) (gMo_solids s0) (gMo_shell s0) (gMo_skin s0) (gMo_period s0) (gMo_reach s0) (gMo_gap s0) (gMo_bytes s0) (gMo_played s0) (gMo_at s0) (gMo_program s0) (gMo_beads s0) (iset (gMo_ring s0) v2 v3)), rfl, rfl, h⟩
      · replace h := h.2 hc
        refine v_aload_n gC d_Mo_hole_33 rfl 0 rfl ?_
        refine v_get (v := .ref (d0 11)) gC in_Mo 0 rfl rfl 27 (by decide) fl_Mo_41 rfl d_Mo_hole_34 ?_
        refine v_iload gC d_Mo_hole_37 5 rfl ?_
        obtain ⟨hg11, h⟩ := h
        refine v_iald (g := (gMo_ring s0)) gC 11 0 rfl rfl hg11 rfl (by decide) d_Mo_hole_39 ?_
        refine v_iload_n gC d_Mo_hole_40 rfl 3 rfl ?_
        obtain ⟨hg12, hg13, h⟩ := h
        refine v_icmp_ne (tgt := 46) gC d_Mo_hole_41 (by decide) hg12 hg13 (fun hc => ?_) (fun hc => ?_)
        · replace h := h.1 hc
          refine v_iinc (lv' := [(0, .ref (d0 0)), (1, .int (zI x1)), (2, .int (zI v2)), (3, .int (zI v3)), (4, .int (zI v4)), (5, .int (zI (v5 + 1)))]) gC d_Mo_hole_46 5 rfl (by decide) (v5 + 1) rfl [1, 2, 3, 4, 5, 0] rfl ?_
          refine v_goto (tgt := 27) gC d_Mo_hole_49 (by decide) ?_
          refine v_loc (lv' := [(0, .ref (d0 0)), (1, .int (zI x1)), (2, .int (zI v2)), (3, .int (zI v3)), (4, .int (zI v4)), (5, .int (zI (v5 + 1)))]) [0, 1, 2, 3, 4, 5] rfl ?_
          exact h
        · replace h := h.2 hc
          refine v_iconst gC d_Mo_hole_44 ?_
          exact gret _ _ _ _ d_Mo_hole_45 ⟨0, s0, rfl, rfl, h⟩)
  refine v_iconst gC d_Mo_hole_0 ?_
  refine v_istore_n (lv' := [(0, .ref (d0 0)), (1, .int (zI x1)), (2, .int (zI 0))]) gC d_Mo_hole_1 rfl (by decide) [1, 2, 0] rfl ?_
  refine v_iload_n gC d_Mo_hole_2 rfl 1 rfl ?_
  refine v_istore_n (lv' := [(0, .ref (d0 0)), (1, .int (zI x1)), (2, .int (zI 0)), (3, .int (zI x1))]) gC d_Mo_hole_3 rfl (by decide) [1, 2, 3, 0] rfl ?_
  refine v_loc (lv' := [(0, .ref (d0 0)), (1, .int (zI x1)), (2, .int (zI 0)), (3, .int (zI x1))]) [0, 1, 2, 3] rfl ?_
  exact h

set_option maxHeartbeats 4000000 in
set_option maxRecDepth 100000 in
theorem k_Mo_mend (l : Launch) (D : va_G) (K : Nat → ClassId) (d0 : Nat → Nat) (s0 : s_Mo) (Q : Int → s_Mo → Prop) (h : wp_Mo_mend s0 Q) : Kt l D K y_Mo_mend b_Mo_mend 5 (some .int) 3 75 [.ref (d0 0)] (w_Mo K d0 s0) (fun v w1 => ∃ (r : Int), ∃ (u0 : s_Mo), v = some (.int (zI r)) ∧ w1 = (w_Mo K d0 u0) ∧ Q r u0) := by
  refine Kt.ofI (by decide +kernel) (Nat.le_of_ble_eq_true rfl) (lv0 := [(0, .ref (d0 0))]) rfl ?_
  intro gp ge gR gs gm ga gb gh gc gA gQ gRf gRl gC gret
  unfold wp_Mo_mend at h
  replace h := h
    (fun (v1 : Int) (s0 : s_Mo) => V gp l ge gR gs gm ga gb gh gc D gA 5 0 0 gQ (w_Mo K d0 s0) 15 [(0, .ref (d0 0)), (1, .int (zI v1))] [])
    (fun (v2 : Int) (v3 : Int) (s0 : s_Mo) => V gp l ge gR gs gm ga gb gh gc D gA 5 0 0 gQ (w_Mo K d0 s0) 41 [(0, .ref (d0 0)), (2, .int (zI v2)), (3, .int (zI v3))] [])
    (fun (v2 : Int) (v3 : Int) (s0 : s_Mo) => V gp l ge gR gs gm ga gb gh gc D gA 5 0 0 gQ (w_Mo K d0 s0) 98 [(0, .ref (d0 0)), (2, .int (zI v2)), (3, .int (zI v3))] [])
    (fun (v2 : Int) (v3 : Int) (v4 : Int) (s0 : s_Mo) => V gp l ge gR gs gm ga gb gh gc D gA 5 0 0 gQ (w_Mo K d0 s0) 109 [(0, .ref (d0 0)), (2, .int (zI v2)), (3, .int (zI v3)), (4, .int (zI v4))] [])
    (by
      intro v1 s0 h
      refine v_iload_n gC d_Mo_mend_15 rfl 1 rfl ?_
      refine v_aload_n gC d_Mo_mend_16 rfl 0 rfl ?_
      refine v_get (v := .int (zI (gMo_corners s0))) gC in_Mo 0 rfl rfl 1 (by decide) fl_Mo_63 rfl d_Mo_mend_17 ?_
      obtain ⟨hg3, hg4, h⟩ := h
      refine v_icmp_ge (tgt := 94) gC d_Mo_mend_20 (by decide) hg3 hg4 (fun hc => ?_) (fun hc => ?_)
      · replace h := h.1 hc
        refine v_iconst gC d_Mo_mend_94 ?_
        refine v_istore_n (lv' := [(0, .ref (d0 0)), (1, .int (zI v1)), (2, .int (zI 0))]) gC d_Mo_mend_95 rfl (by decide) [1, 2, 0] rfl ?_
        refine v_iconst gC d_Mo_mend_96 ?_
        refine v_istore_n (lv' := [(0, .ref (d0 0)), (1, .int (zI v1)), (2, .int (zI 0)), (3, .int (zI 0))]) gC d_Mo_mend_97 rfl (by decide) [1, 2, 3, 0] rfl ?_
        refine v_loc (lv' := [(0, .ref (d0 0)), (2, .int (zI 0)), (3, .int (zI 0))]) [0, 2, 3] rfl ?_
        exact h
      · replace h := h.2 hc
        refine v_aload_n gC d_Mo_mend_23 rfl 0 rfl ?_
        refine v_iload_n gC d_Mo_mend_24 rfl 1 rfl ?_
        refine v_callV (rest := []) gC (k_Mo_hole l D K d0 v1 s0 _ h) wV_Mo_104 rfl ⟨by omega, by omega, Nat.zero_le _, Nat.zero_le _⟩ 0 rfl rfl [0, 1, 2, 3, 4, 5, 6, 7, 8, 9, 10, 11] [] rfl (by decide) rfl (by decide) (by decide) rfl (Nat.le_of_ble_eq_true rfl) d_Mo_mend_25 (fun v w1 hp => ?_)
        obtain ⟨r5, u6, rfl, rfl, h⟩ := hp
        refine v_after (ws' := (w_Mo K d0 u6)) (st' := [.int (zI r5)]) [0, 1, 2, 3, 4, 5, 6, 7, 8, 9, 10, 11] (by decide) rfl rfl ?_
        refine v_istore_n (lv' := [(0, .ref (d0 0)), (1, .int (zI v1)), (2, .int (zI r5))]) gC d_Mo_mend_28 rfl (by decide) [1, 2, 0] rfl ?_
        refine v_iload_n gC d_Mo_mend_29 rfl 2 rfl ?_
        obtain ⟨hg7, h⟩ := h
        refine v_if_ne (tgt := 39) gC d_Mo_mend_30 (by decide) hg7 (fun hc => ?_) (fun hc => ?_)
        · replace h := h.1 hc
          refine v_iconst gC d_Mo_mend_39 ?_
          refine v_istore_n (lv' := [(0, .ref (d0 0)), (1, .int (zI v1)), (2, .int (zI r5)), (3, .int (zI 1))]) gC d_Mo_mend_40 rfl (by decide) [1, 2, 3, 0] rfl ?_
          refine v_loc (lv' := [(0, .ref (d0 0)), (2, .int (zI r5)), (3, .int (zI 1))]) [0, 2, 3] rfl ?_
          exact h
        · replace h := h.2 hc
          refine v_iinc (lv' := [(0, .ref (d0 0)), (1, .int (zI (v1 + 1))), (2, .int (zI r5))]) gC d_Mo_mend_33 1 rfl (by decide) (v1 + 1) rfl [1, 0, 2] rfl ?_
          refine v_goto (tgt := 15) gC d_Mo_mend_36 (by decide) ?_
          refine v_loc (lv' := [(0, .ref (d0 0)), (1, .int (zI (v1 + 1)))]) [0, 1] rfl ?_
          exact h)
    (by
      intro v2 v3 s0 h
      refine v_iload_n gC d_Mo_mend_41 rfl 2 rfl ?_
      refine v_iload_n gC d_Mo_mend_42 rfl 1 rfl ?_
      refine v_iconst gC d_Mo_mend_43 ?_
      refine v_isub gC d_Mo_mend_44 (v2 - 2) rfl ?_
      obtain ⟨hg10, hg11, h⟩ := h
      refine v_icmp_gt (tgt := 79) gC d_Mo_mend_45 (by decide) hg10 hg11 (fun hc => ?_) (fun hc => ?_)
      · replace h := h.1 hc
        refine v_aload_n gC d_Mo_mend_79 rfl 0 rfl ?_
        refine v_dup gC d_Mo_mend_80 rfl ?_
        refine v_get (v := .int (zI (gMo_closed s0))) gC in_Mo 0 rfl rfl 9 (by decide) fl_Mo_107 rfl d_Mo_mend_81 ?_
        refine v_iconst gC d_Mo_mend_84 ?_
        refine v_iadd gC d_Mo_mend_85 ((gMo_closed s0) + 1) rfl ?_
        refine v_puti (ws' := (w_Mo K d0 (mkMo (gMo_thrown s0) (gMo_corners s0) (gMo_px s0) (gMo_py s0) (gMo_pz s0) (gMo_triangles s0) (gMo_named s0) (gMo_joined s0) (gMo_dropped s0) ((gMo_closed s0) + 1) (gMo_layers s0) (gMo_thickness s0) (gMo_cuts s0) (gMo_cx s0) (gMo_cy s0) (gMo_cz s0) (gMo_solids s0) (gMo_shell s0) (gMo_skin s0) (gMo_period s0) (gMo_reach s0) (gMo_gap s0) (gMo_bytes s0) (gMo_played s0) (gMo_at s0) (gMo_program s0) (gMo_beads s0) (gMo_ring s0)))) gC in_Mo t_Mo ok_Mo n_Mo 0 rfl rfl 9 (by decide) fl_Mo_107 rfl (by decide +kernel) (Nat.le_of_ble_eq_true rfl) rfl d_Mo_mend_86 ?_
        refine v_iconst gC d_Mo_mend_89 ?_
        refine v_istore_n (lv' := [(0, .ref (d0 0)), (1, .int (zI 0)), (2, .int (zI v2)), (3, .int (zI v3))]) gC d_Mo_mend_90 rfl (by decide) [1, 0, 2, 3] rfl ?_
        refine v_goto (tgt := 15) gC d_Mo_mend_91 (by decide) ?_
        refine v_loc (lv' := [(0, .ref (d0 0)), (1, .int (zI 0))]) [0, 1] rfl ?_
        exact h
      · replace h := h.2 hc
        refine v_aload_n gC d_Mo_mend_48 rfl 0 rfl ?_
        refine v_aload_n gC d_Mo_mend_49 rfl 0 rfl ?_
        refine v_get (v := .ref (d0 11)) gC in_Mo 0 rfl rfl 27 (by decide) fl_Mo_41 rfl d_Mo_mend_50 ?_
        refine v_iconst gC d_Mo_mend_53 ?_
        refine v_iald (g := (gMo_ring s0)) gC 11 0 rfl rfl (by decide) rfl (by decide) d_Mo_mend_54 ?_
        refine v_aload_n gC d_Mo_mend_55 rfl 0 rfl ?_
        refine v_get (v := .ref (d0 11)) gC in_Mo 0 rfl rfl 27 (by decide) fl_Mo_41 rfl d_Mo_mend_56 ?_
        refine v_iload_n gC d_Mo_mend_59 rfl 2 rfl ?_
        refine v_iconst gC d_Mo_mend_60 ?_
        refine v_iadd gC d_Mo_mend_61 (v3 + 1) rfl ?_
        obtain ⟨hg12, h⟩ := h
        refine v_iald (g := (gMo_ring s0)) gC 11 0 rfl rfl hg12 rfl (by decide) d_Mo_mend_62 ?_
        refine v_aload_n gC d_Mo_mend_63 rfl 0 rfl ?_
        refine v_get (v := .ref (d0 11)) gC in_Mo 0 rfl rfl 27 (by decide) fl_Mo_41 rfl d_Mo_mend_64 ?_
        refine v_iload_n gC d_Mo_mend_67 rfl 2 rfl ?_
        obtain ⟨hg13, h⟩ := h
        refine v_iald (g := (gMo_ring s0)) gC 11 0 rfl rfl hg13 rfl (by decide) d_Mo_mend_68 ?_
        refine v_callV (rest := []) gC (k_Mo_add l D K d0 ((gMo_ring s0) 0) ((gMo_ring s0) (v3 + 1)) ((gMo_ring s0) v3) s0 _ h) wV_Mo_73 rfl ⟨by omega, by omega, Nat.zero_le _, Nat.zero_le _⟩ 0 rfl rfl [0, 1, 2, 3, 4, 5, 6, 7, 8, 9, 10, 11] [] rfl (by decide) rfl (by decide) (by decide) rfl (Nat.le_of_ble_eq_true rfl) d_Mo_mend_69 (fun v w1 hp => ?_)
        obtain ⟨r14, u15, rfl, rfl, h⟩ := hp
        refine v_after (ws' := (w_Mo K d0 u15)) (st' := [.int (zI r14)]) [0, 1, 2, 3, 4, 5, 6, 7, 8, 9, 10, 11] (by decide) rfl rfl ?_
        refine v_pop gC d_Mo_mend_72 rfl ?_
        refine v_iinc (lv' := [(0, .ref (d0 0)), (2, .int (zI v2)), (3, .int (zI (v3 + 1)))]) gC d_Mo_mend_73 2 rfl (by decide) (v3 + 1) rfl [1, 2, 0] rfl ?_
        refine v_goto (tgt := 41) gC d_Mo_mend_76 (by decide) ?_
        refine v_loc (lv' := [(0, .ref (d0 0)), (2, .int (zI v2)), (3, .int (zI (v3 + 1)))]) [0, 1, 2] rfl ?_
        exact h)
    (by
      intro v2 v3 s0 h
      refine v_iload_n gC d_Mo_mend_98 rfl 2 rfl ?_
      refine v_aload_n gC d_Mo_mend_99 rfl 0 rfl ?_
      refine v_get (v := .int (zI (gMo_corners s0))) gC in_Mo 0 rfl rfl 1 (by decide) fl_Mo_63 rfl d_Mo_mend_100 ?_
      obtain ⟨hg8, hg9, h⟩ := h
      refine v_icmp_ge (tgt := 146) gC d_Mo_mend_103 (by decide) hg8 hg9 (fun hc => ?_) (fun hc => ?_)
      · replace h := h.1 hc
        refine v_iload_n gC d_Mo_mend_146 rfl 1 rfl ?_
        exact gret _ _ _ _ d_Mo_mend_147 ⟨v2, s0, rfl, rfl, h⟩
      · replace h := h.2 hc
        refine v_iconst gC d_Mo_mend_106 ?_
        refine v_istore (lv' := [(0, .ref (d0 0)), (2, .int (zI v2)), (3, .int (zI v3)), (4, .int (zI 0))]) gC d_Mo_mend_107 (by decide) [1, 2, 3, 0] rfl ?_
        refine v_loc (lv' := [(0, .ref (d0 0)), (2, .int (zI v2)), (3, .int (zI v3)), (4, .int (zI 0))]) [0, 1, 2, 3] rfl ?_
        exact h)
    (by
      intro v2 v3 v4 s0 h
      refine v_iload gC d_Mo_mend_109 3 rfl ?_
      refine v_aload_n gC d_Mo_mend_111 rfl 0 rfl ?_
      refine v_get (v := .int (zI (gMo_corners s0))) gC in_Mo 0 rfl rfl 1 (by decide) fl_Mo_63 rfl d_Mo_mend_112 ?_
      obtain ⟨hg16, hg17, h⟩ := h
      refine v_icmp_ge (tgt := 140) gC d_Mo_mend_115 (by decide) hg16 hg17 (fun hc => ?_) (fun hc => ?_)
      · replace h := h.1 hc
        refine v_iinc (lv' := [(0, .ref (d0 0)), (2, .int (zI v2)), (3, .int (zI (v3 + 1))), (4, .int (zI v4))]) gC d_Mo_mend_140 2 rfl (by decide) (v3 + 1) rfl [1, 2, 0, 3] rfl ?_
        refine v_goto (tgt := 98) gC d_Mo_mend_143 (by decide) ?_
        refine v_loc (lv' := [(0, .ref (d0 0)), (2, .int (zI v2)), (3, .int (zI (v3 + 1)))]) [0, 1, 2] rfl ?_
        exact h
      · replace h := h.2 hc
        refine v_iload_n gC d_Mo_mend_118 rfl 2 rfl ?_
        refine v_iload gC d_Mo_mend_119 3 rfl ?_
        obtain ⟨hg18, h⟩ := h
        refine v_icmp_eq (tgt := 134) gC d_Mo_mend_121 (by decide) hg18 hg16 (fun hc => ?_) (fun hc => ?_)
        · replace h := h.1 hc
          refine v_iinc (lv' := [(0, .ref (d0 0)), (2, .int (zI v2)), (3, .int (zI v3)), (4, .int (zI (v4 + 1)))]) gC d_Mo_mend_134 3 rfl (by decide) (v4 + 1) rfl [1, 2, 3, 0] rfl ?_
          refine v_goto (tgt := 109) gC d_Mo_mend_137 (by decide) ?_
          refine v_loc (lv' := [(0, .ref (d0 0)), (2, .int (zI v2)), (3, .int (zI v3)), (4, .int (zI (v4 + 1)))]) [0, 1, 2, 3] rfl ?_
          exact h
        · replace h := h.2 hc
          refine v_iload_n gC d_Mo_mend_124 rfl 1 rfl ?_
          refine v_aload_n gC d_Mo_mend_125 rfl 0 rfl ?_
          refine v_iload_n gC d_Mo_mend_126 rfl 2 rfl ?_
          refine v_iload gC d_Mo_mend_127 3 rfl ?_
          refine v_callV (rest := [.int (zI v2)]) gC (k_Mo_open l D K d0 v3 v4 s0 _ h) wV_Mo_91 rfl ⟨by omega, by omega, Nat.zero_le _, Nat.zero_le _⟩ 0 rfl rfl [0, 1, 2, 3, 4, 5, 6, 7, 8, 9, 10, 11] [] rfl (by decide) rfl (by decide) (by decide) rfl (Nat.le_of_ble_eq_true rfl) d_Mo_mend_129 (fun v w1 hp => ?_)
          obtain ⟨r19, rfl, rfl, h⟩ := hp
          refine v_after (ws' := (w_Mo K d0 s0)) (st' := [.int (zI r19), .int (zI v2)]) [0, 1, 2, 3, 4, 5, 6, 7, 8, 9, 10, 11] (by decide) rfl rfl ?_
          refine v_iadd gC d_Mo_mend_132 (v2 + r19) rfl ?_
          refine v_istore_n (lv' := [(0, .ref (d0 0)), (2, .int (zI (v2 + r19))), (3, .int (zI v3)), (4, .int (zI v4))]) gC d_Mo_mend_133 rfl (by decide) [1, 0, 2, 3] rfl ?_
          refine v_iinc (lv' := [(0, .ref (d0 0)), (2, .int (zI (v2 + r19))), (3, .int (zI v3)), (4, .int (zI (v4 + 1)))]) gC d_Mo_mend_134 3 rfl (by decide) (v4 + 1) rfl [1, 2, 3, 0] rfl ?_
          refine v_goto (tgt := 109) gC d_Mo_mend_137 (by decide) ?_
          refine v_loc (lv' := [(0, .ref (d0 0)), (2, .int (zI (v2 + r19))), (3, .int (zI v3)), (4, .int (zI (v4 + 1)))]) [0, 1, 2, 3] rfl ?_
          exact h)
  refine v_aload_n gC d_Mo_mend_0 rfl 0 rfl ?_
  refine v_iconst gC d_Mo_mend_1 ?_
  refine v_puti (ws' := (w_Mo K d0 (mkMo 0 (gMo_corners s0) (gMo_px s0) (gMo_py s0) (gMo_pz s0) (gMo_triangles s0) (gMo_named s0) (gMo_joined s0) (gMo_dropped s0) (gMo_closed s0) (gMo_layers s0) (gMo_thickness s0) (gMo_cuts s0) (gMo_cx s0) (gMo_cy s0) (gMo_cz s0) (gMo_solids s0) (gMo_shell s0) (gMo_skin s0) (gMo_period s0) (gMo_reach s0) (gMo_gap s0) (gMo_bytes s0) (gMo_played s0) (gMo_at s0) (gMo_program s0) (gMo_beads s0) (gMo_ring s0)))) gC in_Mo t_Mo ok_Mo n_Mo 0 rfl rfl 0 (by decide) fl_Mo_60 rfl (by decide +kernel) (Nat.le_of_ble_eq_true rfl) rfl d_Mo_mend_2 ?_
  refine v_aload_n gC d_Mo_mend_5 rfl 0 rfl ?_
  refine v_callV (rest := []) gC (k_Mo_join l D K d0 (mkMo 0 (gMo_corners s0) (gMo_px s0) (gMo_py s0) (gMo_pz s0) (gMo_triangles s0) (gMo_named s0) (gMo_joined s0) (gMo_dropped s0) (gMo_closed s0) (gMo_layers s0) (gMo_thickness s0) (gMo_cuts s0) (gMo_cx s0) (gMo_cy s0) (gMo_cz s0) (gMo_solids s0) (gMo_shell s0) (gMo_skin s0) (gMo_period s0) (gMo_reach s0) (gMo_gap s0) (gMo_bytes s0) (gMo_played s0) (gMo_at s0) (gMo_program s0) (gMo_beads s0) (gMo_ring s0)) _ h) wV_Mo_98 rfl ⟨by omega, by omega, Nat.zero_le _, Nat.zero_le _⟩ 0 rfl rfl [0, 1, 2, 3, 4, 5, 6, 7, 8, 9, 10, 11] [] rfl (by decide) rfl (by decide) (by decide) rfl (Nat.le_of_ble_eq_true rfl) d_Mo_mend_6 (fun v w1 hp => ?_)
  obtain ⟨u1, rfl, rfl, h⟩ := hp
  refine v_after (ws' := (w_Mo K d0 u1)) (st' := []) [0, 1, 2, 3, 4, 5, 6, 7, 8, 9, 10, 11] (by decide) rfl rfl ?_
  refine v_aload_n gC d_Mo_mend_9 rfl 0 rfl ?_
  refine v_callV (rest := []) gC (k_Mo_drop l D K d0 u1 _ h) wV_Mo_101 rfl ⟨by omega, by omega, Nat.zero_le _, Nat.zero_le _⟩ 0 rfl rfl [0, 1, 2, 3, 4, 5, 6, 7, 8, 9, 10, 11] [] rfl (by decide) rfl (by decide) (by decide) rfl (Nat.le_of_ble_eq_true rfl) d_Mo_mend_10 (fun v w1 hp => ?_)
  obtain ⟨u2, rfl, rfl, h⟩ := hp
  refine v_after (ws' := (w_Mo K d0 u2)) (st' := []) [0, 1, 2, 3, 4, 5, 6, 7, 8, 9, 10, 11] (by decide) rfl rfl ?_
  refine v_iconst gC d_Mo_mend_13 ?_
  refine v_istore_n (lv' := [(0, .ref (d0 0)), (1, .int (zI 0))]) gC d_Mo_mend_14 rfl (by decide) [1, 0] rfl ?_
  refine v_loc (lv' := [(0, .ref (d0 0)), (1, .int (zI 0))]) [0, 1] rfl ?_
  exact h

set_option maxHeartbeats 4000000 in
set_option maxRecDepth 100000 in
theorem k_Mo_mended (l : Launch) (D : va_G) (K : Nat → ClassId) (d0 : Nat → Nat) (x1 : Int) (s0 : s_Mo) (Q : Int → s_Mo → Prop) (h : wp_Mo_mended x1 s0 Q) : Kt l D K y_Mo_mended b_Mo_mended 2 (some .int) 0 0 [.ref (d0 0), .int (zI x1)] (w_Mo K d0 s0) (fun v w1 => ∃ (r : Int), ∃ (u0 : s_Mo), v = some (.int (zI r)) ∧ w1 = (w_Mo K d0 u0) ∧ Q r u0) := by
  refine Kt.ofI (by decide +kernel) (Nat.le_of_ble_eq_true rfl) (lv0 := [(0, .ref (d0 0)), (1, .int (zI x1))]) rfl ?_
  intro gp ge gR gs gm ga gb gh gc gA gQ gRf gRl gC gret
  unfold wp_Mo_mended at h
  refine v_aload_n gC d_Mo_mended_0 rfl 0 rfl ?_
  refine v_iconst gC d_Mo_mended_1 ?_
  refine v_puti (ws' := (w_Mo K d0 (mkMo 0 (gMo_corners s0) (gMo_px s0) (gMo_py s0) (gMo_pz s0) (gMo_triangles s0) (gMo_named s0) (gMo_joined s0) (gMo_dropped s0) (gMo_closed s0) (gMo_layers s0) (gMo_thickness s0) (gMo_cuts s0) (gMo_cx s0) (gMo_cy s0) (gMo_cz s0) (gMo_solids s0) (gMo_shell s0) (gMo_skin s0) (gMo_period s0) (gMo_reach s0) (gMo_gap s0) (gMo_bytes s0) (gMo_played s0) (gMo_at s0) (gMo_program s0) (gMo_beads s0) (gMo_ring s0)))) gC in_Mo t_Mo ok_Mo n_Mo 0 rfl rfl 0 (by decide) fl_Mo_60 rfl (by decide +kernel) (Nat.le_of_ble_eq_true rfl) rfl d_Mo_mended_2 ?_
  refine v_iload_n gC d_Mo_mended_5 rfl 1 rfl ?_
  obtain ⟨hg1, h⟩ := h
  refine v_if_ne (tgt := 16) gC d_Mo_mended_6 (by decide) hg1 (fun hc => ?_) (fun hc => ?_)
  · replace h := h.1 hc
    refine v_iload_n gC d_Mo_mended_16 rfl 1 rfl ?_
    refine v_iconst gC d_Mo_mended_17 ?_
    refine v_icmp_ne (tgt := 28) gC d_Mo_mended_18 (by decide) hg1 (by decide) (fun hc => ?_) (fun hc => ?_)
    · replace h := h.1 hc
      refine v_iload_n gC d_Mo_mended_28 rfl 1 rfl ?_
      refine v_iconst gC d_Mo_mended_29 ?_
      refine v_icmp_ne (tgt := 40) gC d_Mo_mended_30 (by decide) hg1 (by decide) (fun hc => ?_) (fun hc => ?_)
      · replace h := h.1 hc
        refine v_iload_n gC d_Mo_mended_40 rfl 1 rfl ?_
        refine v_iconst gC d_Mo_mended_41 ?_
        refine v_icmp_ne (tgt := 52) gC d_Mo_mended_42 (by decide) hg1 (by decide) (fun hc => ?_) (fun hc => ?_)
        · replace h := h.1 hc
          refine v_iconst gC d_Mo_mended_52 ?_
          exact gret _ _ _ _ d_Mo_mended_53 ⟨(-1), (mkMo 0 (gMo_corners s0) (gMo_px s0) (gMo_py s0) (gMo_pz s0) (gMo_triangles s0) (gMo_named s0) (gMo_joined s0) (gMo_dropped s0) (gMo_closed s0) (gMo_layers s0) (gMo_thickness s0) (gMo_cuts s0) (gMo_cx s0) (gMo_cy s0) (gMo_cz s0) (gMo_solids s0) (gMo_shell s0) (gMo_skin s0) (gMo_period s0) (gMo_reach s0) (gMo_gap s0) (gMo_bytes s0) (gMo_played s0) (gMo_at s0) (gMo_program s0) (gMo_beads s0) (gMo_ring s0)), rfl, rfl, h⟩
        · replace h := h.2 hc
          refine v_aload_n gC d_Mo_mended_45 rfl 0 rfl ?_
          refine v_get (v := .int (zI (gMo_triangles s0))) gC in_Mo 0 rfl rfl 5 (by decide) fl_Mo_70 rfl d_Mo_mended_46 ?_
          refine v_goto (tgt := 53) gC d_Mo_mended_49 (by decide) ?_
          exact gret _ _ _ _ d_Mo_mended_53 ⟨(gMo_triangles s0), (mkMo 0 (gMo_corners s0) (gMo_px s0) (gMo_py s0) (gMo_pz s0) (gMo_triangles s0) (gMo_named s0) (gMo_joined s0) (gMo_dropped s0) (gMo_closed s0) (gMo_layers s0) (gMo_thickness s0) (gMo_cuts s0) (gMo_cx s0) (gMo_cy s0) (gMo_cz s0) (gMo_solids s0) (gMo_shell s0) (gMo_skin s0) (gMo_period s0) (gMo_reach s0) (gMo_gap s0) (gMo_bytes s0) (gMo_played s0) (gMo_at s0) (gMo_program s0) (gMo_beads s0) (gMo_ring s0)), rfl, rfl, h⟩
      · replace h := h.2 hc
        refine v_aload_n gC d_Mo_mended_33 rfl 0 rfl ?_
        refine v_get (v := .int (zI (gMo_closed s0))) gC in_Mo 0 rfl rfl 9 (by decide) fl_Mo_107 rfl d_Mo_mended_34 ?_
        refine v_goto (tgt := 53) gC d_Mo_mended_37 (by decide) ?_
        exact gret _ _ _ _ d_Mo_mended_53 ⟨(gMo_closed s0), (mkMo 0 (gMo_corners s0) (gMo_px s0) (gMo_py s0) (gMo_pz s0) (gMo_triangles s0) (gMo_named s0) (gMo_joined s0) (gMo_dropped s0) (gMo_closed s0) (gMo_layers s0) (gMo_thickness s0) (gMo_cuts s0) (gMo_cx s0) (gMo_cy s0) (gMo_cz s0) (gMo_solids s0) (gMo_shell s0) (gMo_skin s0) (gMo_period s0) (gMo_reach s0) (gMo_gap s0) (gMo_bytes s0) (gMo_played s0) (gMo_at s0) (gMo_program s0) (gMo_beads s0) (gMo_ring s0)), rfl, rfl, h⟩
    · replace h := h.2 hc
      refine v_aload_n gC d_Mo_mended_21 rfl 0 rfl ?_
      refine v_get (v := .int (zI (gMo_dropped s0))) gC in_Mo 0 rfl rfl 8 (by decide) fl_Mo_88 rfl d_Mo_mended_22 ?_
      refine v_goto (tgt := 53) gC d_Mo_mended_25 (by decide) ?_
      exact gret _ _ _ _ d_Mo_mended_53 ⟨(gMo_dropped s0), (mkMo 0 (gMo_corners s0) (gMo_px s0) (gMo_py s0) (gMo_pz s0) (gMo_triangles s0) (gMo_named s0) (gMo_joined s0) (gMo_dropped s0) (gMo_closed s0) (gMo_layers s0) (gMo_thickness s0) (gMo_cuts s0) (gMo_cx s0) (gMo_cy s0) (gMo_cz s0) (gMo_solids s0) (gMo_shell s0) (gMo_skin s0) (gMo_period s0) (gMo_reach s0) (gMo_gap s0) (gMo_bytes s0) (gMo_played s0) (gMo_at s0) (gMo_program s0) (gMo_beads s0) (gMo_ring s0)), rfl, rfl, h⟩
  · replace h := h.2 hc
    refine v_aload_n gC d_Mo_mended_9 rfl 0 rfl ?_
    refine v_get (v := .int (zI (gMo_joined s0))) gC in_Mo 0 rfl rfl 7 (by decide) fl_Mo_81 rfl d_Mo_mended_10 ?_
    refine v_goto (tgt := 53) gC d_Mo_mended_13 (by decide) ?_
    exact gret _ _ _ _ d_Mo_mended_53 ⟨(gMo_joined s0), (mkMo 0 (gMo_corners s0) (gMo_px s0) (gMo_py s0) (gMo_pz s0) (gMo_triangles s0) (gMo_named s0) (gMo_joined s0) (gMo_dropped s0) (gMo_closed s0) (gMo_layers s0) (gMo_thickness s0) (gMo_cuts s0) (gMo_cx s0) (gMo_cy s0) (gMo_cz s0) (gMo_solids s0) (gMo_shell s0) (gMo_skin s0) (gMo_period s0) (gMo_reach s0) (gMo_gap s0) (gMo_bytes s0) (gMo_played s0) (gMo_at s0) (gMo_program s0) (gMo_beads s0) (gMo_ring s0)), rfl, rfl, h⟩

set_option maxHeartbeats 4000000 in
set_option maxRecDepth 100000 in
theorem k_Mo_triangle (l : Launch) (D : va_G) (K : Nat → ClassId) (d0 : Nat → Nat) (x1 : Int) (x2 : Int) (s0 : s_Mo) (Q : Int → s_Mo → Prop) (h : wp_Mo_triangle x1 x2 s0 Q) : Kt l D K y_Mo_triangle b_Mo_triangle 3 (some .int) 1 22 [.ref (d0 0), .int (zI x1), .int (zI x2)] (w_Mo K d0 s0) (fun v w1 => ∃ (r : Int), ∃ (u0 : s_Mo), v = some (.int (zI r)) ∧ w1 = (w_Mo K d0 u0) ∧ Q r u0) := by
  refine Kt.ofI (by decide +kernel) (Nat.le_of_ble_eq_true rfl) (lv0 := [(0, .ref (d0 0)), (1, .int (zI x1)), (2, .int (zI x2))]) rfl ?_
  intro gp ge gR gs gm ga gb gh gc gA gQ gRf gRl gC gret
  unfold wp_Mo_triangle at h
  refine v_aload_n gC d_Mo_triangle_0 rfl 0 rfl ?_
  refine v_iconst gC d_Mo_triangle_1 ?_
  refine v_puti (ws' := (w_Mo K d0 (mkMo 0 (gMo_corners s0) (gMo_px s0) (gMo_py s0) (gMo_pz s0) (gMo_triangles s0) (gMo_named s0) (gMo_joined s0) (gMo_dropped s0) (gMo_closed s0) (gMo_layers s0) (gMo_thickness s0) (gMo_cuts s0) (gMo_cx s0) (gMo_cy s0) (gMo_cz s0) (gMo_solids s0) (gMo_shell s0) (gMo_skin s0) (gMo_period s0) (gMo_reach s0) (gMo_gap s0) (gMo_bytes s0) (gMo_played s0) (gMo_at s0) (gMo_program s0) (gMo_beads s0) (gMo_ring s0)))) gC in_Mo t_Mo ok_Mo n_Mo 0 rfl rfl 0 (by decide) fl_Mo_60 rfl (by decide +kernel) (Nat.le_of_ble_eq_true rfl) rfl d_Mo_triangle_2 ?_
  refine v_iload_n gC d_Mo_triangle_5 rfl 1 rfl ?_
  refine v_iconst gC d_Mo_triangle_6 ?_
  refine v_aload_n gC d_Mo_triangle_7 rfl 0 rfl ?_
  refine v_get (v := .int (zI (gMo_triangles s0))) gC in_Mo 0 rfl rfl 5 (by decide) fl_Mo_70 rfl d_Mo_triangle_8 ?_
  refine v_iconst gC d_Mo_triangle_11 ?_
  refine v_isub gC d_Mo_triangle_12 ((gMo_triangles s0) - 1) rfl ?_
  refine v_callS (rest := []) gC (k_Mo_in l D K x1 0 ((gMo_triangles s0) - 1) _ h) wS_Mo_66 rfl ⟨by omega, by omega, Nat.zero_le _, Nat.zero_le _⟩ [] [0, 1, 2, 3, 4, 5, 6, 7, 8, 9, 10, 11] rfl (by decide) rfl (by decide) (by decide) rfl (Nat.le_of_ble_eq_true rfl) d_Mo_triangle_13 (fun v w1 hp => ?_)
  obtain ⟨r1, rfl, rfl, h⟩ := hp
  refine v_after (ws' := (w_Mo K d0 (mkMo 0 (gMo_corners s0) (gMo_px s0) (gMo_py s0) (gMo_pz s0) (gMo_triangles s0) (gMo_named s0) (gMo_joined s0) (gMo_dropped s0) (gMo_closed s0) (gMo_layers s0) (gMo_thickness s0) (gMo_cuts s0) (gMo_cx s0) (gMo_cy s0) (gMo_cz s0) (gMo_solids s0) (gMo_shell s0) (gMo_skin s0) (gMo_period s0) (gMo_reach s0) (gMo_gap s0) (gMo_bytes s0) (gMo_played s0) (gMo_at s0) (gMo_program s0) (gMo_beads s0) (gMo_ring s0)))) (st' := [.int (zI r1)]) [0, 1, 2, 3, 4, 5, 6, 7, 8, 9, 10, 11] (by decide) rfl rfl ?_
  obtain ⟨hg2, h⟩ := h
  refine v_if_eq (tgt := 41) gC d_Mo_triangle_16 (by decide) hg2 (fun hc => ?_) (fun hc => ?_)
  · replace h := h.1 hc
    refine v_iconst gC d_Mo_triangle_41 ?_
    exact gret _ _ _ _ d_Mo_triangle_42 ⟨(-1), (mkMo 0 (gMo_corners s0) (gMo_px s0) (gMo_py s0) (gMo_pz s0) (gMo_triangles s0) (gMo_named s0) (gMo_joined s0) (gMo_dropped s0) (gMo_closed s0) (gMo_layers s0) (gMo_thickness s0) (gMo_cuts s0) (gMo_cx s0) (gMo_cy s0) (gMo_cz s0) (gMo_solids s0) (gMo_shell s0) (gMo_skin s0) (gMo_period s0) (gMo_reach s0) (gMo_gap s0) (gMo_bytes s0) (gMo_played s0) (gMo_at s0) (gMo_program s0) (gMo_beads s0) (gMo_ring s0)), rfl, rfl, h⟩
  · replace h := h.2 hc
    refine v_iload_n gC d_Mo_triangle_19 rfl 2 rfl ?_
    refine v_iconst gC d_Mo_triangle_20 ?_
    refine v_iconst gC d_Mo_triangle_21 ?_
    refine v_callS (rest := []) gC (k_Mo_in l D K x2 0 2 _ h) wS_Mo_66 rfl ⟨by omega, by omega, Nat.zero_le _, Nat.zero_le _⟩ [] [0, 1, 2, 3, 4, 5, 6, 7, 8, 9, 10, 11] rfl (by decide) rfl (by decide) (by decide) rfl (Nat.le_of_ble_eq_true rfl) d_Mo_triangle_22 (fun v w1 hp => ?_)
    obtain ⟨r3, rfl, rfl, h⟩ := hp
    refine v_after (ws' := (w_Mo K d0 (mkMo 0 (gMo_corners s0) (gMo_px s0) (gMo_py s0) (gMo_pz s0) (gMo_triangles s0) (gMo_named s0) (gMo_joined s0) (gMo_dropped s0) (gMo_closed s0) (gMo_layers s0) (gMo_thickness s0) (gMo_cuts s0) (gMo_cx s0) (gMo_cy s0) (gMo_cz s0) (gMo_solids s0) (gMo_shell s0) (gMo_skin s0) (gMo_period s0) (gMo_reach s0) (gMo_gap s0) (gMo_bytes s0) (gMo_played s0) (gMo_at s0) (gMo_program s0) (gMo_beads s0) (gMo_ring s0)))) (st' := [.int (zI r3)]) [0, 1, 2, 3, 4, 5, 6, 7, 8, 9, 10, 11] (by decide) rfl rfl ?_
    obtain ⟨hg4, h⟩ := h
    refine v_if_eq (tgt := 41) gC d_Mo_triangle_25 (by decide) hg4 (fun hc => ?_) (fun hc => ?_)
    · replace h := h.1 hc
      refine v_iconst gC d_Mo_triangle_41 ?_
      exact gret _ _ _ _ d_Mo_triangle_42 ⟨(-1), (mkMo 0 (gMo_corners s0) (gMo_px s0) (gMo_py s0) (gMo_pz s0) (gMo_triangles s0) (gMo_named s0) (gMo_joined s0) (gMo_dropped s0) (gMo_closed s0) (gMo_layers s0) (gMo_thickness s0) (gMo_cuts s0) (gMo_cx s0) (gMo_cy s0) (gMo_cz s0) (gMo_solids s0) (gMo_shell s0) (gMo_skin s0) (gMo_period s0) (gMo_reach s0) (gMo_gap s0) (gMo_bytes s0) (gMo_played s0) (gMo_at s0) (gMo_program s0) (gMo_beads s0) (gMo_ring s0)), rfl, rfl, h⟩
    · replace h := h.2 hc
      refine v_aload_n gC d_Mo_triangle_28 rfl 0 rfl ?_
      refine v_get (v := .ref (d0 4)) gC in_Mo 0 rfl rfl 6 (by decide) fl_Mo_19 rfl d_Mo_triangle_29 ?_
      refine v_iconst gC d_Mo_triangle_32 ?_
      refine v_iload_n gC d_Mo_triangle_33 rfl 1 rfl ?_
      refine v_imul gC d_Mo_triangle_34 (3 * x1) rfl ?_
      refine v_iload_n gC d_Mo_triangle_35 rfl 2 rfl ?_
      refine v_iadd gC d_Mo_triangle_36 ((3 * x1) + x2) rfl ?_
      obtain ⟨hg5, h⟩ := h
      refine v_iald (g := (gMo_named s0)) gC 4 0 rfl rfl hg5 rfl (by decide) d_Mo_triangle_37 ?_
      refine v_goto (tgt := 42) gC d_Mo_triangle_38 (by decide) ?_
      exact gret _ _ _ _ d_Mo_triangle_42 ⟨(gMo_named s0) ((3 * x1) + x2), (mkMo 0 (gMo_corners s0) (gMo_px s0) (gMo_py s0) (gMo_pz s0) (gMo_triangles s0) (gMo_named s0) (gMo_joined s0) (gMo_dropped s0) (gMo_closed s0) (gMo_layers s0) (gMo_thickness s0) (gMo_cuts s0) (gMo_cx s0) (gMo_cy s0) (gMo_cz s0) (gMo_solids s0) (gMo_shell s0) (gMo_skin s0) (gMo_period s0) (gMo_reach s0) (gMo_gap s0) (gMo_bytes s0) (gMo_played s0) (gMo_at s0) (gMo_program s0) (gMo_beads s0) (gMo_ring s0)), rfl, rfl, h⟩

set_option maxHeartbeats 4000000 in
set_option maxRecDepth 100000 in
theorem k_Mo_turn (l : Launch) (D : va_G) (K : Nat → ClassId) (d0 : Nat → Nat) (x1 : Int) (x2 : Int) (s0 : s_Mo) (Q : Int → s_Mo → Prop) (h : wp_Mo_turn x1 x2 s0 Q) : Kt l D K y_Mo_turn b_Mo_turn 8 (some .boolean) 1 22 [.ref (d0 0), .int (zI x1), .int (zI x2)] (w_Mo K d0 s0) (fun v w1 => ∃ (r : Int), ∃ (u0 : s_Mo), v = some (.int (zI r)) ∧ w1 = (w_Mo K d0 u0) ∧ Q r u0) := by
  refine Kt.ofZ (by decide +kernel) (Nat.le_of_ble_eq_true rfl) (lv0 := [(0, .ref (d0 0)), (1, .int (zI x1)), (2, .int (zI x2))]) rfl ?_
  intro gp ge gR gs gm ga gb gh gc gA gQ gRf gRl gC gret
  unfold wp_Mo_turn at h
  replace h := h
    (fun (v3 : Int) (s0 : s_Mo) => V gp l ge gR gs gm ga gb gh gc D gA 8 0 0 gQ (w_Mo K d0 s0) 27 [(0, .ref (d0 0)), (1, .int (zI x1)), (2, .int (zI x2)), (3, .int (zI v3))] [])
    (fun (v3 : Int) (v4 : Int) (s0 : s_Mo) => V gp l ge gR gs gm ga gb gh gc D gA 8 0 0 gQ (w_Mo K d0 s0) 35 [(0, .ref (d0 0)), (1, .int (zI x1)), (2, .int (zI x2)), (3, .int (zI v3)), (4, .int (zI v4))] [])
    (fun (v3 : Int) (v4 : Int) (v5 : Int) (v6 : Int) (v7 : Int) (t0 : Int) (t1 : Int) (s0 : s_Mo) => V gp l ge gR gs gm ga gb gh gc D gA 8 0 0 gQ (w_Mo K d0 s0) 101 [(0, .ref (d0 0)), (1, .int (zI x1)), (2, .int (zI x2)), (3, .int (zI v3)), (4, .int (zI v4)), (5, .int (zI v5)), (6, .int (zI v6)), (7, .int (zI v7))] [.int (zI t0), .int (zI t1), .ref (d0 1)])
    (fun (v3 : Int) (v4 : Int) (v5 : Int) (v6 : Int) (v7 : Int) (t0 : Int) (t1 : Int) (s0 : s_Mo) => V gp l ge gR gs gm ga gb gh gc D gA 8 0 0 gQ (w_Mo K d0 s0) 132 [(0, .ref (d0 0)), (1, .int (zI x1)), (2, .int (zI x2)), (3, .int (zI v3)), (4, .int (zI v4)), (5, .int (zI v5)), (6, .int (zI v6)), (7, .int (zI v7))] [.int (zI t0), .int (zI t1), .ref (d0 2)])
    (by
      intro v3 s0 h
      refine v_iload_n gC d_Mo_turn_27 rfl 3 rfl ?_
      refine v_iload_n gC d_Mo_turn_28 rfl 2 rfl ?_
      obtain ⟨hg5, hg6, h⟩ := h
      refine v_icmp_ge (tgt := 176) gC d_Mo_turn_29 (by decide) hg5 hg6 (fun hc => ?_) (fun hc => ?_)
      · replace h := h.1 hc
        refine v_iconst gC d_Mo_turn_176 ?_
        exact gret _ _ _ _ d_Mo_turn_177 rfl ⟨1, s0, rfl, rfl, h⟩
      · replace h := h.2 hc
        refine v_iconst gC d_Mo_turn_32 ?_
        refine v_istore (lv' := [(0, .ref (d0 0)), (1, .int (zI x1)), (2, .int (zI x2)), (3, .int (zI v3)), (4, .int (zI 0))]) gC d_Mo_turn_33 (by decide) [1, 2, 3, 4, 0] rfl ?_
        refine v_loc (lv' := [(0, .ref (d0 0)), (1, .int (zI x1)), (2, .int (zI x2)), (3, .int (zI v3)), (4, .int (zI 0))]) [0, 1, 2, 3, 4] rfl ?_
        exact h)
    (by
      intro v3 v4 s0 h
      refine v_iload gC d_Mo_turn_35 4 rfl ?_
      refine v_aload_n gC d_Mo_turn_37 rfl 0 rfl ?_
      refine v_get (v := .int (zI (gMo_corners s0))) gC in_Mo 0 rfl rfl 1 (by decide) fl_Mo_63 rfl d_Mo_turn_38 ?_
      obtain ⟨hg7, hg8, h⟩ := h
      refine v_icmp_ge (tgt := 170) gC d_Mo_turn_41 (by decide) hg7 hg8 (fun hc => ?_) (fun hc => ?_)
      · replace h := h.1 hc
        refine v_iinc (lv' := [(0, .ref (d0 0)), (1, .int (zI x1)), (2, .int (zI x2)), (3, .int (zI (v3 + 1))), (4, .int (zI v4))]) gC d_Mo_turn_170 3 rfl (by decide) (v3 + 1) rfl [1, 2, 3, 0, 4] rfl ?_
        refine v_goto (tgt := 27) gC d_Mo_turn_173 (by decide) ?_
        refine v_loc (lv' := [(0, .ref (d0 0)), (1, .int (zI x1)), (2, .int (zI x2)), (3, .int (zI (v3 + 1)))]) [0, 1, 2, 3] rfl ?_
        exact h
      · replace h := h.2 hc
        refine v_aload_n gC d_Mo_turn_44 rfl 0 rfl ?_
        refine v_get (v := .ref (d0 1)) gC in_Mo 0 rfl rfl 2 (by decide) fl_Mo_7 rfl d_Mo_turn_45 ?_
        refine v_iload gC d_Mo_turn_48 4 rfl ?_
        obtain ⟨hg9, h⟩ := h
        refine v_iald (g := (gMo_px s0)) gC 1 0 rfl rfl hg9 rfl (by decide) d_Mo_turn_50 ?_
        refine v_istore (lv' := [(0, .ref (d0 0)), (1, .int (zI x1)), (2, .int (zI x2)), (3, .int (zI v3)), (4, .int (zI v4)), (5, .int (zI ((gMo_px s0) v4)))]) gC d_Mo_turn_51 (by decide) [1, 2, 3, 4, 5, 0] rfl ?_
        refine v_aload_n gC d_Mo_turn_53 rfl 0 rfl ?_
        refine v_get (v := .ref (d0 2)) gC in_Mo 0 rfl rfl 3 (by decide) fl_Mo_13 rfl d_Mo_turn_54 ?_
        refine v_iload gC d_Mo_turn_57 4 rfl ?_
        refine v_iald (g := (gMo_py s0)) gC 2 0 rfl rfl hg9 rfl (by decide) d_Mo_turn_59 ?_
        refine v_istore (lv' := [(0, .ref (d0 0)), (1, .int (zI x1)), (2, .int (zI x2)), (3, .int (zI v3)), (4, .int (zI v4)), (5, .int (zI ((gMo_px s0) v4))), (6, .int (zI ((gMo_py s0) v4)))]) gC d_Mo_turn_60 (by decide) [1, 2, 3, 4, 5, 6, 0] rfl ?_
        refine v_aload_n gC d_Mo_turn_62 rfl 0 rfl ?_
        refine v_get (v := .ref (d0 3)) gC in_Mo 0 rfl rfl 4 (by decide) fl_Mo_16 rfl d_Mo_turn_63 ?_
        refine v_iload gC d_Mo_turn_66 4 rfl ?_
        refine v_iald (g := (gMo_pz s0)) gC 3 0 rfl rfl hg9 rfl (by decide) d_Mo_turn_68 ?_
        refine v_istore (lv' := [(0, .ref (d0 0)), (1, .int (zI x1)), (2, .int (zI x2)), (3, .int (zI v3)), (4, .int (zI v4)), (5, .int (zI ((gMo_px s0) v4))), (6, .int (zI ((gMo_py s0) v4))), (7, .int (zI ((gMo_pz s0) v4)))]) gC d_Mo_turn_69 (by decide) [1, 2, 3, 4, 5, 6, 7, 0] rfl ?_
        refine v_aload_n gC d_Mo_turn_71 rfl 0 rfl ?_
        refine v_get (v := .ref (d0 1)) gC in_Mo 0 rfl rfl 2 (by decide) fl_Mo_7 rfl d_Mo_turn_72 ?_
        refine v_iload gC d_Mo_turn_75 4 rfl ?_
        refine v_iload_n gC d_Mo_turn_77 rfl 1 rfl ?_
        obtain ⟨hg10, h⟩ := h
        refine v_if_ne (tgt := 86) gC d_Mo_turn_78 (by decide) hg10 (fun hc => ?_) (fun hc => ?_)
        · replace h := h.1 hc
          refine v_iload_n gC d_Mo_turn_86 rfl 1 rfl ?_
          refine v_iconst gC d_Mo_turn_87 ?_
          refine v_icmp_ne (tgt := 96) gC d_Mo_turn_88 (by decide) hg10 (by decide) (fun hc => ?_) (fun hc => ?_)
          · replace h := h.1 hc
            refine v_bipush gC d_Mo_turn_96 (by decide) ?_
            refine v_iload gC d_Mo_turn_98 6 rfl ?_
            refine v_isub gC d_Mo_turn_100 (120 - ((gMo_py s0) v4)) rfl ?_
            refine v_loc (lv' := [(0, .ref (d0 0)), (1, .int (zI x1)), (2, .int (zI x2)), (3, .int (zI v3)), (4, .int (zI v4)), (5, .int (zI ((gMo_px s0) v4))), (6, .int (zI ((gMo_py s0) v4))), (7, .int (zI ((gMo_pz s0) v4)))]) [0, 1, 2, 3, 4, 5, 6, 7] rfl ?_
            exact h
          · replace h := h.2 hc
            refine v_iload gC d_Mo_turn_91 7 rfl ?_
            refine v_goto (tgt := 101) gC d_Mo_turn_93 (by decide) ?_
            refine v_loc (lv' := [(0, .ref (d0 0)), (1, .int (zI x1)), (2, .int (zI x2)), (3, .int (zI v3)), (4, .int (zI v4)), (5, .int (zI ((gMo_px s0) v4))), (6, .int (zI ((gMo_py s0) v4))), (7, .int (zI ((gMo_pz s0) v4)))]) [0, 1, 2, 3, 4, 5, 6, 7] rfl ?_
            exact h
        · replace h := h.2 hc
          refine v_iload gC d_Mo_turn_81 5 rfl ?_
          refine v_goto (tgt := 101) gC d_Mo_turn_83 (by decide) ?_
          refine v_loc (lv' := [(0, .ref (d0 0)), (1, .int (zI x1)), (2, .int (zI x2)), (3, .int (zI v3)), (4, .int (zI v4)), (5, .int (zI ((gMo_px s0) v4))), (6, .int (zI ((gMo_py s0) v4))), (7, .int (zI ((gMo_pz s0) v4)))]) [0, 1, 2, 3, 4, 5, 6, 7] rfl ?_
          exact h)
    (by
      intro v3 v4 v5 v6 v7 t0 t1 s0 h
      obtain ⟨hg11, h⟩ := h
      refine v_iast (g := (gMo_px s0)) (ws' := (w_Mo K d0 (mkMo (gMo_thrown s0) (gMo_corners s0) (iset (gMo_px s0) t1 t0) (gMo_py s0) (gMo_pz s0) (gMo_triangles s0) (gMo_named s0) (gMo_joined s0) (gMo_dropped s0) (gMo_closed s0) (gMo_layers s0) (gMo_thickness s0) (gMo_cuts s0) (gMo_cx s0) (gMo_cy s0) (gMo_cz s0) (gMo_solids s0) (gMo_shell s0) (gMo_skin s0) (gMo_period s0) (gMo_reach s0) (gMo_gap s0) (gMo_bytes s0) (gMo_played s0) (gMo_at s0) (gMo_program s0) (gMo_beads s0) (gMo_ring s0)))) gC 1 0 rfl rfl hg11 rfl (by decide) rfl d_Mo_turn_101 ?_
      refine v_aload_n gC d_Mo_turn_102 rfl 0 rfl ?_
      refine v_get (v := .ref (d0 2)) gC in_Mo 0 rfl rfl 3 (by decide) fl_Mo_13 rfl d_Mo_turn_103 ?_
      refine v_iload gC d_Mo_turn_106 4 rfl ?_
      refine v_iload_n gC d_Mo_turn_108 rfl 1 rfl ?_
      obtain ⟨hg12, h⟩ := h
      refine v_if_ne (tgt := 120) gC d_Mo_turn_109 (by decide) hg12 (fun hc => ?_) (fun hc => ?_)
      · replace h := h.1 hc
        refine v_iload_n gC d_Mo_turn_120 rfl 1 rfl ?_
        refine v_iconst gC d_Mo_turn_121 ?_
        refine v_icmp_ne (tgt := 130) gC d_Mo_turn_122 (by decide) hg12 (by decide) (fun hc => ?_) (fun hc => ?_)
        · replace h := h.1 hc
          refine v_iload gC d_Mo_turn_130 5 rfl ?_
          refine v_loc (lv' := [(0, .ref (d0 0)), (1, .int (zI x1)), (2, .int (zI x2)), (3, .int (zI v3)), (4, .int (zI v4)), (5, .int (zI v5)), (6, .int (zI v6)), (7, .int (zI v7))]) [0, 1, 2, 3, 4, 5, 6, 7] rfl ?_
          exact h
        · replace h := h.2 hc
          refine v_iload gC d_Mo_turn_125 6 rfl ?_
          refine v_goto (tgt := 132) gC d_Mo_turn_127 (by decide) ?_
          refine v_loc (lv' := [(0, .ref (d0 0)), (1, .int (zI x1)), (2, .int (zI x2)), (3, .int (zI v3)), (4, .int (zI v4)), (5, .int (zI v5)), (6, .int (zI v6)), (7, .int (zI v7))]) [0, 1, 2, 3, 4, 5, 6, 7] rfl ?_
          exact h
      · replace h := h.2 hc
        refine v_bipush gC d_Mo_turn_112 (by decide) ?_
        refine v_iload gC d_Mo_turn_114 7 rfl ?_
        refine v_isub gC d_Mo_turn_116 (120 - v7) rfl ?_
        refine v_goto (tgt := 132) gC d_Mo_turn_117 (by decide) ?_
        refine v_loc (lv' := [(0, .ref (d0 0)), (1, .int (zI x1)), (2, .int (zI x2)), (3, .int (zI v3)), (4, .int (zI v4)), (5, .int (zI v5)), (6, .int (zI v6)), (7, .int (zI v7))]) [0, 1, 2, 3, 4, 5, 6, 7] rfl ?_
        exact h)
    (by
      intro v3 v4 v5 v6 v7 t0 t1 s0 h
      obtain ⟨hg13, h⟩ := h
      refine v_iast (g := (gMo_py s0)) (ws' := (w_Mo K d0 (mkMo (gMo_thrown s0) (gMo_corners s0) (gMo_px s0) (iset (gMo_py s0) t1 t0) (gMo_pz s0) (gMo_triangles s0) (gMo_named s0) (gMo_joined s0) (gMo_dropped s0) (gMo_closed s0) (gMo_layers s0) (gMo_thickness s0) (gMo_cuts s0) (gMo_cx s0) (gMo_cy s0) (gMo_cz s0) (gMo_solids s0) (gMo_shell s0) (gMo_skin s0) (gMo_period s0) (gMo_reach s0) (gMo_gap s0) (gMo_bytes s0) (gMo_played s0) (gMo_at s0) (gMo_program s0) (gMo_beads s0) (gMo_ring s0)))) gC 2 0 rfl rfl hg13 rfl (by decide) rfl d_Mo_turn_132 ?_
      refine v_aload_n gC d_Mo_turn_133 rfl 0 rfl ?_
      refine v_get (v := .ref (d0 3)) gC in_Mo 0 rfl rfl 4 (by decide) fl_Mo_16 rfl d_Mo_turn_134 ?_
      refine v_iload gC d_Mo_turn_137 4 rfl ?_
      refine v_iload_n gC d_Mo_turn_139 rfl 1 rfl ?_
      obtain ⟨hg14, h⟩ := h
      refine v_if_ne (tgt := 148) gC d_Mo_turn_140 (by decide) hg14 (fun hc => ?_) (fun hc => ?_)
      · replace h := h.1 hc
        refine v_iload_n gC d_Mo_turn_148 rfl 1 rfl ?_
        refine v_iconst gC d_Mo_turn_149 ?_
        refine v_icmp_ne (tgt := 161) gC d_Mo_turn_150 (by decide) hg14 (by decide) (fun hc => ?_) (fun hc => ?_)
        · replace h := h.1 hc
          refine v_iload gC d_Mo_turn_161 7 rfl ?_
          obtain ⟨hg15, h⟩ := h
          refine v_iast (g := (gMo_pz s0)) (ws' := (w_Mo K d0 (mkMo (gMo_thrown s0) (gMo_corners s0) (gMo_px s0) (iset (gMo_py s0) t1 t0) (iset (gMo_pz s0) v4 v7) (gMo_triangles s0) (gMo_named s0) (gMo_joined s0) (gMo_dropped s0) (gMo_closed s0) (gMo_layers s0) (gMo_thickness s0) (gMo_cuts s0) (gMo_cx s0) (gMo_cy s0) (gMo_cz s0) (gMo_solids s0) (gMo_shell s0) (gMo_skin s0) (gMo_period s0) (gMo_reach s0) (gMo_gap s0) (gMo_bytes s0) (gMo_played s0) (gMo_at s0) (gMo_program s0) (gMo_beads s0) (gMo_ring s0)))) gC 3 0 rfl rfl hg15 rfl (by decide) rfl d_Mo_turn_163 ?_
          refine v_iinc (lv' := [(0, .ref (d0 0)), (1, .int (zI x1)), (2, .int (zI x2)), (3, .int (zI v3)), (4, .int (zI (v4 + 1))), (5, .int (zI v5)), (6, .int (zI v6)), (7, .int (zI v7))]) gC d_Mo_turn_164 4 rfl (by decide) (v4 + 1) rfl [1, 2, 3, 4, 0, 5, 6, 7] rfl ?_
          refine v_goto (tgt := 35) gC d_Mo_turn_167 (by decide) ?_
          refine v_loc (lv' := [(0, .ref (d0 0)), (1, .int (zI x1)), (2, .int (zI x2)), (3, .int (zI v3)), (4, .int (zI (v4 + 1)))]) [0, 1, 2, 3, 4] rfl ?_
          exact h
        · replace h := h.2 hc
          refine v_bipush gC d_Mo_turn_153 (by decide) ?_
          refine v_iload gC d_Mo_turn_155 5 rfl ?_
          refine v_isub gC d_Mo_turn_157 (120 - v5) rfl ?_
          refine v_goto (tgt := 163) gC d_Mo_turn_158 (by decide) ?_
          obtain ⟨hg16, h⟩ := h
          refine v_iast (g := (gMo_pz s0)) (ws' := (w_Mo K d0 (mkMo (gMo_thrown s0) (gMo_corners s0) (gMo_px s0) (iset (gMo_py s0) t1 t0) (iset (gMo_pz s0) v4 (120 - v5)) (gMo_triangles s0) (gMo_named s0) (gMo_joined s0) (gMo_dropped s0) (gMo_closed s0) (gMo_layers s0) (gMo_thickness s0) (gMo_cuts s0) (gMo_cx s0) (gMo_cy s0) (gMo_cz s0) (gMo_solids s0) (gMo_shell s0) (gMo_skin s0) (gMo_period s0) (gMo_reach s0) (gMo_gap s0) (gMo_bytes s0) (gMo_played s0) (gMo_at s0) (gMo_program s0) (gMo_beads s0) (gMo_ring s0)))) gC 3 0 rfl rfl hg16 rfl (by decide) rfl d_Mo_turn_163 ?_
          refine v_iinc (lv' := [(0, .ref (d0 0)), (1, .int (zI x1)), (2, .int (zI x2)), (3, .int (zI v3)), (4, .int (zI (v4 + 1))), (5, .int (zI v5)), (6, .int (zI v6)), (7, .int (zI v7))]) gC d_Mo_turn_164 4 rfl (by decide) (v4 + 1) rfl [1, 2, 3, 4, 0, 5, 6, 7] rfl ?_
          refine v_goto (tgt := 35) gC d_Mo_turn_167 (by decide) ?_
          refine v_loc (lv' := [(0, .ref (d0 0)), (1, .int (zI x1)), (2, .int (zI x2)), (3, .int (zI v3)), (4, .int (zI (v4 + 1)))]) [0, 1, 2, 3, 4] rfl ?_
          exact h
      · replace h := h.2 hc
        refine v_iload gC d_Mo_turn_143 6 rfl ?_
        refine v_goto (tgt := 163) gC d_Mo_turn_145 (by decide) ?_
        obtain ⟨hg17, h⟩ := h
        refine v_iast (g := (gMo_pz s0)) (ws' := (w_Mo K d0 (mkMo (gMo_thrown s0) (gMo_corners s0) (gMo_px s0) (iset (gMo_py s0) t1 t0) (iset (gMo_pz s0) v4 v6) (gMo_triangles s0) (gMo_named s0) (gMo_joined s0) (gMo_dropped s0) (gMo_closed s0) (gMo_layers s0) (gMo_thickness s0) (gMo_cuts s0) (gMo_cx s0) (gMo_cy s0) (gMo_cz s0) (gMo_solids s0) (gMo_shell s0) (gMo_skin s0) (gMo_period s0) (gMo_reach s0) (gMo_gap s0) (gMo_bytes s0) (gMo_played s0) (gMo_at s0) (gMo_program s0) (gMo_beads s0) (gMo_ring s0)))) gC 3 0 rfl rfl hg17 rfl (by decide) rfl d_Mo_turn_163 ?_
        refine v_iinc (lv' := [(0, .ref (d0 0)), (1, .int (zI x1)), (2, .int (zI x2)), (3, .int (zI v3)), (4, .int (zI (v4 + 1))), (5, .int (zI v5)), (6, .int (zI v6)), (7, .int (zI v7))]) gC d_Mo_turn_164 4 rfl (by decide) (v4 + 1) rfl [1, 2, 3, 4, 0, 5, 6, 7] rfl ?_
        refine v_goto (tgt := 35) gC d_Mo_turn_167 (by decide) ?_
        refine v_loc (lv' := [(0, .ref (d0 0)), (1, .int (zI x1)), (2, .int (zI x2)), (3, .int (zI v3)), (4, .int (zI (v4 + 1)))]) [0, 1, 2, 3, 4] rfl ?_
        exact h)
  refine v_aload_n gC d_Mo_turn_0 rfl 0 rfl ?_
  refine v_iconst gC d_Mo_turn_1 ?_
  refine v_puti (ws' := (w_Mo K d0 (mkMo 0 (gMo_corners s0) (gMo_px s0) (gMo_py s0) (gMo_pz s0) (gMo_triangles s0) (gMo_named s0) (gMo_joined s0) (gMo_dropped s0) (gMo_closed s0) (gMo_layers s0) (gMo_thickness s0) (gMo_cuts s0) (gMo_cx s0) (gMo_cy s0) (gMo_cz s0) (gMo_solids s0) (gMo_shell s0) (gMo_skin s0) (gMo_period s0) (gMo_reach s0) (gMo_gap s0) (gMo_bytes s0) (gMo_played s0) (gMo_at s0) (gMo_program s0) (gMo_beads s0) (gMo_ring s0)))) gC in_Mo t_Mo ok_Mo n_Mo 0 rfl rfl 0 (by decide) fl_Mo_60 rfl (by decide +kernel) (Nat.le_of_ble_eq_true rfl) rfl d_Mo_turn_2 ?_
  refine v_iload_n gC d_Mo_turn_5 rfl 1 rfl ?_
  refine v_iconst gC d_Mo_turn_6 ?_
  refine v_iconst gC d_Mo_turn_7 ?_
  refine v_callS (rest := []) gC (k_Mo_in l D K x1 0 2 _ h) wS_Mo_66 rfl ⟨by omega, by omega, Nat.zero_le _, Nat.zero_le _⟩ [] [0, 1, 2, 3, 4, 5, 6, 7, 8, 9, 10, 11] rfl (by decide) rfl (by decide) (by decide) rfl (Nat.le_of_ble_eq_true rfl) d_Mo_turn_8 (fun v w1 hp => ?_)
  obtain ⟨r1, rfl, rfl, h⟩ := hp
  refine v_after (ws' := (w_Mo K d0 (mkMo 0 (gMo_corners s0) (gMo_px s0) (gMo_py s0) (gMo_pz s0) (gMo_triangles s0) (gMo_named s0) (gMo_joined s0) (gMo_dropped s0) (gMo_closed s0) (gMo_layers s0) (gMo_thickness s0) (gMo_cuts s0) (gMo_cx s0) (gMo_cy s0) (gMo_cz s0) (gMo_solids s0) (gMo_shell s0) (gMo_skin s0) (gMo_period s0) (gMo_reach s0) (gMo_gap s0) (gMo_bytes s0) (gMo_played s0) (gMo_at s0) (gMo_program s0) (gMo_beads s0) (gMo_ring s0)))) (st' := [.int (zI r1)]) [0, 1, 2, 3, 4, 5, 6, 7, 8, 9, 10, 11] (by decide) rfl rfl ?_
  obtain ⟨hg2, h⟩ := h
  refine v_if_eq (tgt := 23) gC d_Mo_turn_11 (by decide) hg2 (fun hc => ?_) (fun hc => ?_)
  · replace h := h.1 hc
    refine v_iconst gC d_Mo_turn_23 ?_
    exact gret _ _ _ _ d_Mo_turn_24 rfl ⟨0, (mkMo 0 (gMo_corners s0) (gMo_px s0) (gMo_py s0) (gMo_pz s0) (gMo_triangles s0) (gMo_named s0) (gMo_joined s0) (gMo_dropped s0) (gMo_closed s0) (gMo_layers s0) (gMo_thickness s0) (gMo_cuts s0) (gMo_cx s0) (gMo_cy s0) (gMo_cz s0) (gMo_solids s0) (gMo_shell s0) (gMo_skin s0) (gMo_period s0) (gMo_reach s0) (gMo_gap s0) (gMo_bytes s0) (gMo_played s0) (gMo_at s0) (gMo_program s0) (gMo_beads s0) (gMo_ring s0)), rfl, rfl, h⟩
  · replace h := h.2 hc
    refine v_iload_n gC d_Mo_turn_14 rfl 2 rfl ?_
    refine v_iconst gC d_Mo_turn_15 ?_
    refine v_iconst gC d_Mo_turn_16 ?_
    refine v_callS (rest := []) gC (k_Mo_in l D K x2 0 3 _ h) wS_Mo_66 rfl ⟨by omega, by omega, Nat.zero_le _, Nat.zero_le _⟩ [] [0, 1, 2, 3, 4, 5, 6, 7, 8, 9, 10, 11] rfl (by decide) rfl (by decide) (by decide) rfl (Nat.le_of_ble_eq_true rfl) d_Mo_turn_17 (fun v w1 hp => ?_)
    obtain ⟨r3, rfl, rfl, h⟩ := hp
    refine v_after (ws' := (w_Mo K d0 (mkMo 0 (gMo_corners s0) (gMo_px s0) (gMo_py s0) (gMo_pz s0) (gMo_triangles s0) (gMo_named s0) (gMo_joined s0) (gMo_dropped s0) (gMo_closed s0) (gMo_layers s0) (gMo_thickness s0) (gMo_cuts s0) (gMo_cx s0) (gMo_cy s0) (gMo_cz s0) (gMo_solids s0) (gMo_shell s0) (gMo_skin s0) (gMo_period s0) (gMo_reach s0) (gMo_gap s0) (gMo_bytes s0) (gMo_played s0) (gMo_at s0) (gMo_program s0) (gMo_beads s0) (gMo_ring s0)))) (st' := [.int (zI r3)]) [0, 1, 2, 3, 4, 5, 6, 7, 8, 9, 10, 11] (by decide) rfl rfl ?_
    obtain ⟨hg4, h⟩ := h
    refine v_if_ne (tgt := 25) gC d_Mo_turn_20 (by decide) hg4 (fun hc => ?_) (fun hc => ?_)
    · replace h := h.1 hc
      refine v_iconst gC d_Mo_turn_25 ?_
      refine v_istore_n (lv' := [(0, .ref (d0 0)), (1, .int (zI x1)), (2, .int (zI x2)), (3, .int (zI 0))]) gC d_Mo_turn_26 rfl (by decide) [1, 2, 3, 0] rfl ?_
      refine v_loc (lv' := [(0, .ref (d0 0)), (1, .int (zI x1)), (2, .int (zI x2)), (3, .int (zI 0))]) [0, 1, 2, 3] rfl ?_
      exact h
    · replace h := h.2 hc
      refine v_iconst gC d_Mo_turn_23 ?_
      exact gret _ _ _ _ d_Mo_turn_24 rfl ⟨0, (mkMo 0 (gMo_corners s0) (gMo_px s0) (gMo_py s0) (gMo_pz s0) (gMo_triangles s0) (gMo_named s0) (gMo_joined s0) (gMo_dropped s0) (gMo_closed s0) (gMo_layers s0) (gMo_thickness s0) (gMo_cuts s0) (gMo_cx s0) (gMo_cy s0) (gMo_cz s0) (gMo_solids s0) (gMo_shell s0) (gMo_skin s0) (gMo_period s0) (gMo_reach s0) (gMo_gap s0) (gMo_bytes s0) (gMo_played s0) (gMo_at s0) (gMo_program s0) (gMo_beads s0) (gMo_ring s0)), rfl, rfl, h⟩
