set_option maxRecDepth 20000 in
theorem mw_531 : Cond.classLink R_LS 101 R_Nse ∈ kw := kw_in (List.mem_append_right _ (List.mem_of_getElem? (i := 531) rfl)) (by decide +kernel)
set_option maxRecDepth 20000 in
theorem mw_532 : Cond.instantiable R_Nse 6 ∈ kw := kw_in (List.mem_append_right _ (List.mem_of_getElem? (i := 532) rfl)) (by decide +kernel)
set_option maxRecDepth 20000 in
theorem mw_15 : Cond.initialized R_Nse ∈ kw := kw_in (List.mem_append_right _ (List.mem_of_getElem? (i := 15) rfl)) (by decide +kernel)
/-- LayerSlicer.cut(IIII)I, to its throw -/
def wt_LS_cut (x1 : Int) (x2 : Int) (x3 : Int) (x4 : Int) (s0 : s_LS) (Q : s_LS → Prop) : Prop :=
  rg x3 ∧ ((x3 < 0 → (Q s0)) ∧ (0 ≤ x3 → ((1 < x3 → (Q s0)) ∧ (x3 ≤ 1 → (rg x4 ∧ ((x4 < 0 → (Q s0)) ∧ (0 ≤ x4 → ((2 < x4 → (Q s0)) ∧ (x4 ≤ 2 → (wp_Sl_findEnds x1 x2 (gLS_slices s0) (fun r3 u4 => rg r3 ∧ ((r3 ≠ 0 → ((0 ≤ ((3 * x3) + x4) ∧ ((3 * x3) + x4) < 6) ∧ False)) ∧ (r3 = 0 → (Q (mkLS (gLS_mesh s0) (gLS_mender s0) u4 (gLS_sorter s0) (gLS_router s0) (gLS_printer s0))))))))))))))))
set_option maxHeartbeats 4000000 in
set_option maxRecDepth 100000 in
theorem kx_LS_cut (l : Launch) (htr : l.stackTraces = false) (D : va_G) (K : Nat → ClassId) (d0 : Nat → Nat) (x1 : Int) (x2 : Int) (x3 : Int) (x4 : Int) (s0 : s_LS) (Q : s_LS → Prop) (h : wt_LS_cut x1 x2 x3 x4 s0 Q) : KtX l D K y_LS_cut b_LS_cut 5 (some .int) 6 88 [.ref (d0 0), .int (zI x1), .int (zI x2), .int (zI x3), .int (zI x4)] (w_LS K d0 s0) (fun w1 => ∃ (u0 : s_LS), w1 = (w_LS K d0 u0) ∧ Q u0) := by
  refine KtX.of htr (by decide +kernel) rfl (by decide) (by decide) (Nat.le_of_ble_eq_true rfl) (lv0 := [(0, .ref (d0 0)), (1, .int (zI x1)), (2, .int (zI x2)), (3, .int (zI x3)), (4, .int (zI x4))]) rfl mw_531 mw_532 mw_15 ?_
  intro gp ge gR gs gm ga gb gh gc gA gQ gRf gRl gC gthr
  unfold wt_LS_cut at h
  refine v_iload_n gC d_LS_cut_0 rfl 3 rfl ?_
  obtain ⟨hg1, h⟩ := h
  refine v_if_lt (tgt := 32) gC d_LS_cut_1 (by decide) hg1 (fun hc => ?_) (fun hc => ?_)
  · replace h := h.1 hc
    exact gthr _ _ _ d_LS_cut_32 d_LS_cut_35 d_LS_cut_36 d_LS_cut_39 ⟨s0, rfl, h⟩
  · replace h := h.2 hc
    refine v_iload_n gC d_LS_cut_4 rfl 3 rfl ?_
    refine v_iconst gC d_LS_cut_5 ?_
    refine v_icmp_gt (tgt := 32) gC d_LS_cut_6 (by decide) hg1 (by decide) (fun hc => ?_) (fun hc => ?_)
    · replace h := h.1 hc
      exact gthr _ _ _ d_LS_cut_32 d_LS_cut_35 d_LS_cut_36 d_LS_cut_39 ⟨s0, rfl, h⟩
    · replace h := h.2 hc
      refine v_iload gC d_LS_cut_9 4 rfl ?_
      obtain ⟨hg2, h⟩ := h
      refine v_if_lt (tgt := 32) gC d_LS_cut_11 (by decide) hg2 (fun hc => ?_) (fun hc => ?_)
      · replace h := h.1 hc
        exact gthr _ _ _ d_LS_cut_32 d_LS_cut_35 d_LS_cut_36 d_LS_cut_39 ⟨s0, rfl, h⟩
      · replace h := h.2 hc
        refine v_iload gC d_LS_cut_14 4 rfl ?_
        refine v_iconst gC d_LS_cut_16 ?_
        refine v_icmp_gt (tgt := 32) gC d_LS_cut_17 (by decide) hg2 (by decide) (fun hc => ?_) (fun hc => ?_)
        · replace h := h.1 hc
          exact gthr _ _ _ d_LS_cut_32 d_LS_cut_35 d_LS_cut_36 d_LS_cut_39 ⟨s0, rfl, h⟩
        · replace h := h.2 hc
          refine v_aload_n gC d_LS_cut_20 rfl 0 rfl ?_
          refine v_get (v := .ref (d0 12)) gC in_LS 0 rfl rfl 2 (by decide) fl_LS_26 rfl d_LS_cut_21 ?_
          refine v_iload_n gC d_LS_cut_24 rfl 1 rfl ?_
          refine v_iload_n gC d_LS_cut_25 rfl 2 rfl ?_
          refine v_callV (rest := []) gC (k_Sl_findEnds l D K (fun i => d0 (i + 12)) x1 x2 (gLS_slices s0) _ h) wV_LS_97 rfl ⟨by omega, by omega, Nat.zero_le _, Nat.zero_le _⟩ 0 rfl rfl [12, 13, 14, 15, 16, 17, 18, 19] [0, 1, 2, 3, 4, 5, 6, 7, 8, 9, 10, 11, 20, 21, 22, 23, 24, 25, 26, 27, 28, 29, 30, 31, 32, 33, 34] rfl (by decide) rfl (by decide) (by decide) rfl (Nat.le_of_ble_eq_true rfl) d_LS_cut_26 (fun v w1 hp => ?_)
          obtain ⟨r3, u4, rfl, rfl, h⟩ := hp
          refine v_after (ws' := (w_LS K d0 (mkLS (gLS_mesh s0) (gLS_mender s0) u4 (gLS_sorter s0) (gLS_router s0) (gLS_printer s0)))) (st' := [.int (zI r3)]) [0, 1, 2, 3, 4, 5, 6, 7, 8, 9, 10, 11, 27, 28, 29, 30, 31, 32, 33, 34, 12, 13, 14, 15, 16, 17, 18, 19, 20, 21, 22, 23, 24, 25, 26] (by decide) rfl rfl ?_
          obtain ⟨hg5, h⟩ := h
          refine v_if_ne (tgt := 40) gC d_LS_cut_29 (by decide) hg5 (fun hc => ?_) (fun hc => ?_)
          · replace h := h.1 hc
            refine v_aload_n gC d_LS_cut_40 rfl 0 rfl ?_
            refine v_get (v := .ref (d0 12)) gC in_LS 0 rfl rfl 2 (by decide) fl_LS_26 rfl d_LS_cut_41 ?_
            refine v_get (v := .ref (d0 13)) gC in_Sl 12 rfl rfl 1 (by decide) fl_LS_104 rfl d_LS_cut_44 ?_
            refine v_iconst gC d_LS_cut_47 ?_
            refine v_iload_n gC d_LS_cut_48 rfl 3 rfl ?_
            refine v_imul gC d_LS_cut_49 (3 * x3) rfl ?_
            refine v_iload gC d_LS_cut_50 4 rfl ?_
            refine v_iadd gC d_LS_cut_52 ((3 * x3) + x4) rfl ?_
            obtain ⟨hg6, h⟩ := h
            refine v_iald (g := (gSl_ends u4)) gC 13 0 rfl rfl hg6 rfl (by decide) d_LS_cut_53 ?_
            exact h.elim
          · replace h := h.2 hc
            exact gthr _ _ _ d_LS_cut_32 d_LS_cut_35 d_LS_cut_36 d_LS_cut_39 ⟨(mkLS (gLS_mesh s0) (gLS_mender s0) u4 (gLS_sorter s0) (gLS_router s0) (gLS_printer s0)), rfl, h⟩

/-- LayerSlicer.path(III)I, to its throw -/
def wt_LS_path (x1 : Int) (x2 : Int) (x3 : Int) (s0 : s_LS) (Q : s_LS → Prop) : Prop :=
  rg x3 ∧ ((x3 < 0 → (Q s0)) ∧ (0 ≤ x3 → ((3 < x3 → (Q s0)) ∧ (x3 ≤ 3 → (rg x2 ∧ ((x2 < 0 → (Q s0)) ∧ (0 ≤ x2 → (wp_Sl_hasLayer x1 (gLS_slices s0) (fun r3 => rg r3 ∧ ((r3 = 0 → (Q s0)) ∧ (r3 ≠ 0 → (wp_Ro_findRuns x1 (gLS_router s0) (gLS_sorter s0) (fun r5 u6 => rg r5 ∧ ((x2 < r5 → ((0 ≤ ((4 * x2) + x3) ∧ ((4 * x2) + x3) < 576) ∧ False)) ∧ (r5 ≤ x2 → (Q (mkLS (gLS_mesh s0) (gLS_mender s0) (gLS_slices s0) (gLS_sorter s0) u6 (gLS_printer s0))))))))))))))))))
set_option maxHeartbeats 4000000 in
set_option maxRecDepth 100000 in
theorem kx_LS_path (l : Launch) (htr : l.stackTraces = false) (D : va_G) (K : Nat → ClassId) (d0 : Nat → Nat) (x1 : Int) (x2 : Int) (x3 : Int) (s0 : s_LS) (Q : s_LS → Prop) (h : wt_LS_path x1 x2 x3 s0 Q) : KtX l D K y_LS_path b_LS_path 4 (some .int) 6 88 [.ref (d0 0), .int (zI x1), .int (zI x2), .int (zI x3)] (w_LS K d0 s0) (fun w1 => ∃ (u0 : s_LS), w1 = (w_LS K d0 u0) ∧ Q u0) := by
  refine KtX.of htr (by decide +kernel) rfl (by decide) (by decide) (Nat.le_of_ble_eq_true rfl) (lv0 := [(0, .ref (d0 0)), (1, .int (zI x1)), (2, .int (zI x2)), (3, .int (zI x3))]) rfl mw_531 mw_532 mw_15 ?_
  intro gp ge gR gs gm ga gb gh gc gA gQ gRf gRl gC gthr
  unfold wt_LS_path at h
  refine v_iload_n gC d_LS_path_0 rfl 3 rfl ?_
  obtain ⟨hg1, h⟩ := h
  refine v_if_lt (tgt := 40) gC d_LS_path_1 (by decide) hg1 (fun hc => ?_) (fun hc => ?_)
  · replace h := h.1 hc
    exact gthr _ _ _ d_LS_path_40 d_LS_path_43 d_LS_path_44 d_LS_path_47 ⟨s0, rfl, h⟩
  · replace h := h.2 hc
    refine v_iload_n gC d_LS_path_4 rfl 3 rfl ?_
    refine v_iconst gC d_LS_path_5 ?_
    refine v_icmp_gt (tgt := 40) gC d_LS_path_6 (by decide) hg1 (by decide) (fun hc => ?_) (fun hc => ?_)
    · replace h := h.1 hc
      exact gthr _ _ _ d_LS_path_40 d_LS_path_43 d_LS_path_44 d_LS_path_47 ⟨s0, rfl, h⟩
    · replace h := h.2 hc
      refine v_iload_n gC d_LS_path_9 rfl 2 rfl ?_
      obtain ⟨hg2, h⟩ := h
      refine v_if_lt (tgt := 40) gC d_LS_path_10 (by decide) hg2 (fun hc => ?_) (fun hc => ?_)
      · replace h := h.1 hc
        exact gthr _ _ _ d_LS_path_40 d_LS_path_43 d_LS_path_44 d_LS_path_47 ⟨s0, rfl, h⟩
      · replace h := h.2 hc
        refine v_aload_n gC d_LS_path_13 rfl 0 rfl ?_
        refine v_get (v := .ref (d0 12)) gC in_LS 0 rfl rfl 2 (by decide) fl_LS_26 rfl d_LS_path_14 ?_
        refine v_iload_n gC d_LS_path_17 rfl 1 rfl ?_
        refine v_callV (rest := []) gC (k_Sl_hasLayer l D K (fun i => d0 (i + 12)) x1 (gLS_slices s0) _ h) wV_LS_121 rfl ⟨by omega, by omega, Nat.zero_le _, Nat.zero_le _⟩ 0 rfl rfl [12, 13, 14, 15, 16, 17, 18, 19] [0, 1, 2, 3, 4, 5, 6, 7, 8, 9, 10, 11, 20, 21, 22, 23, 24, 25, 26, 27, 28, 29, 30, 31, 32, 33, 34] rfl (by decide) rfl (by decide) (by decide) rfl (Nat.le_of_ble_eq_true rfl) d_LS_path_18 (fun v w1 hp => ?_)
        obtain ⟨r3, rfl, rfl, h⟩ := hp
        refine v_after (ws' := (w_LS K d0 s0)) (st' := [.int (zI r3)]) [0, 1, 2, 3, 4, 5, 6, 7, 8, 9, 10, 11, 27, 28, 29, 30, 31, 32, 33, 34, 12, 13, 14, 15, 16, 17, 18, 19, 20, 21, 22, 23, 24, 25, 26] (by decide) rfl rfl ?_
        obtain ⟨hg4, h⟩ := h
        refine v_if_eq (tgt := 40) gC d_LS_path_21 (by decide) hg4 (fun hc => ?_) (fun hc => ?_)
        · replace h := h.1 hc
          exact gthr _ _ _ d_LS_path_40 d_LS_path_43 d_LS_path_44 d_LS_path_47 ⟨s0, rfl, h⟩
        · replace h := h.2 hc
          refine v_iload_n gC d_LS_path_24 rfl 2 rfl ?_
          refine v_aload_n gC d_LS_path_25 rfl 0 rfl ?_
          refine v_get (v := .ref (d0 30)) gC in_LS 0 rfl rfl 4 (by decide) fl_LS_40 rfl d_LS_path_26 ?_
          refine v_aload_n gC d_LS_path_29 rfl 0 rfl ?_
          refine v_get (v := .ref (d0 20)) gC in_LS 0 rfl rfl 3 (by decide) fl_LS_33 rfl d_LS_path_30 ?_
          refine v_iload_n gC d_LS_path_33 rfl 1 rfl ?_
          refine v_callV (rest := [.int (zI x2)]) gC (k_Ro_findRuns l D K (fun i => d0 (i + 30)) (fun i => d0 (i + 20)) x1 (gLS_router s0) (gLS_sorter s0) _ h) wV_LS_125 rfl ⟨by omega, by omega, Nat.zero_le _, Nat.zero_le _⟩ 0 rfl rfl [30, 31, 20, 21, 22, 23, 24, 25, 26, 27, 28, 29] [0, 1, 2, 3, 4, 5, 6, 7, 8, 9, 10, 11, 12, 13, 14, 15, 16, 17, 18, 19, 32, 33, 34] rfl (by decide) rfl (by decide) (by decide) rfl (Nat.le_of_ble_eq_true rfl) d_LS_path_34 (fun v w1 hp => ?_)
          obtain ⟨r5, u6, rfl, rfl, h⟩ := hp
          refine v_after (ws' := (w_LS K d0 (mkLS (gLS_mesh s0) (gLS_mender s0) (gLS_slices s0) (gLS_sorter s0) u6 (gLS_printer s0)))) (st' := [.int (zI r5), .int (zI x2)]) [0, 1, 2, 3, 4, 5, 6, 7, 8, 9, 10, 11, 12, 13, 14, 15, 16, 17, 18, 19, 25, 26, 27, 28, 29, 30, 31, 32, 33, 34, 23, 24, 20, 21, 22] (by decide) rfl rfl ?_
          obtain ⟨hg7, h⟩ := h
          refine v_icmp_lt (tgt := 48) gC d_LS_path_37 (by decide) hg2 hg7 (fun hc => ?_) (fun hc => ?_)
          · replace h := h.1 hc
            refine v_aload_n gC d_LS_path_48 rfl 0 rfl ?_
            refine v_get (v := .ref (d0 30)) gC in_LS 0 rfl rfl 4 (by decide) fl_LS_40 rfl d_LS_path_49 ?_
            refine v_get (v := .ref (d0 31)) gC in_Ro 30 rfl rfl 0 (by decide) fl_LS_129 rfl d_LS_path_52 ?_
            refine v_iconst gC d_LS_path_55 ?_
            refine v_iload_n gC d_LS_path_56 rfl 2 rfl ?_
            refine v_imul gC d_LS_path_57 (4 * x2) rfl ?_
            refine v_iload_n gC d_LS_path_58 rfl 3 rfl ?_
            refine v_iadd gC d_LS_path_59 ((4 * x2) + x3) rfl ?_
            obtain ⟨hg8, h⟩ := h
            refine v_iald (g := (gRo_runs u6)) gC 31 0 rfl rfl hg8 rfl (by decide) d_LS_path_60 ?_
            exact h.elim
          · replace h := h.2 hc
            exact gthr _ _ _ d_LS_path_40 d_LS_path_43 d_LS_path_44 d_LS_path_47 ⟨(mkLS (gLS_mesh s0) (gLS_mender s0) (gLS_slices s0) (gLS_sorter s0) u6 (gLS_printer s0)), rfl, h⟩
