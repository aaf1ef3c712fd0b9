abbrev init_Me : s_Me := mkMe (fun _ => 0) (fun _ => 0) (fun _ => 0) 0 (fun _ => 0) 0
abbrev init_Mn : s_Mn := mkMn 0 0 0 (fun _ => 0) (fun _ => 0) (fun _ => 0) (fun _ => 0) (fun _ => 0)
abbrev init_Sl : s_Sl := mkSl 0 (fun _ => 0) 0 init_Me (fun _ => 0)
abbrev init_So : s_So := mkSo (fun _ => 0) (fun _ => 0) (fun _ => 0) (fun _ => 0) (fun _ => 0) (fun _ => 0) (fun _ => 0) (fun _ => 0) 1 1 2 1 0
abbrev init_Ro : s_Ro := mkRo (fun _ => 0)
abbrev init_Pr : s_Pr := mkPr (fun _ => 0) 0 (fun _ => 0) 0 (-1)
abbrev init_LS : s_LS := mkLS init_Me init_Mn init_Sl init_So init_Ro init_Pr
abbrev init_Mo : s_Mo := mkMo 0 0 (fun _ => 0) (fun _ => 0) (fun _ => 0) 0 (fun _ => 0) 0 0 0 0 0 0 (fun _ => 0) (fun _ => 0) (fun _ => 0) (fun _ => 0) 1 1 2 1 0 0 0 (-1) (fun _ => 0) (fun _ => 0) (fun _ => 0)
set_option maxHeartbeats 4000000 in
set_option maxRecDepth 100000 in
theorem k_Me_init (l : Launch) (D : va_G) (K : Nat → ClassId) (x0 : Nat) : Kn l D K y_Me_init b_Me_init 1 1 4 600 20 [.ref x0] [(x0, .inr (1, [.null, .null, .null, .int (zI 0), .null, .int (zI 0)]))] (fun v w1 => ∃ d : Nat → Nat, d 0 = x0 ∧ v = none ∧ w1 = w_Me K d init_Me) := by
  refine Kn.of (by decide +kernel) rfl (Nat.le_of_ble_eq_true rfl) (lv0 := [(0, .ref x0)]) rfl ?_
  intro gp ge gR gs gm ga gb gh gc gA gQ gRf gRc gRs gRl gin gC gret
  refine v_aload_n gC d_Me_init_0 rfl 0 rfl ?_
  refine v_objInit gC wO_Me_3 ⟨by omega, by omega⟩ (Nat.le_of_ble_eq_true rfl) d_Me_init_1 ?_
  refine v_aload_n gC d_Me_init_4 rfl 0 rfl ?_
  refine v_bipush gC d_Me_init_5 (by decide) ?_
  refine v_newa (at0 := .int) (N := 80) (f := zF (fun _ => 0)) gC 0 ka_int rfl rfl (fun _ => ra_int) (fun _ => rfl) rfl (by decide) (by decide) ⟨by omega, by omega⟩ d_Me_init_7 (fun q7 => ?_)
  refine v_putF (ty := .array .int) (ws' := ([(x0, .inr (1, [.ref (q7), .null, .null, .int (zI 0), .null, .int (zI 0)]))] ++ [(q7, .inl (K 0, 80, .inl (zF (fun _ => 0))))])) gC gin in_Me t_Me ok_Me n_Me 0 rfl rfl 0 (by decide) fl_Me_9 rfl rfl (by decide +kernel) rfl rfl (Nat.le_of_ble_eq_true rfl) rfl d_Me_init_9 ?_
  refine v_aload_n gC d_Me_init_12 rfl 0 rfl ?_
  refine v_bipush gC d_Me_init_13 (by decide) ?_
  refine v_newa (at0 := .int) (N := 80) (f := zF (fun _ => 0)) gC 0 ka_int rfl rfl (fun _ => ra_int) (fun _ => rfl) rfl (by decide) (by decide) ⟨by omega, by omega⟩ d_Me_init_15 (fun q15 => ?_)
  refine v_putF (ty := .array .int) (ws' := ([(x0, .inr (1, [.ref (q7), .ref (q15), .null, .int (zI 0), .null, .int (zI 0)]))] ++ [(q7, .inl (K 0, 80, .inl (zF (fun _ => 0))))] ++ [(q15, .inl (K 0, 80, .inl (zF (fun _ => 0))))])) gC gin in_Me t_Me ok_Me n_Me 0 rfl rfl 1 (by decide) fl_Me_15 rfl rfl (by decide +kernel) rfl rfl (Nat.le_of_ble_eq_true rfl) rfl d_Me_init_17 ?_
  refine v_aload_n gC d_Me_init_20 rfl 0 rfl ?_
  refine v_bipush gC d_Me_init_21 (by decide) ?_
  refine v_newa (at0 := .int) (N := 80) (f := zF (fun _ => 0)) gC 0 ka_int rfl rfl (fun _ => ra_int) (fun _ => rfl) rfl (by decide) (by decide) ⟨by omega, by omega⟩ d_Me_init_23 (fun q23 => ?_)
  refine v_putF (ty := .array .int) (ws' := ([(x0, .inr (1, [.ref (q7), .ref (q15), .ref (q23), .int (zI 0), .null, .int (zI 0)]))] ++ [(q7, .inl (K 0, 80, .inl (zF (fun _ => 0))))] ++ [(q15, .inl (K 0, 80, .inl (zF (fun _ => 0))))] ++ [(q23, .inl (K 0, 80, .inl (zF (fun _ => 0))))])) gC gin in_Me t_Me ok_Me n_Me 0 rfl rfl 2 (by decide) fl_Me_18 rfl rfl (by decide +kernel) rfl rfl (Nat.le_of_ble_eq_true rfl) rfl d_Me_init_25 ?_
  refine v_aload_n gC d_Me_init_28 rfl 0 rfl ?_
  refine v_sipush gC d_Me_init_29 (by decide) ?_
  refine v_newa (at0 := .int) (N := 360) (f := zF (fun _ => 0)) gC 0 ka_int rfl rfl (fun _ => ra_int) (fun _ => rfl) rfl (by decide) (by decide) ⟨by omega, by omega⟩ d_Me_init_32 (fun q32 => ?_)
  refine v_putF (ty := .array .int) (ws' := ([(x0, .inr (1, [.ref (q7), .ref (q15), .ref (q23), .int (zI 0), .ref (q32), .int (zI 0)]))] ++ [(q7, .inl (K 0, 80, .inl (zF (fun _ => 0))))] ++ [(q15, .inl (K 0, 80, .inl (zF (fun _ => 0))))] ++ [(q23, .inl (K 0, 80, .inl (zF (fun _ => 0))))] ++ [(q32, .inl (K 0, 360, .inl (zF (fun _ => 0))))])) gC gin in_Me t_Me ok_Me n_Me 0 rfl rfl 4 (by decide) fl_Me_21 rfl rfl (by decide +kernel) rfl rfl (Nat.le_of_ble_eq_true rfl) rfl d_Me_init_34 ?_
  refine v_ord (ws' := w_Me K (fun i => [x0, q7, q15, q23, q32].getD i 0) init_Me) [0, 1, 2, 3, 4] (by decide) rfl ?_
  exact gret _ _ _ d_Me_init_37 ⟨(fun i => [x0, q7, q15, q23, q32].getD i 0), rfl, rfl, rfl⟩

set_option maxHeartbeats 4000000 in
set_option maxRecDepth 100000 in
theorem k_Mn_init (l : Launch) (D : va_G) (K : Nat → ClassId) (x0 : Nat) : Kn l D K y_Mn_init b_Mn_init 1 1 5 6656 20 [.ref x0] [(x0, .inr (2, [.int (zI 0), .int (zI 0), .int (zI 0), .null, .null, .null, .null, .null]))] (fun v w1 => ∃ d : Nat → Nat, d 0 = x0 ∧ v = none ∧ w1 = w_Mn K d init_Mn) := by
  refine Kn.of (by decide +kernel) rfl (Nat.le_of_ble_eq_true rfl) (lv0 := [(0, .ref x0)]) rfl ?_
  intro gp ge gR gs gm ga gb gh gc gA gQ gRf gRc gRs gRl gin gC gret
  refine v_aload_n gC d_Mn_init_0 rfl 0 rfl ?_
  refine v_objInit gC wO_Mn_3 ⟨by omega, by omega⟩ (Nat.le_of_ble_eq_true rfl) d_Mn_init_1 ?_
  refine v_aload_n gC d_Mn_init_4 rfl 0 rfl ?_
  refine v_bipush gC d_Mn_init_5 (by decide) ?_
  refine v_newa (at0 := .int) (N := 80) (f := zF (fun _ => 0)) gC 0 ka_int rfl rfl (fun _ => ra_int) (fun _ => rfl) rfl (by decide) (by decide) ⟨by omega, by omega⟩ d_Mn_init_7 (fun q7 => ?_)
  refine v_putF (ty := .array .int) (ws' := ([(x0, .inr (2, [.int (zI 0), .int (zI 0), .int (zI 0), .ref (q7), .null, .null, .null, .null]))] ++ [(q7, .inl (K 0, 80, .inl (zF (fun _ => 0))))])) gC gin in_Mn t_Mn ok_Mn n_Mn 0 rfl rfl 3 (by decide) fl_Mn_9 rfl rfl (by decide +kernel) rfl rfl (Nat.le_of_ble_eq_true rfl) rfl d_Mn_init_9 ?_
  refine v_aload_n gC d_Mn_init_12 rfl 0 rfl ?_
  refine v_bipush gC d_Mn_init_13 (by decide) ?_
  refine v_newa (at0 := .boolean) (N := 80) (f := zF (fun _ => 0)) gC 1 ka_boolean rfl rfl (fun _ => ra_bool) (fun _ => rfl) rfl (by decide) (by decide) ⟨by omega, by omega⟩ d_Mn_init_15 (fun q15 => ?_)
  refine v_putF (ty := .array .boolean) (ws' := ([(x0, .inr (2, [.int (zI 0), .int (zI 0), .int (zI 0), .ref (q7), .ref (q15), .null, .null, .null]))] ++ [(q7, .inl (K 0, 80, .inl (zF (fun _ => 0))))] ++ [(q15, .inl (K 1, 80, .inl (zF (fun _ => 0))))])) gC gin in_Mn t_Mn ok_Mn n_Mn 0 rfl rfl 4 (by decide) fl_Mn_15 rfl rfl (by decide +kernel) rfl rfl (Nat.le_of_ble_eq_true rfl) rfl d_Mn_init_17 ?_
  refine v_aload_n gC d_Mn_init_20 rfl 0 rfl ?_
  refine v_sipush gC d_Mn_init_21 (by decide) ?_
  refine v_newa (at0 := .int) (N := 6400) (f := zF (fun _ => 0)) gC 0 ka_int rfl rfl (fun _ => ra_int) (fun _ => rfl) rfl (by decide) (by decide) ⟨by omega, by omega⟩ d_Mn_init_24 (fun q24 => ?_)
  refine v_putF (ty := .array .int) (ws' := ([(x0, .inr (2, [.int (zI 0), .int (zI 0), .int (zI 0), .ref (q7), .ref (q15), .ref (q24), .null, .null]))] ++ [(q7, .inl (K 0, 80, .inl (zF (fun _ => 0))))] ++ [(q15, .inl (K 1, 80, .inl (zF (fun _ => 0))))] ++ [(q24, .inl (K 0, 6400, .inl (zF (fun _ => 0))))])) gC gin in_Mn t_Mn ok_Mn n_Mn 0 rfl rfl 5 (by decide) fl_Mn_19 rfl rfl (by decide +kernel) rfl rfl (Nat.le_of_ble_eq_true rfl) rfl d_Mn_init_26 ?_
  refine v_aload_n gC d_Mn_init_29 rfl 0 rfl ?_
  refine v_bipush gC d_Mn_init_30 (by decide) ?_
  refine v_newa (at0 := .int) (N := 80) (f := zF (fun _ => 0)) gC 0 ka_int rfl rfl (fun _ => ra_int) (fun _ => rfl) rfl (by decide) (by decide) ⟨by omega, by omega⟩ d_Mn_init_32 (fun q32 => ?_)
  refine v_putF (ty := .array .int) (ws' := ([(x0, .inr (2, [.int (zI 0), .int (zI 0), .int (zI 0), .ref (q7), .ref (q15), .ref (q24), .ref (q32), .null]))] ++ [(q7, .inl (K 0, 80, .inl (zF (fun _ => 0))))] ++ [(q15, .inl (K 1, 80, .inl (zF (fun _ => 0))))] ++ [(q24, .inl (K 0, 6400, .inl (zF (fun _ => 0))))] ++ [(q32, .inl (K 0, 80, .inl (zF (fun _ => 0))))])) gC gin in_Mn t_Mn ok_Mn n_Mn 0 rfl rfl 6 (by decide) fl_Mn_22 rfl rfl (by decide +kernel) rfl rfl (Nat.le_of_ble_eq_true rfl) rfl d_Mn_init_34 ?_
  refine v_aload_n gC d_Mn_init_37 rfl 0 rfl ?_
  refine v_bipush gC d_Mn_init_38 (by decide) ?_
  refine v_newa (at0 := .int) (N := 16) (f := zF (fun _ => 0)) gC 0 ka_int rfl rfl (fun _ => ra_int) (fun _ => rfl) rfl (by decide) (by decide) ⟨by omega, by omega⟩ d_Mn_init_40 (fun q40 => ?_)
  refine v_putF (ty := .array .int) (ws' := ([(x0, .inr (2, [.int (zI 0), .int (zI 0), .int (zI 0), .ref (q7), .ref (q15), .ref (q24), .ref (q32), .ref (q40)]))] ++ [(q7, .inl (K 0, 80, .inl (zF (fun _ => 0))))] ++ [(q15, .inl (K 1, 80, .inl (zF (fun _ => 0))))] ++ [(q24, .inl (K 0, 6400, .inl (zF (fun _ => 0))))] ++ [(q32, .inl (K 0, 80, .inl (zF (fun _ => 0))))] ++ [(q40, .inl (K 0, 16, .inl (zF (fun _ => 0))))])) gC gin in_Mn t_Mn ok_Mn n_Mn 0 rfl rfl 7 (by decide) fl_Mn_25 rfl rfl (by decide +kernel) rfl rfl (Nat.le_of_ble_eq_true rfl) rfl d_Mn_init_42 ?_
  refine v_ord (ws' := w_Mn K (fun i => [x0, q7, q15, q24, q32, q40].getD i 0) init_Mn) [0, 1, 2, 3, 4, 5] (by decide) rfl ?_
  exact gret _ _ _ d_Mn_init_45 ⟨(fun i => [x0, q7, q15, q24, q32, q40].getD i 0), rfl, rfl, rfl⟩

set_option maxHeartbeats 4000000 in
set_option maxRecDepth 100000 in
theorem k_Sl_init (l : Launch) (D : va_G) (K : Nat → ClassId) (x0 : Nat) : Kn l D K y_Sl_init b_Sl_init 1 2 7 900 40 [.ref x0] [(x0, .inr (3, [.int (zI 0), .null, .int (zI 0), .null, .null]))] (fun v w1 => ∃ d : Nat → Nat, d 0 = x0 ∧ v = none ∧ w1 = w_Sl K d init_Sl) := by
  refine Kn.of (by decide +kernel) rfl (Nat.le_of_ble_eq_true rfl) (lv0 := [(0, .ref x0)]) rfl ?_
  intro gp ge gR gs gm ga gb gh gc gA gQ gRf gRc gRs gRl gin gC gret
  refine v_aload_n gC d_Sl_init_0 rfl 0 rfl ?_
  refine v_objInit gC wO_Sl_3 ⟨by omega, by omega⟩ (Nat.le_of_ble_eq_true rfl) d_Sl_init_1 ?_
  refine v_aload_n gC d_Sl_init_4 rfl 0 rfl ?_
  refine v_bipush gC d_Sl_init_5 (by decide) ?_
  refine v_newa (at0 := .int) (N := 6) (f := zF (fun _ => 0)) gC 0 ka_int rfl rfl (fun _ => ra_int) (fun _ => rfl) rfl (by decide) (by decide) ⟨by omega, by omega⟩ d_Sl_init_7 (fun q7 => ?_)
  refine v_putF (ty := .array .int) (ws' := ([(x0, .inr (3, [.int (zI 0), .ref (q7), .int (zI 0), .null, .null]))] ++ [(q7, .inl (K 0, 6, .inl (zF (fun _ => 0))))])) gC gin in_Sl t_Sl ok_Sl n_Sl 0 rfl rfl 1 (by decide) fl_Sl_9 rfl rfl (by decide +kernel) rfl rfl (Nat.le_of_ble_eq_true rfl) rfl d_Sl_init_9 ?_
  refine v_aload_n gC d_Sl_init_12 rfl 0 rfl ?_
  refine v_new (ci := 1) (fs := [.null, .null, .null, .int (zI 0), .null, .int (zI 0)]) gC in_Me t_Me ok_Me mw_102 mw_26 mw_2 rfl (by decide +kernel) ⟨by omega, by omega⟩ d_Sl_init_13 (fun q13 => ?_)
  refine v_dup gC d_Sl_init_16 rfl ?_
  refine v_callJ (rest := [.ref q13, .ref x0]) gC (k_Me_init l D K q13) wJ_Sl_17 rfl ⟨by omega, by omega, by omega, by omega⟩ [2] [0, 1] rfl (by decide) rfl (by decide) (by decide) rfl (Nat.le_of_ble_eq_true rfl) d_Sl_init_17 (fun v w1 hp => ?_)
  obtain ⟨d13, rfl, rfl, rfl⟩ := hp
  refine v_after (ws' := ([(x0, .inr (3, [.int (zI 0), .ref (q7), .int (zI 0), .null, .null]))] ++ [(q7, .inl (K 0, 6, .inl (zF (fun _ => 0))))] ++ w_Me K d13 init_Me)) (st' := [.ref (d13 0), .ref (x0)]) [0, 1, 2, 3, 4, 5, 6] (by decide) rfl rfl ?_
  refine v_putF (ty := .object "LayerSlicer$Mesh") (ws' := ([(x0, .inr (3, [.int (zI 0), .ref (q7), .int (zI 0), .ref (d13 0), .null]))] ++ [(q7, .inl (K 0, 6, .inl (zF (fun _ => 0))))] ++ w_Me K d13 init_Me)) gC gin in_Sl t_Sl ok_Sl n_Sl 0 rfl rfl 3 (by decide) fl_Sl_18 rfl rfl (by decide +kernel) rfl rfl (Nat.le_of_ble_eq_true rfl) rfl d_Sl_init_20 ?_
  refine v_aload_n gC d_Sl_init_23 rfl 0 rfl ?_
  refine v_sipush gC d_Sl_init_24 (by decide) ?_
  refine v_newa (at0 := .int) (N := 288) (f := zF (fun _ => 0)) gC 0 ka_int rfl rfl (fun _ => ra_int) (fun _ => rfl) rfl (by decide) (by decide) ⟨by omega, by omega⟩ d_Sl_init_27 (fun q27 => ?_)
  refine v_putF (ty := .array .int) (ws' := ([(x0, .inr (3, [.int (zI 0), .ref (q7), .int (zI 0), .ref (d13 0), .ref (q27)]))] ++ [(q7, .inl (K 0, 6, .inl (zF (fun _ => 0))))] ++ w_Me K d13 init_Me ++ [(q27, .inl (K 0, 288, .inl (zF (fun _ => 0))))])) gC gin in_Sl t_Sl ok_Sl n_Sl 0 rfl rfl 4 (by decide) fl_Sl_22 rfl rfl (by decide +kernel) rfl rfl (Nat.le_of_ble_eq_true rfl) rfl d_Sl_init_29 ?_
  refine v_ord (ws' := w_Sl K (fun i => [x0, q7, q27, d13 0, d13 1, d13 2, d13 3, d13 4].getD i 0) init_Sl) [0, 1, 7, 2, 3, 4, 5, 6] (by decide) rfl ?_
  exact gret _ _ _ d_Sl_init_32 ⟨(fun i => [x0, q7, q27, d13 0, d13 1, d13 2, d13 3, d13 4].getD i 0), rfl, rfl, rfl⟩

set_option maxHeartbeats 4000000 in
set_option maxRecDepth 100000 in
theorem k_So_init (l : Launch) (D : va_G) (K : Nat → ClassId) (x0 : Nat) : Kn l D K y_So_init b_So_init 1 1 9 2311 20 [.ref x0] [(x0, .inr (4, [.null, .null, .int (zI 0), .int (zI 0), .int (zI 0), .int (zI 0), .int (zI 0)]))] (fun v w1 => ∃ d : Nat → Nat, d 0 = x0 ∧ v = none ∧ w1 = w_So K d init_So) := by
  refine Kn.of (by decide +kernel) rfl (Nat.le_of_ble_eq_true rfl) (lv0 := [(0, .ref x0)]) rfl ?_
  intro gp ge gR gs gm ga gb gh gc gA gQ gRf gRc gRs gRl gin gC gret
  refine v_aload_n gC d_So_init_0 rfl 0 rfl ?_
  refine v_objInit gC wO_So_3 ⟨by omega, by omega⟩ (Nat.le_of_ble_eq_true rfl) d_So_init_1 ?_
  refine v_aload_n gC d_So_init_4 rfl 0 rfl ?_
  refine v_bipush gC d_So_init_5 (by decide) ?_
  refine v_sipush gC d_So_init_7 (by decide) ?_
  refine v_multi (N := 7) (M := 288) gC wU_So_9 rfl rfl (by decide) ⟨by omega, by omega⟩ d_So_init_10 (fun q10 => ?_)
  refine v_putF (ty := .array (.array .int)) (ws' := ([(x0, .inr (4, [.ref (q10), .null, .int (zI 0), .int (zI 0), .int (zI 0), .int (zI 0), .int (zI 0)]))] ++ [(q10, .inl (K 3, 7, .inr (.inr (.inr (.inr (fun j => some (q10 + 1 + j)))))))] ++ [(q10 + 1 + 0, .inl (K 0, 288, .inl (zF (fun _ => 0)))), (q10 + 1 + 1, .inl (K 0, 288, .inl (zF (fun _ => 0)))), (q10 + 1 + 2, .inl (K 0, 288, .inl (zF (fun _ => 0)))), (q10 + 1 + 3, .inl (K 0, 288, .inl (zF (fun _ => 0)))), (q10 + 1 + 4, .inl (K 0, 288, .inl (zF (fun _ => 0)))), (q10 + 1 + 5, .inl (K 0, 288, .inl (zF (fun _ => 0)))), (q10 + 1 + 6, .inl (K 0, 288, .inl (zF (fun _ => 0))))])) gC gin in_So t_So ok_So n_So 0 rfl rfl 0 (by decide) fl_So_11 rfl rfl (by decide +kernel) rfl rfl (Nat.le_of_ble_eq_true rfl) rfl d_So_init_14 ?_
  refine v_aload_n gC d_So_init_17 rfl 0 rfl ?_
  refine v_sipush gC d_So_init_18 (by decide) ?_
  refine v_newa (at0 := .int) (N := 288) (f := zF (fun _ => 0)) gC 0 ka_int rfl rfl (fun _ => ra_int) (fun _ => rfl) rfl (by decide) (by decide) ⟨by omega, by omega⟩ d_So_init_21 (fun q21 => ?_)
  refine v_putF (ty := .array .int) (ws' := ([(x0, .inr (4, [.ref (q10), .ref (q21), .int (zI 0), .int (zI 0), .int (zI 0), .int (zI 0), .int (zI 0)]))] ++ [(q10, .inl (K 3, 7, .inr (.inr (.inr (.inr (fun j => some (q10 + 1 + j)))))))] ++ [(q10 + 1 + 0, .inl (K 0, 288, .inl (zF (fun _ => 0)))), (q10 + 1 + 1, .inl (K 0, 288, .inl (zF (fun _ => 0)))), (q10 + 1 + 2, .inl (K 0, 288, .inl (zF (fun _ => 0)))), (q10 + 1 + 3, .inl (K 0, 288, .inl (zF (fun _ => 0)))), (q10 + 1 + 4, .inl (K 0, 288, .inl (zF (fun _ => 0)))), (q10 + 1 + 5, .inl (K 0, 288, .inl (zF (fun _ => 0)))), (q10 + 1 + 6, .inl (K 0, 288, .inl (zF (fun _ => 0))))] ++ [(q21, .inl (K 0, 288, .inl (zF (fun _ => 0))))])) gC gin in_So t_So ok_So n_So 0 rfl rfl 1 (by decide) fl_So_16 rfl rfl (by decide +kernel) rfl rfl (Nat.le_of_ble_eq_true rfl) rfl d_So_init_23 ?_
  refine v_aload_n gC d_So_init_26 rfl 0 rfl ?_
  refine v_iconst gC d_So_init_27 ?_
  refine v_putv (ty := .int) (ws' := ([(x0, .inr (4, [.ref (q10), .ref (q21), .int (zI 1), .int (zI 0), .int (zI 0), .int (zI 0), .int (zI 0)]))] ++ [(q10, .inl (K 3, 7, .inr (.inr (.inr (.inr (fun j => some (q10 + 1 + j)))))))] ++ [(q10 + 1 + 0, .inl (K 0, 288, .inl (zF (fun _ => 0)))), (q10 + 1 + 1, .inl (K 0, 288, .inl (zF (fun _ => 0)))), (q10 + 1 + 2, .inl (K 0, 288, .inl (zF (fun _ => 0)))), (q10 + 1 + 3, .inl (K 0, 288, .inl (zF (fun _ => 0)))), (q10 + 1 + 4, .inl (K 0, 288, .inl (zF (fun _ => 0)))), (q10 + 1 + 5, .inl (K 0, 288, .inl (zF (fun _ => 0)))), (q10 + 1 + 6, .inl (K 0, 288, .inl (zF (fun _ => 0))))] ++ [(q21, .inl (K 0, 288, .inl (zF (fun _ => 0))))])) gC in_So t_So ok_So n_So 0 rfl rfl 2 (by decide) fl_So_20 rfl (by decide +kernel) rfl rfl (Nat.le_of_ble_eq_true rfl) rfl d_So_init_28 ?_
  refine v_aload_n gC d_So_init_31 rfl 0 rfl ?_
  refine v_iconst gC d_So_init_32 ?_
  refine v_putv (ty := .int) (ws' := ([(x0, .inr (4, [.ref (q10), .ref (q21), .int (zI 1), .int (zI 1), .int (zI 0), .int (zI 0), .int (zI 0)]))] ++ [(q10, .inl (K 3, 7, .inr (.inr (.inr (.inr (fun j => some (q10 + 1 + j)))))))] ++ [(q10 + 1 + 0, .inl (K 0, 288, .inl (zF (fun _ => 0)))), (q10 + 1 + 1, .inl (K 0, 288, .inl (zF (fun _ => 0)))), (q10 + 1 + 2, .inl (K 0, 288, .inl (zF (fun _ => 0)))), (q10 + 1 + 3, .inl (K 0, 288, .inl (zF (fun _ => 0)))), (q10 + 1 + 4, .inl (K 0, 288, .inl (zF (fun _ => 0)))), (q10 + 1 + 5, .inl (K 0, 288, .inl (zF (fun _ => 0)))), (q10 + 1 + 6, .inl (K 0, 288, .inl (zF (fun _ => 0))))] ++ [(q21, .inl (K 0, 288, .inl (zF (fun _ => 0))))])) gC in_So t_So ok_So n_So 0 rfl rfl 3 (by decide) fl_So_24 rfl (by decide +kernel) rfl rfl (Nat.le_of_ble_eq_true rfl) rfl d_So_init_33 ?_
  refine v_aload_n gC d_So_init_36 rfl 0 rfl ?_
  refine v_iconst gC d_So_init_37 ?_
  refine v_putv (ty := .int) (ws' := ([(x0, .inr (4, [.ref (q10), .ref (q21), .int (zI 1), .int (zI 1), .int (zI 2), .int (zI 0), .int (zI 0)]))] ++ [(q10, .inl (K 3, 7, .inr (.inr (.inr (.inr (fun j => some (q10 + 1 + j)))))))] ++ [(q10 + 1 + 0, .inl (K 0, 288, .inl (zF (fun _ => 0)))), (q10 + 1 + 1, .inl (K 0, 288, .inl (zF (fun _ => 0)))), (q10 + 1 + 2, .inl (K 0, 288, .inl (zF (fun _ => 0)))), (q10 + 1 + 3, .inl (K 0, 288, .inl (zF (fun _ => 0)))), (q10 + 1 + 4, .inl (K 0, 288, .inl (zF (fun _ => 0)))), (q10 + 1 + 5, .inl (K 0, 288, .inl (zF (fun _ => 0)))), (q10 + 1 + 6, .inl (K 0, 288, .inl (zF (fun _ => 0))))] ++ [(q21, .inl (K 0, 288, .inl (zF (fun _ => 0))))])) gC in_So t_So ok_So n_So 0 rfl rfl 4 (by decide) fl_So_27 rfl (by decide +kernel) rfl rfl (Nat.le_of_ble_eq_true rfl) rfl d_So_init_38 ?_
  refine v_aload_n gC d_So_init_41 rfl 0 rfl ?_
  refine v_iconst gC d_So_init_42 ?_
  refine v_putv (ty := .int) (ws' := ([(x0, .inr (4, [.ref (q10), .ref (q21), .int (zI 1), .int (zI 1), .int (zI 2), .int (zI 1), .int (zI 0)]))] ++ [(q10, .inl (K 3, 7, .inr (.inr (.inr (.inr (fun j => some (q10 + 1 + j)))))))] ++ [(q10 + 1 + 0, .inl (K 0, 288, .inl (zF (fun _ => 0)))), (q10 + 1 + 1, .inl (K 0, 288, .inl (zF (fun _ => 0)))), (q10 + 1 + 2, .inl (K 0, 288, .inl (zF (fun _ => 0)))), (q10 + 1 + 3, .inl (K 0, 288, .inl (zF (fun _ => 0)))), (q10 + 1 + 4, .inl (K 0, 288, .inl (zF (fun _ => 0)))), (q10 + 1 + 5, .inl (K 0, 288, .inl (zF (fun _ => 0)))), (q10 + 1 + 6, .inl (K 0, 288, .inl (zF (fun _ => 0))))] ++ [(q21, .inl (K 0, 288, .inl (zF (fun _ => 0))))])) gC in_So t_So ok_So n_So 0 rfl rfl 5 (by decide) fl_So_30 rfl (by decide +kernel) rfl rfl (Nat.le_of_ble_eq_true rfl) rfl d_So_init_43 ?_
  refine v_aload_n gC d_So_init_46 rfl 0 rfl ?_
  refine v_iconst gC d_So_init_47 ?_
  refine v_putv (ty := .int) (ws' := ([(x0, .inr (4, [.ref (q10), .ref (q21), .int (zI 1), .int (zI 1), .int (zI 2), .int (zI 1), .int (zI 0)]))] ++ [(q10, .inl (K 3, 7, .inr (.inr (.inr (.inr (fun j => some (q10 + 1 + j)))))))] ++ [(q10 + 1 + 0, .inl (K 0, 288, .inl (zF (fun _ => 0)))), (q10 + 1 + 1, .inl (K 0, 288, .inl (zF (fun _ => 0)))), (q10 + 1 + 2, .inl (K 0, 288, .inl (zF (fun _ => 0)))), (q10 + 1 + 3, .inl (K 0, 288, .inl (zF (fun _ => 0)))), (q10 + 1 + 4, .inl (K 0, 288, .inl (zF (fun _ => 0)))), (q10 + 1 + 5, .inl (K 0, 288, .inl (zF (fun _ => 0)))), (q10 + 1 + 6, .inl (K 0, 288, .inl (zF (fun _ => 0))))] ++ [(q21, .inl (K 0, 288, .inl (zF (fun _ => 0))))])) gC in_So t_So ok_So n_So 0 rfl rfl 6 (by decide) fl_So_33 rfl (by decide +kernel) rfl rfl (Nat.le_of_ble_eq_true rfl) rfl d_So_init_48 ?_
  refine v_rows (f2 := fun j => some ((fun i => [x0, q10, q10 + 1 + 0, q10 + 1 + 1, q10 + 1 + 2, q10 + 1 + 3, q10 + 1 + 4, q10 + 1 + 5, q10 + 1 + 6, q21].getD i 0) (j + 2))) 1 rfl rfl ?_
  refine v_ord (ws' := w_So K (fun i => [x0, q10, q10 + 1 + 0, q10 + 1 + 1, q10 + 1 + 2, q10 + 1 + 3, q10 + 1 + 4, q10 + 1 + 5, q10 + 1 + 6, q21].getD i 0) init_So) [0, 1, 2, 3, 4, 5, 6, 7, 8, 9] (by decide) rfl ?_
  exact gret _ _ _ d_So_init_51 ⟨(fun i => [x0, q10, q10 + 1 + 0, q10 + 1 + 1, q10 + 1 + 2, q10 + 1 + 3, q10 + 1 + 4, q10 + 1 + 5, q10 + 1 + 6, q21].getD i 0), rfl, rfl, rfl⟩

set_option maxHeartbeats 4000000 in
set_option maxRecDepth 100000 in
theorem k_Ro_init (l : Launch) (D : va_G) (K : Nat → ClassId) (x0 : Nat) : Kn l D K y_Ro_init b_Ro_init 1 1 1 576 20 [.ref x0] [(x0, .inr (5, [.null]))] (fun v w1 => ∃ d : Nat → Nat, d 0 = x0 ∧ v = none ∧ w1 = w_Ro K d init_Ro) := by
  refine Kn.of (by decide +kernel) rfl (Nat.le_of_ble_eq_true rfl) (lv0 := [(0, .ref x0)]) rfl ?_
  intro gp ge gR gs gm ga gb gh gc gA gQ gRf gRc gRs gRl gin gC gret
  refine v_aload_n gC d_Ro_init_0 rfl 0 rfl ?_
  refine v_objInit gC wO_Ro_3 ⟨by omega, by omega⟩ (Nat.le_of_ble_eq_true rfl) d_Ro_init_1 ?_
  refine v_aload_n gC d_Ro_init_4 rfl 0 rfl ?_
  refine v_sipush gC d_Ro_init_5 (by decide) ?_
  refine v_newa (at0 := .int) (N := 576) (f := zF (fun _ => 0)) gC 0 ka_int rfl rfl (fun _ => ra_int) (fun _ => rfl) rfl (by decide) (by decide) ⟨by omega, by omega⟩ d_Ro_init_8 (fun q8 => ?_)
  refine v_putF (ty := .array .int) (ws' := ([(x0, .inr (5, [.ref (q8)]))] ++ [(q8, .inl (K 0, 576, .inl (zF (fun _ => 0))))])) gC gin in_Ro t_Ro ok_Ro n_Ro 0 rfl rfl 0 (by decide) fl_Ro_9 rfl rfl (by decide +kernel) rfl rfl (Nat.le_of_ble_eq_true rfl) rfl d_Ro_init_10 ?_
  refine v_ord (ws' := w_Ro K (fun i => [x0, q8].getD i 0) init_Ro) [0, 1] (by decide) rfl ?_
  exact gret _ _ _ d_Ro_init_13 ⟨(fun i => [x0, q8].getD i 0), rfl, rfl, rfl⟩

set_option maxHeartbeats 4000000 in
set_option maxRecDepth 100000 in
theorem k_Pr_init (l : Launch) (D : va_G) (K : Nat → ClassId) (x0 : Nat) : Kn l D K y_Pr_init b_Pr_init 1 1 2 20760 20 [.ref x0] [(x0, .inr (6, [.null, .int (zI 0), .null, .int (zI 0), .int (zI 0)]))] (fun v w1 => ∃ d : Nat → Nat, d 0 = x0 ∧ v = none ∧ w1 = w_Pr K d init_Pr) := by
  refine Kn.of (by decide +kernel) rfl (Nat.le_of_ble_eq_true rfl) (lv0 := [(0, .ref x0)]) rfl ?_
  intro gp ge gR gs gm ga gb gh gc gA gQ gRf gRc gRs gRl gin gC gret
  refine v_aload_n gC d_Pr_init_0 rfl 0 rfl ?_
  refine v_objInit gC wO_Pr_3 ⟨by omega, by omega⟩ (Nat.le_of_ble_eq_true rfl) d_Pr_init_1 ?_
  refine v_aload_n gC d_Pr_init_4 rfl 0 rfl ?_
  refine v_sipush gC d_Pr_init_5 (by decide) ?_
  refine v_newa (at0 := .int) (N := 17304) (f := zF (fun _ => 0)) gC 0 ka_int rfl rfl (fun _ => ra_int) (fun _ => rfl) rfl (by decide) (by decide) ⟨by omega, by omega⟩ d_Pr_init_8 (fun q8 => ?_)
  refine v_putF (ty := .array .int) (ws' := ([(x0, .inr (6, [.ref (q8), .int (zI 0), .null, .int (zI 0), .int (zI 0)]))] ++ [(q8, .inl (K 0, 17304, .inl (zF (fun _ => 0))))])) gC gin in_Pr t_Pr ok_Pr n_Pr 0 rfl rfl 0 (by decide) fl_Pr_9 rfl rfl (by decide +kernel) rfl rfl (Nat.le_of_ble_eq_true rfl) rfl d_Pr_init_10 ?_
  refine v_aload_n gC d_Pr_init_13 rfl 0 rfl ?_
  refine v_sipush gC d_Pr_init_14 (by decide) ?_
  refine v_newa (at0 := .int) (N := 3456) (f := zF (fun _ => 0)) gC 0 ka_int rfl rfl (fun _ => ra_int) (fun _ => rfl) rfl (by decide) (by decide) ⟨by omega, by omega⟩ d_Pr_init_17 (fun q17 => ?_)
  refine v_putF (ty := .array .int) (ws' := ([(x0, .inr (6, [.ref (q8), .int (zI 0), .ref (q17), .int (zI 0), .int (zI 0)]))] ++ [(q8, .inl (K 0, 17304, .inl (zF (fun _ => 0))))] ++ [(q17, .inl (K 0, 3456, .inl (zF (fun _ => 0))))])) gC gin in_Pr t_Pr ok_Pr n_Pr 0 rfl rfl 2 (by decide) fl_Pr_15 rfl rfl (by decide +kernel) rfl rfl (Nat.le_of_ble_eq_true rfl) rfl d_Pr_init_19 ?_
  refine v_aload_n gC d_Pr_init_22 rfl 0 rfl ?_
  refine v_iconst gC d_Pr_init_23 ?_
  refine v_putv (ty := .int) (ws' := ([(x0, .inr (6, [.ref (q8), .int (zI 0), .ref (q17), .int (zI 0), .int (zI (-1))]))] ++ [(q8, .inl (K 0, 17304, .inl (zF (fun _ => 0))))] ++ [(q17, .inl (K 0, 3456, .inl (zF (fun _ => 0))))])) gC in_Pr t_Pr ok_Pr n_Pr 0 rfl rfl 4 (by decide) fl_Pr_18 rfl (by decide +kernel) rfl rfl (Nat.le_of_ble_eq_true rfl) rfl d_Pr_init_24 ?_
  refine v_ord (ws' := w_Pr K (fun i => [x0, q8, q17].getD i 0) init_Pr) [0, 1, 2] (by decide) rfl ?_
  exact gret _ _ _ d_Pr_init_27 ⟨(fun i => [x0, q8, q17].getD i 0), rfl, rfl, rfl⟩

set_option maxHeartbeats 4000000 in
set_option maxRecDepth 100000 in
theorem k_LS_init (l : Launch) (D : va_G) (K : Nat → ClassId) (x0 : Nat) : Kn l D K y_LS_init b_LS_init 1 3 34 31835 60 [.ref x0] [(x0, .inr (0, [.null, .null, .null, .null, .null, .null]))] (fun v w1 => ∃ d : Nat → Nat, d 0 = x0 ∧ v = none ∧ w1 = w_LS K d init_LS) := by
  refine Kn.of (by decide +kernel) rfl (Nat.le_of_ble_eq_true rfl) (lv0 := [(0, .ref x0)]) rfl ?_
  intro gp ge gR gs gm ga gb gh gc gA gQ gRf gRc gRs gRl gin gC gret
  refine v_aload_n gC d_LS_init_0 rfl 0 rfl ?_
  refine v_objInit gC wO_LS_3 ⟨by omega, by omega⟩ (Nat.le_of_ble_eq_true rfl) d_LS_init_1 ?_
  refine v_aload_n gC d_LS_init_4 rfl 0 rfl ?_
  refine v_new (ci := 1) (fs := [.null, .null, .null, .int (zI 0), .null, .int (zI 0)]) gC in_Me t_Me ok_Me mw_25 mw_26 mw_2 rfl (by decide +kernel) ⟨by omega, by omega⟩ d_LS_init_5 (fun q5 => ?_)
  refine v_dup gC d_LS_init_8 rfl ?_
  refine v_callJ (rest := [.ref q5, .ref x0]) gC (k_Me_init l D K q5) wJ_LS_11 rfl ⟨by omega, by omega, by omega, by omega⟩ [1] [0] rfl (by decide) rfl (by decide) (by decide) rfl (Nat.le_of_ble_eq_true rfl) d_LS_init_9 (fun v w1 hp => ?_)
  obtain ⟨d5, rfl, rfl, rfl⟩ := hp
  refine v_after (ws' := ([(x0, .inr (0, [.null, .null, .null, .null, .null, .null]))] ++ w_Me K d5 init_Me)) (st' := [.ref (d5 0), .ref (x0)]) [0, 1, 2, 3, 4, 5] (by decide) rfl rfl ?_
  refine v_putF (ty := .object "LayerSlicer$Mesh") (ws' := ([(x0, .inr (0, [.ref (d5 0), .null, .null, .null, .null, .null]))] ++ w_Me K d5 init_Me)) gC gin in_LS t_LS ok_LS n_LS 0 rfl rfl 0 (by decide) fl_LS_12 rfl rfl (by decide +kernel) rfl rfl (Nat.le_of_ble_eq_true rfl) rfl d_LS_init_12 ?_
  refine v_aload_n gC d_LS_init_15 rfl 0 rfl ?_
  refine v_new (ci := 2) (fs := [.int (zI 0), .int (zI 0), .int (zI 0), .null, .null, .null, .null, .null]) gC in_Mn t_Mn ok_Mn mw_61 mw_62 mw_3 rfl (by decide +kernel) ⟨by omega, by omega⟩ d_LS_init_16 (fun q16 => ?_)
  refine v_dup gC d_LS_init_19 rfl ?_
  refine v_callJ (rest := [.ref q16, .ref x0]) gC (k_Mn_init l D K q16) wJ_LS_18 rfl ⟨by omega, by omega, by omega, by omega⟩ [6] [0, 1, 2, 3, 4, 5] rfl (by decide) rfl (by decide) (by decide) rfl (Nat.le_of_ble_eq_true rfl) d_LS_init_20 (fun v w1 hp => ?_)
  obtain ⟨d16, rfl, rfl, rfl⟩ := hp
  refine v_after (ws' := ([(x0, .inr (0, [.ref (d5 0), .null, .null, .null, .null, .null]))] ++ w_Me K d5 init_Me ++ w_Mn K d16 init_Mn)) (st' := [.ref (d16 0), .ref (x0)]) [0, 1, 2, 3, 4, 5, 6, 7, 8, 9, 10, 11] (by decide) rfl rfl ?_
  refine v_putF (ty := .object "LayerSlicer$Mender") (ws' := ([(x0, .inr (0, [.ref (d5 0), .ref (d16 0), .null, .null, .null, .null]))] ++ w_Me K d5 init_Me ++ w_Mn K d16 init_Mn)) gC gin in_LS t_LS ok_LS n_LS 0 rfl rfl 1 (by decide) fl_LS_19 rfl rfl (by decide +kernel) rfl rfl (Nat.le_of_ble_eq_true rfl) rfl d_LS_init_23 ?_
  refine v_aload_n gC d_LS_init_26 rfl 0 rfl ?_
  refine v_new (ci := 3) (fs := [.int (zI 0), .null, .int (zI 0), .null, .null]) gC in_Sl t_Sl ok_Sl mw_96 mw_97 mw_4 rfl (by decide +kernel) ⟨by omega, by omega⟩ d_LS_init_27 (fun q27 => ?_)
  refine v_dup gC d_LS_init_30 rfl ?_
  refine v_callJ (rest := [.ref q27, .ref x0]) gC (k_Sl_init l D K q27) wJ_LS_25 rfl ⟨by omega, by omega, by omega, by omega⟩ [12] [0, 1, 2, 3, 4, 5, 6, 7, 8, 9, 10, 11] rfl (by decide) rfl (by decide) (by decide) rfl (Nat.le_of_ble_eq_true rfl) d_LS_init_31 (fun v w1 hp => ?_)
  obtain ⟨d27, rfl, rfl, rfl⟩ := hp
  refine v_after (ws' := ([(x0, .inr (0, [.ref (d5 0), .ref (d16 0), .null, .null, .null, .null]))] ++ w_Me K d5 init_Me ++ w_Mn K d16 init_Mn ++ w_Sl K d27 init_Sl)) (st' := [.ref (d27 0), .ref (x0)]) [0, 1, 2, 3, 4, 5, 6, 7, 8, 9, 10, 11, 12, 13, 14, 15, 16, 17, 18, 19] (by decide) rfl rfl ?_
  refine v_putF (ty := .object "LayerSlicer$Slices") (ws' := ([(x0, .inr (0, [.ref (d5 0), .ref (d16 0), .ref (d27 0), .null, .null, .null]))] ++ w_Me K d5 init_Me ++ w_Mn K d16 init_Mn ++ w_Sl K d27 init_Sl)) gC gin in_LS t_LS ok_LS n_LS 0 rfl rfl 2 (by decide) fl_LS_26 rfl rfl (by decide +kernel) rfl rfl (Nat.le_of_ble_eq_true rfl) rfl d_LS_init_34 ?_
  refine v_aload_n gC d_LS_init_37 rfl 0 rfl ?_
  refine v_new (ci := 4) (fs := [.null, .null, .int (zI 0), .int (zI 0), .int (zI 0), .int (zI 0), .int (zI 0)]) gC in_So t_So ok_So mw_123 mw_124 mw_5 rfl (by decide +kernel) ⟨by omega, by omega⟩ d_LS_init_38 (fun q38 => ?_)
  refine v_dup gC d_LS_init_41 rfl ?_
  refine v_callJ (rest := [.ref q38, .ref x0]) gC (k_So_init l D K q38) wJ_LS_32 rfl ⟨by omega, by omega, by omega, by omega⟩ [20] [0, 1, 2, 3, 4, 5, 6, 7, 8, 9, 10, 11, 12, 13, 14, 15, 16, 17, 18, 19] rfl (by decide) rfl (by decide) (by decide) rfl (Nat.le_of_ble_eq_true rfl) d_LS_init_42 (fun v w1 hp => ?_)
  obtain ⟨d38, rfl, rfl, rfl⟩ := hp
  refine v_after (ws' := ([(x0, .inr (0, [.ref (d5 0), .ref (d16 0), .ref (d27 0), .null, .null, .null]))] ++ w_Me K d5 init_Me ++ w_Mn K d16 init_Mn ++ w_Sl K d27 init_Sl ++ w_So K d38 init_So)) (st' := [.ref (d38 0), .ref (x0)]) [0, 1, 2, 3, 4, 5, 6, 7, 8, 9, 10, 11, 12, 13, 14, 15, 16, 17, 18, 19, 20, 21, 22, 23, 24, 25, 26, 27, 28, 29] (by decide) rfl rfl ?_
  refine v_putF (ty := .object "LayerSlicer$Sorter") (ws' := ([(x0, .inr (0, [.ref (d5 0), .ref (d16 0), .ref (d27 0), .ref (d38 0), .null, .null]))] ++ w_Me K d5 init_Me ++ w_Mn K d16 init_Mn ++ w_Sl K d27 init_Sl ++ w_So K d38 init_So)) gC gin in_LS t_LS ok_LS n_LS 0 rfl rfl 3 (by decide) fl_LS_33 rfl rfl (by decide +kernel) rfl rfl (Nat.le_of_ble_eq_true rfl) rfl d_LS_init_45 ?_
  refine v_aload_n gC d_LS_init_48 rfl 0 rfl ?_
  refine v_new (ci := 5) (fs := [.null]) gC in_Ro t_Ro ok_Ro mw_155 mw_156 mw_6 rfl (by decide +kernel) ⟨by omega, by omega⟩ d_LS_init_49 (fun q49 => ?_)
  refine v_dup gC d_LS_init_52 rfl ?_
  refine v_callJ (rest := [.ref q49, .ref x0]) gC (k_Ro_init l D K q49) wJ_LS_39 rfl ⟨by omega, by omega, by omega, by omega⟩ [30] [0, 1, 2, 3, 4, 5, 6, 7, 8, 9, 10, 11, 12, 13, 14, 15, 16, 17, 18, 19, 20, 21, 22, 23, 24, 25, 26, 27, 28, 29] rfl (by decide) rfl (by decide) (by decide) rfl (Nat.le_of_ble_eq_true rfl) d_LS_init_53 (fun v w1 hp => ?_)
  obtain ⟨d49, rfl, rfl, rfl⟩ := hp
  refine v_after (ws' := ([(x0, .inr (0, [.ref (d5 0), .ref (d16 0), .ref (d27 0), .ref (d38 0), .null, .null]))] ++ w_Me K d5 init_Me ++ w_Mn K d16 init_Mn ++ w_Sl K d27 init_Sl ++ w_So K d38 init_So ++ w_Ro K d49 init_Ro)) (st' := [.ref (d49 0), .ref (x0)]) [0, 1, 2, 3, 4, 5, 6, 7, 8, 9, 10, 11, 12, 13, 14, 15, 16, 17, 18, 19, 20, 21, 22, 23, 24, 25, 26, 27, 28, 29, 30, 31] (by decide) rfl rfl ?_
  refine v_putF (ty := .object "LayerSlicer$Router") (ws' := ([(x0, .inr (0, [.ref (d5 0), .ref (d16 0), .ref (d27 0), .ref (d38 0), .ref (d49 0), .null]))] ++ w_Me K d5 init_Me ++ w_Mn K d16 init_Mn ++ w_Sl K d27 init_Sl ++ w_So K d38 init_So ++ w_Ro K d49 init_Ro)) gC gin in_LS t_LS ok_LS n_LS 0 rfl rfl 4 (by decide) fl_LS_40 rfl rfl (by decide +kernel) rfl rfl (Nat.le_of_ble_eq_true rfl) rfl d_LS_init_56 ?_
  refine v_aload_n gC d_LS_init_59 rfl 0 rfl ?_
  refine v_new (ci := 6) (fs := [.null, .int (zI 0), .null, .int (zI 0), .int (zI 0)]) gC in_Pr t_Pr ok_Pr mw_167 mw_168 mw_7 rfl (by decide +kernel) ⟨by omega, by omega⟩ d_LS_init_60 (fun q60 => ?_)
  refine v_dup gC d_LS_init_63 rfl ?_
  refine v_callJ (rest := [.ref q60, .ref x0]) gC (k_Pr_init l D K q60) wJ_LS_46 rfl ⟨by omega, by omega, by omega, by omega⟩ [32] [0, 1, 2, 3, 4, 5, 6, 7, 8, 9, 10, 11, 12, 13, 14, 15, 16, 17, 18, 19, 20, 21, 22, 23, 24, 25, 26, 27, 28, 29, 30, 31] rfl (by decide) rfl (by decide) (by decide) rfl (Nat.le_of_ble_eq_true rfl) d_LS_init_64 (fun v w1 hp => ?_)
  obtain ⟨d60, rfl, rfl, rfl⟩ := hp
  refine v_after (ws' := ([(x0, .inr (0, [.ref (d5 0), .ref (d16 0), .ref (d27 0), .ref (d38 0), .ref (d49 0), .null]))] ++ w_Me K d5 init_Me ++ w_Mn K d16 init_Mn ++ w_Sl K d27 init_Sl ++ w_So K d38 init_So ++ w_Ro K d49 init_Ro ++ w_Pr K d60 init_Pr)) (st' := [.ref (d60 0), .ref (x0)]) [0, 1, 2, 3, 4, 5, 6, 7, 8, 9, 10, 11, 12, 13, 14, 15, 16, 17, 18, 19, 20, 21, 22, 23, 24, 25, 26, 27, 28, 29, 30, 31, 32, 33, 34] (by decide) rfl rfl ?_
  refine v_putF (ty := .object "LayerSlicer$Printer") (ws' := ([(x0, .inr (0, [.ref (d5 0), .ref (d16 0), .ref (d27 0), .ref (d38 0), .ref (d49 0), .ref (d60 0)]))] ++ w_Me K d5 init_Me ++ w_Mn K d16 init_Mn ++ w_Sl K d27 init_Sl ++ w_So K d38 init_So ++ w_Ro K d49 init_Ro ++ w_Pr K d60 init_Pr)) gC gin in_LS t_LS ok_LS n_LS 0 rfl rfl 5 (by decide) fl_LS_47 rfl rfl (by decide +kernel) rfl rfl (Nat.le_of_ble_eq_true rfl) rfl d_LS_init_67 ?_
  refine v_rows (f2 := fun j => some ((fun i => [x0, d5 0, d5 1, d5 2, d5 3, d5 4, d16 0, d16 1, d16 2, d16 3, d16 4, d16 5, d27 0, d27 1, d27 2, d27 3, d27 4, d27 5, d27 6, d27 7, d38 0, d38 1, d38 2, d38 3, d38 4, d38 5, d38 6, d38 7, d38 8, d38 9, d49 0, d49 1, d60 0, d60 1, d60 2].getD i 0) (j + 22))) 21 rfl rfl ?_
  refine v_ord (ws' := w_LS K (fun i => [x0, d5 0, d5 1, d5 2, d5 3, d5 4, d16 0, d16 1, d16 2, d16 3, d16 4, d16 5, d27 0, d27 1, d27 2, d27 3, d27 4, d27 5, d27 6, d27 7, d38 0, d38 1, d38 2, d38 3, d38 4, d38 5, d38 6, d38 7, d38 8, d38 9, d49 0, d49 1, d60 0, d60 1, d60 2].getD i 0) init_LS) [0, 1, 2, 3, 4, 5, 6, 7, 8, 9, 10, 11, 12, 13, 14, 15, 16, 17, 18, 19, 20, 21, 22, 23, 24, 25, 26, 27, 28, 29, 30, 31, 32, 33, 34] (by decide) rfl ?_
  exact gret _ _ _ d_LS_init_70 ⟨(fun i => [x0, d5 0, d5 1, d5 2, d5 3, d5 4, d16 0, d16 1, d16 2, d16 3, d16 4, d16 5, d27 0, d27 1, d27 2, d27 3, d27 4, d27 5, d27 6, d27 7, d38 0, d38 1, d38 2, d38 3, d38 4, d38 5, d38 6, d38 7, d38 8, d38 9, d49 0, d49 1, d60 0, d60 1, d60 2].getD i 0), rfl, rfl, rfl⟩

set_option maxHeartbeats 4000000 in
set_option maxRecDepth 100000 in
theorem k_Mo_init (l : Launch) (D : va_G) (K : Nat → ClassId) (x0 : Nat) : Kn l D K y_Mo_init b_Mo_init 1 1 11 26009 20 [.ref x0] [(x0, .inr (7, [.int (zI 0), .int (zI 0), .null, .null, .null, .int (zI 0), .null, .int (zI 0), .int (zI 0), .int (zI 0), .int (zI 0), .int (zI 0), .int (zI 0), .null, .null, .null, .null, .int (zI 0), .int (zI 0), .int (zI 0), .int (zI 0), .int (zI 0), .int (zI 0), .int (zI 0), .int (zI 0), .null, .null, .null]))] (fun v w1 => ∃ d : Nat → Nat, d 0 = x0 ∧ v = none ∧ w1 = w_Mo K d init_Mo) := by
  refine Kn.of (by decide +kernel) rfl (Nat.le_of_ble_eq_true rfl) (lv0 := [(0, .ref x0)]) rfl ?_
  intro gp ge gR gs gm ga gb gh gc gA gQ gRf gRc gRs gRl gin gC gret
  refine v_aload_n gC d_Mo_init_0 rfl 0 rfl ?_
  refine v_objInit gC wO_Mo_1 ⟨by omega, by omega⟩ (Nat.le_of_ble_eq_true rfl) d_Mo_init_1 ?_
  refine v_aload_n gC d_Mo_init_4 rfl 0 rfl ?_
  refine v_bipush gC d_Mo_init_5 (by decide) ?_
  refine v_newa (at0 := .int) (N := 80) (f := zF (fun _ => 0)) gC 0 ka_int rfl rfl (fun _ => ra_int) (fun _ => rfl) rfl (by decide) (by decide) ⟨by omega, by omega⟩ d_Mo_init_7 (fun q7 => ?_)
  refine v_putF (ty := .array .int) (ws' := ([(x0, .inr (7, [.int (zI 0), .int (zI 0), .ref (q7), .null, .null, .int (zI 0), .null, .int (zI 0), .int (zI 0), .int (zI 0), .int (zI 0), .int (zI 0), .int (zI 0), .null, .null, .null, .null, .int (zI 0), .int (zI 0), .int (zI 0), .int (zI 0), .int (zI 0), .int (zI 0), .int (zI 0), .int (zI 0), .null, .null, .null]))] ++ [(q7, .inl (K 0, 80, .inl (zF (fun _ => 0))))])) gC gin in_Mo t_Mo ok_Mo n_Mo 0 rfl rfl 2 (by decide) fl_Mo_7 rfl rfl (by decide +kernel) rfl rfl (Nat.le_of_ble_eq_true rfl) rfl d_Mo_init_9 ?_
  refine v_aload_n gC d_Mo_init_12 rfl 0 rfl ?_
  refine v_bipush gC d_Mo_init_13 (by decide) ?_
  refine v_newa (at0 := .int) (N := 80) (f := zF (fun _ => 0)) gC 0 ka_int rfl rfl (fun _ => ra_int) (fun _ => rfl) rfl (by decide) (by decide) ⟨by omega, by omega⟩ d_Mo_init_15 (fun q15 => ?_)
  refine v_putF (ty := .array .int) (ws' := ([(x0, .inr (7, [.int (zI 0), .int (zI 0), .ref (q7), .ref (q15), .null, .int (zI 0), .null, .int (zI 0), .int (zI 0), .int (zI 0), .int (zI 0), .int (zI 0), .int (zI 0), .null, .null, .null, .null, .int (zI 0), .int (zI 0), .int (zI 0), .int (zI 0), .int (zI 0), .int (zI 0), .int (zI 0), .int (zI 0), .null, .null, .null]))] ++ [(q7, .inl (K 0, 80, .inl (zF (fun _ => 0))))] ++ [(q15, .inl (K 0, 80, .inl (zF (fun _ => 0))))])) gC gin in_Mo t_Mo ok_Mo n_Mo 0 rfl rfl 3 (by decide) fl_Mo_13 rfl rfl (by decide +kernel) rfl rfl (Nat.le_of_ble_eq_true rfl) rfl d_Mo_init_17 ?_
  refine v_aload_n gC d_Mo_init_20 rfl 0 rfl ?_
  refine v_bipush gC d_Mo_init_21 (by decide) ?_
  refine v_newa (at0 := .int) (N := 80) (f := zF (fun _ => 0)) gC 0 ka_int rfl rfl (fun _ => ra_int) (fun _ => rfl) rfl (by decide) (by decide) ⟨by omega, by omega⟩ d_Mo_init_23 (fun q23 => ?_)
  refine v_putF (ty := .array .int) (ws' := ([(x0, .inr (7, [.int (zI 0), .int (zI 0), .ref (q7), .ref (q15), .ref (q23), .int (zI 0), .null, .int (zI 0), .int (zI 0), .int (zI 0), .int (zI 0), .int (zI 0), .int (zI 0), .null, .null, .null, .null, .int (zI 0), .int (zI 0), .int (zI 0), .int (zI 0), .int (zI 0), .int (zI 0), .int (zI 0), .int (zI 0), .null, .null, .null]))] ++ [(q7, .inl (K 0, 80, .inl (zF (fun _ => 0))))] ++ [(q15, .inl (K 0, 80, .inl (zF (fun _ => 0))))] ++ [(q23, .inl (K 0, 80, .inl (zF (fun _ => 0))))])) gC gin in_Mo t_Mo ok_Mo n_Mo 0 rfl rfl 4 (by decide) fl_Mo_16 rfl rfl (by decide +kernel) rfl rfl (Nat.le_of_ble_eq_true rfl) rfl d_Mo_init_25 ?_
  refine v_aload_n gC d_Mo_init_28 rfl 0 rfl ?_
  refine v_sipush gC d_Mo_init_29 (by decide) ?_
  refine v_newa (at0 := .int) (N := 360) (f := zF (fun _ => 0)) gC 0 ka_int rfl rfl (fun _ => ra_int) (fun _ => rfl) rfl (by decide) (by decide) ⟨by omega, by omega⟩ d_Mo_init_32 (fun q32 => ?_)
  refine v_putF (ty := .array .int) (ws' := ([(x0, .inr (7, [.int (zI 0), .int (zI 0), .ref (q7), .ref (q15), .ref (q23), .int (zI 0), .ref (q32), .int (zI 0), .int (zI 0), .int (zI 0), .int (zI 0), .int (zI 0), .int (zI 0), .null, .null, .null, .null, .int (zI 0), .int (zI 0), .int (zI 0), .int (zI 0), .int (zI 0), .int (zI 0), .int (zI 0), .int (zI 0), .null, .null, .null]))] ++ [(q7, .inl (K 0, 80, .inl (zF (fun _ => 0))))] ++ [(q15, .inl (K 0, 80, .inl (zF (fun _ => 0))))] ++ [(q23, .inl (K 0, 80, .inl (zF (fun _ => 0))))] ++ [(q32, .inl (K 0, 360, .inl (zF (fun _ => 0))))])) gC gin in_Mo t_Mo ok_Mo n_Mo 0 rfl rfl 6 (by decide) fl_Mo_19 rfl rfl (by decide +kernel) rfl rfl (Nat.le_of_ble_eq_true rfl) rfl d_Mo_init_34 ?_
  refine v_aload_n gC d_Mo_init_37 rfl 0 rfl ?_
  refine v_sipush gC d_Mo_init_38 (by decide) ?_
  refine v_newa (at0 := .int) (N := 360) (f := zF (fun _ => 0)) gC 0 ka_int rfl rfl (fun _ => ra_int) (fun _ => rfl) rfl (by decide) (by decide) ⟨by omega, by omega⟩ d_Mo_init_41 (fun q41 => ?_)
  refine v_putF (ty := .array .int) (ws' := ([(x0, .inr (7, [.int (zI 0), .int (zI 0), .ref (q7), .ref (q15), .ref (q23), .int (zI 0), .ref (q32), .int (zI 0), .int (zI 0), .int (zI 0), .int (zI 0), .int (zI 0), .int (zI 0), .ref (q41), .null, .null, .null, .int (zI 0), .int (zI 0), .int (zI 0), .int (zI 0), .int (zI 0), .int (zI 0), .int (zI 0), .int (zI 0), .null, .null, .null]))] ++ [(q7, .inl (K 0, 80, .inl (zF (fun _ => 0))))] ++ [(q15, .inl (K 0, 80, .inl (zF (fun _ => 0))))] ++ [(q23, .inl (K 0, 80, .inl (zF (fun _ => 0))))] ++ [(q32, .inl (K 0, 360, .inl (zF (fun _ => 0))))] ++ [(q41, .inl (K 0, 360, .inl (zF (fun _ => 0))))])) gC gin in_Mo t_Mo ok_Mo n_Mo 0 rfl rfl 13 (by decide) fl_Mo_22 rfl rfl (by decide +kernel) rfl rfl (Nat.le_of_ble_eq_true rfl) rfl d_Mo_init_43 ?_
  refine v_aload_n gC d_Mo_init_46 rfl 0 rfl ?_
  refine v_sipush gC d_Mo_init_47 (by decide) ?_
  refine v_newa (at0 := .int) (N := 360) (f := zF (fun _ => 0)) gC 0 ka_int rfl rfl (fun _ => ra_int) (fun _ => rfl) rfl (by decide) (by decide) ⟨by omega, by omega⟩ d_Mo_init_50 (fun q50 => ?_)
  refine v_putF (ty := .array .int) (ws' := ([(x0, .inr (7, [.int (zI 0), .int (zI 0), .ref (q7), .ref (q15), .ref (q23), .int (zI 0), .ref (q32), .int (zI 0), .int (zI 0), .int (zI 0), .int (zI 0), .int (zI 0), .int (zI 0), .ref (q41), .ref (q50), .null, .null, .int (zI 0), .int (zI 0), .int (zI 0), .int (zI 0), .int (zI 0), .int (zI 0), .int (zI 0), .int (zI 0), .null, .null, .null]))] ++ [(q7, .inl (K 0, 80, .inl (zF (fun _ => 0))))] ++ [(q15, .inl (K 0, 80, .inl (zF (fun _ => 0))))] ++ [(q23, .inl (K 0, 80, .inl (zF (fun _ => 0))))] ++ [(q32, .inl (K 0, 360, .inl (zF (fun _ => 0))))] ++ [(q41, .inl (K 0, 360, .inl (zF (fun _ => 0))))] ++ [(q50, .inl (K 0, 360, .inl (zF (fun _ => 0))))])) gC gin in_Mo t_Mo ok_Mo n_Mo 0 rfl rfl 14 (by decide) fl_Mo_25 rfl rfl (by decide +kernel) rfl rfl (Nat.le_of_ble_eq_true rfl) rfl d_Mo_init_52 ?_
  refine v_aload_n gC d_Mo_init_55 rfl 0 rfl ?_
  refine v_sipush gC d_Mo_init_56 (by decide) ?_
  refine v_newa (at0 := .int) (N := 360) (f := zF (fun _ => 0)) gC 0 ka_int rfl rfl (fun _ => ra_int) (fun _ => rfl) rfl (by decide) (by decide) ⟨by omega, by omega⟩ d_Mo_init_59 (fun q59 => ?_)
  refine v_putF (ty := .array .int) (ws' := ([(x0, .inr (7, [.int (zI 0), .int (zI 0), .ref (q7), .ref (q15), .ref (q23), .int (zI 0), .ref (q32), .int (zI 0), .int (zI 0), .int (zI 0), .int (zI 0), .int (zI 0), .int (zI 0), .ref (q41), .ref (q50), .ref (q59), .null, .int (zI 0), .int (zI 0), .int (zI 0), .int (zI 0), .int (zI 0), .int (zI 0), .int (zI 0), .int (zI 0), .null, .null, .null]))] ++ [(q7, .inl (K 0, 80, .inl (zF (fun _ => 0))))] ++ [(q15, .inl (K 0, 80, .inl (zF (fun _ => 0))))] ++ [(q23, .inl (K 0, 80, .inl (zF (fun _ => 0))))] ++ [(q32, .inl (K 0, 360, .inl (zF (fun _ => 0))))] ++ [(q41, .inl (K 0, 360, .inl (zF (fun _ => 0))))] ++ [(q50, .inl (K 0, 360, .inl (zF (fun _ => 0))))] ++ [(q59, .inl (K 0, 360, .inl (zF (fun _ => 0))))])) gC gin in_Mo t_Mo ok_Mo n_Mo 0 rfl rfl 15 (by decide) fl_Mo_28 rfl rfl (by decide +kernel) rfl rfl (Nat.le_of_ble_eq_true rfl) rfl d_Mo_init_61 ?_
  refine v_aload_n gC d_Mo_init_64 rfl 0 rfl ?_
  refine v_sipush gC d_Mo_init_65 (by decide) ?_
  refine v_newa (at0 := .boolean) (N := 3456) (f := zF (fun _ => 0)) gC 1 ka_boolean rfl rfl (fun _ => ra_bool) (fun _ => rfl) rfl (by decide) (by decide) ⟨by omega, by omega⟩ d_Mo_init_68 (fun q68 => ?_)
  refine v_putF (ty := .array .boolean) (ws' := ([(x0, .inr (7, [.int (zI 0), .int (zI 0), .ref (q7), .ref (q15), .ref (q23), .int (zI 0), .ref (q32), .int (zI 0), .int (zI 0), .int (zI 0), .int (zI 0), .int (zI 0), .int (zI 0), .ref (q41), .ref (q50), .ref (q59), .ref (q68), .int (zI 0), .int (zI 0), .int (zI 0), .int (zI 0), .int (zI 0), .int (zI 0), .int (zI 0), .int (zI 0), .null, .null, .null]))] ++ [(q7, .inl (K 0, 80, .inl (zF (fun _ => 0))))] ++ [(q15, .inl (K 0, 80, .inl (zF (fun _ => 0))))] ++ [(q23, .inl (K 0, 80, .inl (zF (fun _ => 0))))] ++ [(q32, .inl (K 0, 360, .inl (zF (fun _ => 0))))] ++ [(q41, .inl (K 0, 360, .inl (zF (fun _ => 0))))] ++ [(q50, .inl (K 0, 360, .inl (zF (fun _ => 0))))] ++ [(q59, .inl (K 0, 360, .inl (zF (fun _ => 0))))] ++ [(q68, .inl (K 1, 3456, .inl (zF (fun _ => 0))))])) gC gin in_Mo t_Mo ok_Mo n_Mo 0 rfl rfl 16 (by decide) fl_Mo_31 rfl rfl (by decide +kernel) rfl rfl (Nat.le_of_ble_eq_true rfl) rfl d_Mo_init_70 ?_
  refine v_aload_n gC d_Mo_init_73 rfl 0 rfl ?_
  refine v_sipush gC d_Mo_init_74 (by decide) ?_
  refine v_newa (at0 := .int) (N := 17400) (f := zF (fun _ => 0)) gC 0 ka_int rfl rfl (fun _ => ra_int) (fun _ => rfl) rfl (by decide) (by decide) ⟨by omega, by omega⟩ d_Mo_init_77 (fun q77 => ?_)
  refine v_putF (ty := .array .int) (ws' := ([(x0, .inr (7, [.int (zI 0), .int (zI 0), .ref (q7), .ref (q15), .ref (q23), .int (zI 0), .ref (q32), .int (zI 0), .int (zI 0), .int (zI 0), .int (zI 0), .int (zI 0), .int (zI 0), .ref (q41), .ref (q50), .ref (q59), .ref (q68), .int (zI 0), .int (zI 0), .int (zI 0), .int (zI 0), .int (zI 0), .int (zI 0), .int (zI 0), .int (zI 0), .ref (q77), .null, .null]))] ++ [(q7, .inl (K 0, 80, .inl (zF (fun _ => 0))))] ++ [(q15, .inl (K 0, 80, .inl (zF (fun _ => 0))))] ++ [(q23, .inl (K 0, 80, .inl (zF (fun _ => 0))))] ++ [(q32, .inl (K 0, 360, .inl (zF (fun _ => 0))))] ++ [(q41, .inl (K 0, 360, .inl (zF (fun _ => 0))))] ++ [(q50, .inl (K 0, 360, .inl (zF (fun _ => 0))))] ++ [(q59, .inl (K 0, 360, .inl (zF (fun _ => 0))))] ++ [(q68, .inl (K 1, 3456, .inl (zF (fun _ => 0))))] ++ [(q77, .inl (K 0, 17400, .inl (zF (fun _ => 0))))])) gC gin in_Mo t_Mo ok_Mo n_Mo 0 rfl rfl 25 (by decide) fl_Mo_35 rfl rfl (by decide +kernel) rfl rfl (Nat.le_of_ble_eq_true rfl) rfl d_Mo_init_79 ?_
  refine v_aload_n gC d_Mo_init_82 rfl 0 rfl ?_
  refine v_sipush gC d_Mo_init_83 (by decide) ?_
  refine v_newa (at0 := .int) (N := 3456) (f := zF (fun _ => 0)) gC 0 ka_int rfl rfl (fun _ => ra_int) (fun _ => rfl) rfl (by decide) (by decide) ⟨by omega, by omega⟩ d_Mo_init_86 (fun q86 => ?_)
  refine v_putF (ty := .array .int) (ws' := ([(x0, .inr (7, [.int (zI 0), .int (zI 0), .ref (q7), .ref (q15), .ref (q23), .int (zI 0), .ref (q32), .int (zI 0), .int (zI 0), .int (zI 0), .int (zI 0), .int (zI 0), .int (zI 0), .ref (q41), .ref (q50), .ref (q59), .ref (q68), .int (zI 0), .int (zI 0), .int (zI 0), .int (zI 0), .int (zI 0), .int (zI 0), .int (zI 0), .int (zI 0), .ref (q77), .ref (q86), .null]))] ++ [(q7, .inl (K 0, 80, .inl (zF (fun _ => 0))))] ++ [(q15, .inl (K 0, 80, .inl (zF (fun _ => 0))))] ++ [(q23, .inl (K 0, 80, .inl (zF (fun _ => 0))))] ++ [(q32, .inl (K 0, 360, .inl (zF (fun _ => 0))))] ++ [(q41, .inl (K 0, 360, .inl (zF (fun _ => 0))))] ++ [(q50, .inl (K 0, 360, .inl (zF (fun _ => 0))))] ++ [(q59, .inl (K 0, 360, .inl (zF (fun _ => 0))))] ++ [(q68, .inl (K 1, 3456, .inl (zF (fun _ => 0))))] ++ [(q77, .inl (K 0, 17400, .inl (zF (fun _ => 0))))] ++ [(q86, .inl (K 0, 3456, .inl (zF (fun _ => 0))))])) gC gin in_Mo t_Mo ok_Mo n_Mo 0 rfl rfl 26 (by decide) fl_Mo_38 rfl rfl (by decide +kernel) rfl rfl (Nat.le_of_ble_eq_true rfl) rfl d_Mo_init_88 ?_
  refine v_aload_n gC d_Mo_init_91 rfl 0 rfl ?_
  refine v_bipush gC d_Mo_init_92 (by decide) ?_
  refine v_newa (at0 := .int) (N := 17) (f := zF (fun _ => 0)) gC 0 ka_int rfl rfl (fun _ => ra_int) (fun _ => rfl) rfl (by decide) (by decide) ⟨by omega, by omega⟩ d_Mo_init_94 (fun q94 => ?_)
  refine v_putF (ty := .array .int) (ws' := ([(x0, .inr (7, [.int (zI 0), .int (zI 0), .ref (q7), .ref (q15), .ref (q23), .int (zI 0), .ref (q32), .int (zI 0), .int (zI 0), .int (zI 0), .int (zI 0), .int (zI 0), .int (zI 0), .ref (q41), .ref (q50), .ref (q59), .ref (q68), .int (zI 0), .int (zI 0), .int (zI 0), .int (zI 0), .int (zI 0), .int (zI 0), .int (zI 0), .int (zI 0), .ref (q77), .ref (q86), .ref (q94)]))] ++ [(q7, .inl (K 0, 80, .inl (zF (fun _ => 0))))] ++ [(q15, .inl (K 0, 80, .inl (zF (fun _ => 0))))] ++ [(q23, .inl (K 0, 80, .inl (zF (fun _ => 0))))] ++ [(q32, .inl (K 0, 360, .inl (zF (fun _ => 0))))] ++ [(q41, .inl (K 0, 360, .inl (zF (fun _ => 0))))] ++ [(q50, .inl (K 0, 360, .inl (zF (fun _ => 0))))] ++ [(q59, .inl (K 0, 360, .inl (zF (fun _ => 0))))] ++ [(q68, .inl (K 1, 3456, .inl (zF (fun _ => 0))))] ++ [(q77, .inl (K 0, 17400, .inl (zF (fun _ => 0))))] ++ [(q86, .inl (K 0, 3456, .inl (zF (fun _ => 0))))] ++ [(q94, .inl (K 0, 17, .inl (zF (fun _ => 0))))])) gC gin in_Mo t_Mo ok_Mo n_Mo 0 rfl rfl 27 (by decide) fl_Mo_41 rfl rfl (by decide +kernel) rfl rfl (Nat.le_of_ble_eq_true rfl) rfl d_Mo_init_96 ?_
  refine v_aload_n gC d_Mo_init_99 rfl 0 rfl ?_
  refine v_iconst gC d_Mo_init_100 ?_
  refine v_putv (ty := .int) (ws' := ([(x0, .inr (7, [.int (zI 0), .int (zI 0), .ref (q7), .ref (q15), .ref (q23), .int (zI 0), .ref (q32), .int (zI 0), .int (zI 0), .int (zI 0), .int (zI 0), .int (zI 0), .int (zI 0), .ref (q41), .ref (q50), .ref (q59), .ref (q68), .int (zI 1), .int (zI 0), .int (zI 0), .int (zI 0), .int (zI 0), .int (zI 0), .int (zI 0), .int (zI 0), .ref (q77), .ref (q86), .ref (q94)]))] ++ [(q7, .inl (K 0, 80, .inl (zF (fun _ => 0))))] ++ [(q15, .inl (K 0, 80, .inl (zF (fun _ => 0))))] ++ [(q23, .inl (K 0, 80, .inl (zF (fun _ => 0))))] ++ [(q32, .inl (K 0, 360, .inl (zF (fun _ => 0))))] ++ [(q41, .inl (K 0, 360, .inl (zF (fun _ => 0))))] ++ [(q50, .inl (K 0, 360, .inl (zF (fun _ => 0))))] ++ [(q59, .inl (K 0, 360, .inl (zF (fun _ => 0))))] ++ [(q68, .inl (K 1, 3456, .inl (zF (fun _ => 0))))] ++ [(q77, .inl (K 0, 17400, .inl (zF (fun _ => 0))))] ++ [(q86, .inl (K 0, 3456, .inl (zF (fun _ => 0))))] ++ [(q94, .inl (K 0, 17, .inl (zF (fun _ => 0))))])) gC in_Mo t_Mo ok_Mo n_Mo 0 rfl rfl 17 (by decide) fl_Mo_44 rfl (by decide +kernel) rfl rfl (Nat.le_of_ble_eq_true rfl) rfl d_Mo_init_101 ?_
  refine v_aload_n gC d_Mo_init_104 rfl 0 rfl ?_
  refine v_iconst gC d_Mo_init_105 ?_
  refine v_putv (ty := .int) (ws' := ([(x0, .inr (7, [.int (zI 0), .int (zI 0), .ref (q7), .ref (q15), .ref (q23), .int (zI 0), .ref (q32), .int (zI 0), .int (zI 0), .int (zI 0), .int (zI 0), .int (zI 0), .int (zI 0), .ref (q41), .ref (q50), .ref (q59), .ref (q68), .int (zI 1), .int (zI 1), .int (zI 0), .int (zI 0), .int (zI 0), .int (zI 0), .int (zI 0), .int (zI 0), .ref (q77), .ref (q86), .ref (q94)]))] ++ [(q7, .inl (K 0, 80, .inl (zF (fun _ => 0))))] ++ [(q15, .inl (K 0, 80, .inl (zF (fun _ => 0))))] ++ [(q23, .inl (K 0, 80, .inl (zF (fun _ => 0))))] ++ [(q32, .inl (K 0, 360, .inl (zF (fun _ => 0))))] ++ [(q41, .inl (K 0, 360, .inl (zF (fun _ => 0))))] ++ [(q50, .inl (K 0, 360, .inl (zF (fun _ => 0))))] ++ [(q59, .inl (K 0, 360, .inl (zF (fun _ => 0))))] ++ [(q68, .inl (K 1, 3456, .inl (zF (fun _ => 0))))] ++ [(q77, .inl (K 0, 17400, .inl (zF (fun _ => 0))))] ++ [(q86, .inl (K 0, 3456, .inl (zF (fun _ => 0))))] ++ [(q94, .inl (K 0, 17, .inl (zF (fun _ => 0))))])) gC in_Mo t_Mo ok_Mo n_Mo 0 rfl rfl 18 (by decide) fl_Mo_48 rfl (by decide +kernel) rfl rfl (Nat.le_of_ble_eq_true rfl) rfl d_Mo_init_106 ?_
  refine v_aload_n gC d_Mo_init_109 rfl 0 rfl ?_
  refine v_iconst gC d_Mo_init_110 ?_
  refine v_putv (ty := .int) (ws' := ([(x0, .inr (7, [.int (zI 0), .int (zI 0), .ref (q7), .ref (q15), .ref (q23), .int (zI 0), .ref (q32), .int (zI 0), .int (zI 0), .int (zI 0), .int (zI 0), .int (zI 0), .int (zI 0), .ref (q41), .ref (q50), .ref (q59), .ref (q68), .int (zI 1), .int (zI 1), .int (zI 2), .int (zI 0), .int (zI 0), .int (zI 0), .int (zI 0), .int (zI 0), .ref (q77), .ref (q86), .ref (q94)]))] ++ [(q7, .inl (K 0, 80, .inl (zF (fun _ => 0))))] ++ [(q15, .inl (K 0, 80, .inl (zF (fun _ => 0))))] ++ [(q23, .inl (K 0, 80, .inl (zF (fun _ => 0))))] ++ [(q32, .inl (K 0, 360, .inl (zF (fun _ => 0))))] ++ [(q41, .inl (K 0, 360, .inl (zF (fun _ => 0))))] ++ [(q50, .inl (K 0, 360, .inl (zF (fun _ => 0))))] ++ [(q59, .inl (K 0, 360, .inl (zF (fun _ => 0))))] ++ [(q68, .inl (K 1, 3456, .inl (zF (fun _ => 0))))] ++ [(q77, .inl (K 0, 17400, .inl (zF (fun _ => 0))))] ++ [(q86, .inl (K 0, 3456, .inl (zF (fun _ => 0))))] ++ [(q94, .inl (K 0, 17, .inl (zF (fun _ => 0))))])) gC in_Mo t_Mo ok_Mo n_Mo 0 rfl rfl 19 (by decide) fl_Mo_51 rfl (by decide +kernel) rfl rfl (Nat.le_of_ble_eq_true rfl) rfl d_Mo_init_111 ?_
  refine v_aload_n gC d_Mo_init_114 rfl 0 rfl ?_
  refine v_iconst gC d_Mo_init_115 ?_
  refine v_putv (ty := .int) (ws' := ([(x0, .inr (7, [.int (zI 0), .int (zI 0), .ref (q7), .ref (q15), .ref (q23), .int (zI 0), .ref (q32), .int (zI 0), .int (zI 0), .int (zI 0), .int (zI 0), .int (zI 0), .int (zI 0), .ref (q41), .ref (q50), .ref (q59), .ref (q68), .int (zI 1), .int (zI 1), .int (zI 2), .int (zI 1), .int (zI 0), .int (zI 0), .int (zI 0), .int (zI 0), .ref (q77), .ref (q86), .ref (q94)]))] ++ [(q7, .inl (K 0, 80, .inl (zF (fun _ => 0))))] ++ [(q15, .inl (K 0, 80, .inl (zF (fun _ => 0))))] ++ [(q23, .inl (K 0, 80, .inl (zF (fun _ => 0))))] ++ [(q32, .inl (K 0, 360, .inl (zF (fun _ => 0))))] ++ [(q41, .inl (K 0, 360, .inl (zF (fun _ => 0))))] ++ [(q50, .inl (K 0, 360, .inl (zF (fun _ => 0))))] ++ [(q59, .inl (K 0, 360, .inl (zF (fun _ => 0))))] ++ [(q68, .inl (K 1, 3456, .inl (zF (fun _ => 0))))] ++ [(q77, .inl (K 0, 17400, .inl (zF (fun _ => 0))))] ++ [(q86, .inl (K 0, 3456, .inl (zF (fun _ => 0))))] ++ [(q94, .inl (K 0, 17, .inl (zF (fun _ => 0))))])) gC in_Mo t_Mo ok_Mo n_Mo 0 rfl rfl 20 (by decide) fl_Mo_54 rfl (by decide +kernel) rfl rfl (Nat.le_of_ble_eq_true rfl) rfl d_Mo_init_116 ?_
  refine v_aload_n gC d_Mo_init_119 rfl 0 rfl ?_
  refine v_iconst gC d_Mo_init_120 ?_
  refine v_putv (ty := .int) (ws' := ([(x0, .inr (7, [.int (zI 0), .int (zI 0), .ref (q7), .ref (q15), .ref (q23), .int (zI 0), .ref (q32), .int (zI 0), .int (zI 0), .int (zI 0), .int (zI 0), .int (zI 0), .int (zI 0), .ref (q41), .ref (q50), .ref (q59), .ref (q68), .int (zI 1), .int (zI 1), .int (zI 2), .int (zI 1), .int (zI 0), .int (zI 0), .int (zI 0), .int (zI (-1)), .ref (q77), .ref (q86), .ref (q94)]))] ++ [(q7, .inl (K 0, 80, .inl (zF (fun _ => 0))))] ++ [(q15, .inl (K 0, 80, .inl (zF (fun _ => 0))))] ++ [(q23, .inl (K 0, 80, .inl (zF (fun _ => 0))))] ++ [(q32, .inl (K 0, 360, .inl (zF (fun _ => 0))))] ++ [(q41, .inl (K 0, 360, .inl (zF (fun _ => 0))))] ++ [(q50, .inl (K 0, 360, .inl (zF (fun _ => 0))))] ++ [(q59, .inl (K 0, 360, .inl (zF (fun _ => 0))))] ++ [(q68, .inl (K 1, 3456, .inl (zF (fun _ => 0))))] ++ [(q77, .inl (K 0, 17400, .inl (zF (fun _ => 0))))] ++ [(q86, .inl (K 0, 3456, .inl (zF (fun _ => 0))))] ++ [(q94, .inl (K 0, 17, .inl (zF (fun _ => 0))))])) gC in_Mo t_Mo ok_Mo n_Mo 0 rfl rfl 24 (by decide) fl_Mo_57 rfl (by decide +kernel) rfl rfl (Nat.le_of_ble_eq_true rfl) rfl d_Mo_init_121 ?_
  refine v_ord (ws' := w_Mo K (fun i => [x0, q7, q15, q23, q32, q41, q50, q59, q68, q77, q86, q94].getD i 0) init_Mo) [0, 1, 2, 3, 4, 5, 6, 7, 8, 9, 10, 11] (by decide) rfl ?_
  exact gret _ _ _ d_Mo_init_124 ⟨(fun i => [x0, q7, q15, q23, q32, q41, q50, q59, q68, q77, q86, q94].getD i 0), rfl, rfl, rfl⟩
