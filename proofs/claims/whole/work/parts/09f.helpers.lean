set_option maxRecDepth 20000 in
theorem mw_525 : Cond.classLink R_law 13 R_Nse ∈ kw := kw_in (List.mem_append_right _ (List.mem_of_getElem? (i := 525) rfl)) (by decide +kernel)
theorem d_law_cut_0 : decode b_law_cut 0 = .ok (.aload 5, 2) := by decide +kernel
theorem d_law_cut_2 : decode b_law_cut 2 = .ok (.iconst 0, 1) := by decide +kernel
theorem d_law_cut_3 : decode b_law_cut 3 = .ok (.aload_n 0, 1) := by decide +kernel
theorem d_law_cut_4 : decode b_law_cut 4 = .ok (.iload_n 1, 1) := by decide +kernel
theorem d_law_cut_5 : decode b_law_cut 5 = .ok (.iload_n 2, 1) := by decide +kernel
theorem d_law_cut_6 : decode b_law_cut 6 = .ok (.iload_n 3, 1) := by decide +kernel
theorem d_law_cut_7 : decode b_law_cut 7 = .ok (.iload 4, 2) := by decide +kernel
theorem d_law_cut_9 : decode b_law_cut 9 = .ok (.invokevirtual 7, 3) := by decide +kernel
theorem d_law_cut_12 : decode b_law_cut 12 = .ok (.i2l, 1) := by decide +kernel
theorem d_law_cut_13 : decode b_law_cut 13 = .ok (.lastore, 1) := by decide +kernel
theorem d_law_cut_14 : decode b_law_cut 14 = .ok (.goto 7, 3) := by decide +kernel
theorem d_law_cut_17 : decode b_law_cut 17 = .ok (.astore 6, 2) := by decide +kernel
theorem d_law_cut_19 : decode b_law_cut 19 = .ok (.iconst 1, 1) := by decide +kernel
theorem d_law_cut_20 : decode b_law_cut 20 = .ok (.ireturn, 1) := by decide +kernel
theorem d_law_cut_21 : decode b_law_cut 21 = .ok (.iconst 0, 1) := by decide +kernel
theorem d_law_cut_22 : decode b_law_cut 22 = .ok (.ireturn, 1) := by decide +kernel

-- it returns: 0
set_option maxHeartbeats 4000000 in
set_option maxRecDepth 100000 in
theorem kr_law_cut (l : Launch) (D : va_G) (K : Nat → ClassId) (d0 : Nat → Nat) (oa : Nat) (f : Nat → Int64) (x1 : Int) (x2 : Int) (x3 : Int) (x4 : Int) (s0 : s_LS) (Q : Int → s_LS → Prop) (h : wp_LS_cut x1 x2 x3 x4 s0 (fun r u => rg r ∧ Q r u)) : Kw l D K y_law_cut b_law_cut 7 (some .int) [(0, 14, 17, 13)] 7 112 [.ref (d0 0), .int (zI x1), .int (zI x2), .int (zI x3), .int (zI x4), .ref oa] (w_LS K d0 s0 ++ [(oa, .inl (K 2, 1, .inr (.inl f)))]) (fun v w1 => ∃ (r : Int) (u : s_LS), v = some (.int (zI 0)) ∧ w1 = (w_LS K d0 u ++ [(oa, .inl (K 2, 1, .inr (.inl (vp_updL f 0 (lI r)))))]) ∧ Q r u) := by
  refine Kw.ofI (by decide +kernel) (Nat.le_of_ble_eq_true rfl) (lv0 := [(0, .ref (d0 0)), (1, .int (zI x1)), (2, .int (zI x2)), (3, .int (zI x3)), (4, .int (zI x4)), (5, .ref oa)]) rfl ?_
  intro gp ge gR gs gm ga gb gh gc gA gQ gRf gRc gRs gRl gC gT gns ghh gret
  refine v_aload gC d_law_cut_0 5 rfl ?_
  refine v_iconst gC d_law_cut_2 ?_
  refine v_aload_n gC d_law_cut_3 rfl 0 rfl ?_
  refine v_iload_n gC d_law_cut_4 rfl 1 rfl ?_
  refine v_iload_n gC d_law_cut_5 rfl 2 rfl ?_
  refine v_iload_n gC d_law_cut_6 rfl 3 rfl ?_
  refine v_iload gC d_law_cut_7 4 rfl ?_
  refine v_callV (rest := [.int (zI 0), .ref oa]) gC (k_LS_cut l D K d0 x1 x2 x3 x4 s0 _ h) wV_law_7 rfl ⟨by omega, by omega, Nat.zero_le _, Nat.zero_le _⟩ 0 rfl rfl [0, 1, 2, 3, 4, 5, 6, 7, 8, 9, 10, 11, 12, 13, 14, 15, 16, 17, 18, 19, 20, 21, 22, 23, 24, 25, 26, 27, 28, 29, 30, 31, 32, 33, 34] [35] rfl (by decide) rfl (by decide) (by decide) rfl (Nat.le_of_ble_eq_true rfl) d_law_cut_9 (fun v w1 hp => ?_)
  obtain ⟨r, u, rfl, rfl, hr, hq⟩ := hp
  refine v_after (ws' := (w_LS K d0 u ++ [(oa, .inl (K 2, 1, .inr (.inl f)))])) (st' := [.int (zI r), .int (zI 0), .ref oa]) [1, 2, 3, 4, 5, 6, 7, 8, 9, 10, 11, 12, 13, 14, 15, 16, 17, 18, 19, 20, 21, 22, 23, 24, 25, 26, 27, 28, 29, 30, 31, 32, 33, 34, 35, 0] (by decide) rfl rfl ?_
  refine v_i2l gC d_law_cut_12 hr ?_
  refine v_last (ws' := (w_LS K d0 u ++ [(oa, .inl (K 2, 1, .inr (.inl (vp_updL f 0 (lI r)))))])) gC 35 rfl rfl d_law_cut_13 ?_
  refine v_goto (tgt := 21) gC d_law_cut_14 (by decide) ?_
  refine v_iconst gC d_law_cut_21 ?_
  refine v_widen (k' := 1) (n' := 6) (by omega) (by omega) ?_
  exact gret _ _ _ _ d_law_cut_22 ⟨r, u, rfl, rfl, hq⟩
-- what it calls throws: 1
set_option maxHeartbeats 4000000 in
set_option maxRecDepth 100000 in
theorem kt_law_cut (l : Launch) (htr : l.stackTraces = false) (D : va_G) (K : Nat → ClassId) (d0 : Nat → Nat) (oa : Nat) (f : Nat → Int64) (x1 : Int) (x2 : Int) (x3 : Int) (x4 : Int) (s0 : s_LS) (Q : s_LS → Prop) (h : wt_LS_cut x1 x2 x3 x4 s0 Q) : Kw l D K y_law_cut b_law_cut 7 (some .int) [(0, 14, 17, 13)] 7 112 [.ref (d0 0), .int (zI x1), .int (zI x2), .int (zI x3), .int (zI x4), .ref oa] (w_LS K d0 s0 ++ [(oa, .inl (K 2, 1, .inr (.inl f)))]) (fun v w1 => ∃ (u : s_LS), v = some (.int (zI 1)) ∧ w1 = (w_LS K d0 u ++ [(oa, .inl (K 2, 1, .inr (.inl f)))]) ∧ Q u) := by
  refine Kw.ofI (by decide +kernel) (Nat.le_of_ble_eq_true rfl) (lv0 := [(0, .ref (d0 0)), (1, .int (zI x1)), (2, .int (zI x2)), (3, .int (zI x3)), (4, .int (zI x4)), (5, .ref oa)]) rfl ?_
  intro gp ge gR gs gm ga gb gh gc gA gQ gRf gRc gRs gRl gC gT gns ghh gret
  obtain ⟨x0, hx0, e1, e2, e3, e4⟩ := tab_one ghh
  refine v_aload gC d_law_cut_0 5 rfl ?_
  refine v_iconst gC d_law_cut_2 ?_
  refine v_aload_n gC d_law_cut_3 rfl 0 rfl ?_
  refine v_iload_n gC d_law_cut_4 rfl 1 rfl ?_
  refine v_iload_n gC d_law_cut_5 rfl 2 rfl ?_
  refine v_iload_n gC d_law_cut_6 rfl 3 rfl ?_
  refine v_iload gC d_law_cut_7 4 rfl ?_
  refine v_catch (rest := [.int (zI 0), .ref oa]) gC (kx_LS_cut l htr D K d0 x1 x2 x3 x4 s0 Q h) wV_law_7 rfl ⟨by omega, by omega, by omega, by omega⟩ gT gns hx0 (by simp [covers, e1, e2]) (by rw [e4]; decide) (by rw [e4]; exact mw_525) 0 rfl rfl [0, 1, 2, 3, 4, 5, 6, 7, 8, 9, 10, 11, 12, 13, 14, 15, 16, 17, 18, 19, 20, 21, 22, 23, 24, 25, 26, 27, 28, 29, 30, 31, 32, 33, 34] [35] rfl (by decide) rfl (by decide) (by decide) rfl (Nat.le_of_ble_eq_true rfl) d_law_cut_9 (fun x w1 hp => ?_)
  obtain ⟨u, rfl, hq⟩ := hp
  rw [e3]
  refine v_after (ws' := (w_LS K d0 u ++ [(oa, .inl (K 2, 1, .inr (.inl f)))])) (st' := [.ref x]) [1, 2, 3, 4, 5, 6, 7, 8, 9, 10, 11, 12, 13, 14, 15, 16, 17, 18, 19, 20, 21, 22, 23, 24, 25, 26, 27, 28, 29, 30, 31, 32, 33, 34, 35, 0] (by decide) rfl rfl ?_
  refine v_astore (lv' := [(0, .ref (d0 0)), (1, .int (zI x1)), (2, .int (zI x2)), (3, .int (zI x3)), (4, .int (zI x4)), (5, .ref oa)]) gC d_law_cut_17 (by decide) [1, 2, 3, 4, 5, 6] rfl ?_
  refine v_iconst gC d_law_cut_19 ?_
  exact gret _ _ _ _ d_law_cut_20 ⟨u, rfl, rfl, hq⟩
theorem d_law_path_0 : decode b_law_path 0 = .ok (.aload 4, 2) := by decide +kernel
theorem d_law_path_2 : decode b_law_path 2 = .ok (.iconst 0, 1) := by decide +kernel
theorem d_law_path_3 : decode b_law_path 3 = .ok (.aload_n 0, 1) := by decide +kernel
theorem d_law_path_4 : decode b_law_path 4 = .ok (.iload_n 1, 1) := by decide +kernel
theorem d_law_path_5 : decode b_law_path 5 = .ok (.iload_n 2, 1) := by decide +kernel
theorem d_law_path_6 : decode b_law_path 6 = .ok (.iload_n 3, 1) := by decide +kernel
theorem d_law_path_7 : decode b_law_path 7 = .ok (.invokevirtual 15, 3) := by decide +kernel
theorem d_law_path_10 : decode b_law_path 10 = .ok (.i2l, 1) := by decide +kernel
theorem d_law_path_11 : decode b_law_path 11 = .ok (.lastore, 1) := by decide +kernel
theorem d_law_path_12 : decode b_law_path 12 = .ok (.goto 7, 3) := by decide +kernel
theorem d_law_path_15 : decode b_law_path 15 = .ok (.astore 5, 2) := by decide +kernel
theorem d_law_path_17 : decode b_law_path 17 = .ok (.iconst 1, 1) := by decide +kernel
theorem d_law_path_18 : decode b_law_path 18 = .ok (.ireturn, 1) := by decide +kernel
theorem d_law_path_19 : decode b_law_path 19 = .ok (.iconst 0, 1) := by decide +kernel
theorem d_law_path_20 : decode b_law_path 20 = .ok (.ireturn, 1) := by decide +kernel

-- it returns: 0
set_option maxHeartbeats 4000000 in
set_option maxRecDepth 100000 in
theorem kr_law_path (l : Launch) (D : va_G) (K : Nat → ClassId) (d0 : Nat → Nat) (oa : Nat) (f : Nat → Int64) (x1 : Int) (x2 : Int) (x3 : Int) (s0 : s_LS) (Q : Int → s_LS → Prop) (h : wp_LS_path x1 x2 x3 s0 (fun r u => rg r ∧ Q r u)) : Kw l D K y_law_path b_law_path 6 (some .int) [(0, 12, 15, 13)] 7 111 [.ref (d0 0), .int (zI x1), .int (zI x2), .int (zI x3), .ref oa] (w_LS K d0 s0 ++ [(oa, .inl (K 2, 1, .inr (.inl f)))]) (fun v w1 => ∃ (r : Int) (u : s_LS), v = some (.int (zI 0)) ∧ w1 = (w_LS K d0 u ++ [(oa, .inl (K 2, 1, .inr (.inl (vp_updL f 0 (lI r)))))]) ∧ Q r u) := by
  refine Kw.ofI (by decide +kernel) (Nat.le_of_ble_eq_true rfl) (lv0 := [(0, .ref (d0 0)), (1, .int (zI x1)), (2, .int (zI x2)), (3, .int (zI x3)), (4, .ref oa)]) rfl ?_
  intro gp ge gR gs gm ga gb gh gc gA gQ gRf gRc gRs gRl gC gT gns ghh gret
  refine v_aload gC d_law_path_0 4 rfl ?_
  refine v_iconst gC d_law_path_2 ?_
  refine v_aload_n gC d_law_path_3 rfl 0 rfl ?_
  refine v_iload_n gC d_law_path_4 rfl 1 rfl ?_
  refine v_iload_n gC d_law_path_5 rfl 2 rfl ?_
  refine v_iload_n gC d_law_path_6 rfl 3 rfl ?_
  refine v_callV (rest := [.int (zI 0), .ref oa]) gC (k_LS_path l D K d0 x1 x2 x3 s0 _ h) wV_law_15 rfl ⟨by omega, by omega, Nat.zero_le _, Nat.zero_le _⟩ 0 rfl rfl [0, 1, 2, 3, 4, 5, 6, 7, 8, 9, 10, 11, 12, 13, 14, 15, 16, 17, 18, 19, 20, 21, 22, 23, 24, 25, 26, 27, 28, 29, 30, 31, 32, 33, 34] [35] rfl (by decide) rfl (by decide) (by decide) rfl (Nat.le_of_ble_eq_true rfl) d_law_path_7 (fun v w1 hp => ?_)
  obtain ⟨r, u, rfl, rfl, hr, hq⟩ := hp
  refine v_after (ws' := (w_LS K d0 u ++ [(oa, .inl (K 2, 1, .inr (.inl f)))])) (st' := [.int (zI r), .int (zI 0), .ref oa]) [1, 2, 3, 4, 5, 6, 7, 8, 9, 10, 11, 12, 13, 14, 15, 16, 17, 18, 19, 20, 21, 22, 23, 24, 25, 26, 27, 28, 29, 30, 31, 32, 33, 34, 35, 0] (by decide) rfl rfl ?_
  refine v_i2l gC d_law_path_10 hr ?_
  refine v_last (ws' := (w_LS K d0 u ++ [(oa, .inl (K 2, 1, .inr (.inl (vp_updL f 0 (lI r)))))])) gC 35 rfl rfl d_law_path_11 ?_
  refine v_goto (tgt := 19) gC d_law_path_12 (by decide) ?_
  refine v_iconst gC d_law_path_19 ?_
  refine v_widen (k' := 1) (n' := 6) (by omega) (by omega) ?_
  exact gret _ _ _ _ d_law_path_20 ⟨r, u, rfl, rfl, hq⟩
-- what it calls throws: 1
set_option maxHeartbeats 4000000 in
set_option maxRecDepth 100000 in
theorem kt_law_path (l : Launch) (htr : l.stackTraces = false) (D : va_G) (K : Nat → ClassId) (d0 : Nat → Nat) (oa : Nat) (f : Nat → Int64) (x1 : Int) (x2 : Int) (x3 : Int) (s0 : s_LS) (Q : s_LS → Prop) (h : wt_LS_path x1 x2 x3 s0 Q) : Kw l D K y_law_path b_law_path 6 (some .int) [(0, 12, 15, 13)] 7 111 [.ref (d0 0), .int (zI x1), .int (zI x2), .int (zI x3), .ref oa] (w_LS K d0 s0 ++ [(oa, .inl (K 2, 1, .inr (.inl f)))]) (fun v w1 => ∃ (u : s_LS), v = some (.int (zI 1)) ∧ w1 = (w_LS K d0 u ++ [(oa, .inl (K 2, 1, .inr (.inl f)))]) ∧ Q u) := by
  refine Kw.ofI (by decide +kernel) (Nat.le_of_ble_eq_true rfl) (lv0 := [(0, .ref (d0 0)), (1, .int (zI x1)), (2, .int (zI x2)), (3, .int (zI x3)), (4, .ref oa)]) rfl ?_
  intro gp ge gR gs gm ga gb gh gc gA gQ gRf gRc gRs gRl gC gT gns ghh gret
  obtain ⟨x0, hx0, e1, e2, e3, e4⟩ := tab_one ghh
  refine v_aload gC d_law_path_0 4 rfl ?_
  refine v_iconst gC d_law_path_2 ?_
  refine v_aload_n gC d_law_path_3 rfl 0 rfl ?_
  refine v_iload_n gC d_law_path_4 rfl 1 rfl ?_
  refine v_iload_n gC d_law_path_5 rfl 2 rfl ?_
  refine v_iload_n gC d_law_path_6 rfl 3 rfl ?_
  refine v_catch (rest := [.int (zI 0), .ref oa]) gC (kx_LS_path l htr D K d0 x1 x2 x3 s0 Q h) wV_law_15 rfl ⟨by omega, by omega, by omega, by omega⟩ gT gns hx0 (by simp [covers, e1, e2]) (by rw [e4]; decide) (by rw [e4]; exact mw_525) 0 rfl rfl [0, 1, 2, 3, 4, 5, 6, 7, 8, 9, 10, 11, 12, 13, 14, 15, 16, 17, 18, 19, 20, 21, 22, 23, 24, 25, 26, 27, 28, 29, 30, 31, 32, 33, 34] [35] rfl (by decide) rfl (by decide) (by decide) rfl (Nat.le_of_ble_eq_true rfl) d_law_path_7 (fun x w1 hp => ?_)
  obtain ⟨u, rfl, hq⟩ := hp
  rw [e3]
  refine v_after (ws' := (w_LS K d0 u ++ [(oa, .inl (K 2, 1, .inr (.inl f)))])) (st' := [.ref x]) [1, 2, 3, 4, 5, 6, 7, 8, 9, 10, 11, 12, 13, 14, 15, 16, 17, 18, 19, 20, 21, 22, 23, 24, 25, 26, 27, 28, 29, 30, 31, 32, 33, 34, 35, 0] (by decide) rfl rfl ?_
  refine v_astore (lv' := [(0, .ref (d0 0)), (1, .int (zI x1)), (2, .int (zI x2)), (3, .int (zI x3)), (4, .ref oa)]) gC d_law_path_15 (by decide) [1, 2, 3, 4, 5] rfl ?_
  refine v_iconst gC d_law_path_17 ?_
  exact gret _ _ _ _ d_law_path_18 ⟨u, rfl, rfl, hq⟩
