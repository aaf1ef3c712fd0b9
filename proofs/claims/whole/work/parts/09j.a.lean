set_option maxRecDepth 20000 in
theorem mw_522 : Cond.methodLink R_law 55 y_law_cut ∈ kw := kw_in (List.mem_append_right _ (List.mem_of_getElem? (i := 522) rfl)) (by decide +kernel)
set_option maxRecDepth 20000 in
theorem mw_523 : Cond.static y_law_cut ∈ kw := kw_in (List.mem_append_right _ (List.mem_of_getElem? (i := 523) rfl)) (by decide +kernel)
set_option maxRecDepth 20000 in
theorem mw_0 : Cond.initialized R_law ∈ kw := kw_in (List.mem_append_right _ (List.mem_of_getElem? (i := 0) rfl)) (by decide +kernel)
set_option maxRecDepth 20000 in
theorem wW_law_55 : wW R_law 55 y_law_cut b_law_cut 7 (some .int) [(0, 14, 17, 13)] 6 := ⟨mw_522, mw_523, mw_0, (kw_in (List.mem_append_right _ (List.mem_of_getElem? (i := 524) rfl)) (by decide +kernel)), by decide +kernel, by decide +kernel, by decide +kernel⟩ -- mem_of_getElem?
set_option maxRecDepth 20000 in
theorem mw_592 : Cond.methodLink R_law 81 y_law_path ∈ kw := kw_in (List.mem_append_right _ (List.mem_of_getElem? (i := 592) rfl)) (by decide +kernel)
set_option maxRecDepth 20000 in
theorem mw_593 : Cond.static y_law_path ∈ kw := kw_in (List.mem_append_right _ (List.mem_of_getElem? (i := 593) rfl)) (by decide +kernel)
set_option maxRecDepth 20000 in
theorem wW_law_81 : wW R_law 81 y_law_path b_law_path 6 (some .int) [(0, 12, 15, 13)] 5 := ⟨mw_592, mw_593, mw_0, (kw_in (List.mem_append_right _ (List.mem_of_getElem? (i := 594) rfl)) (by decide +kernel)), by decide +kernel, by decide +kernel, by decide +kernel⟩ -- mem_of_getElem?
/-- one turn of the law: class and reference answer alike, and go on with Q -/
def stepP (a0 a1 a2 a3 a4 a5 : Int) (sx : s_LS) (sm : s_Mo) (Q : s_LS → s_Mo → Prop) : Prop :=
  (iand a0 31 = 0 → wp_LS_corner (a1) (a2) (a3) sx (fun r1 u2 => wp_Mo_corner (a1) (a2) (a3) sm (fun r3 u4 => r1 = r3 ∧ (Q u2 u4)))) ∧
  (iand a0 31 = 1 → wp_LS_tri (a1) (a2) (a3) sx (fun r1 u2 => wp_Mo_tri (a1) (a2) (a3) sm (fun r3 u4 => r1 = r3 ∧ (Q u2 u4)))) ∧
  (iand a0 31 = 2 → wp_LS_mend sx (fun r1 u2 => wp_Mo_mend sm (fun r3 u4 => r1 = r3 ∧ (Q u2 u4)))) ∧
  (iand a0 31 = 3 → wp_LS_mended (a1) sx (fun r1 => wp_Mo_mended (a1) sm (fun r2 u3 => r1 = r2 ∧ (Q sx u3)))) ∧
  (iand a0 31 = 4 → wp_LS_triangle (a1) (a2) sx (fun r1 => wp_Mo_triangle (a1) (a2) sm (fun r2 u3 => r1 = r2 ∧ (Q sx u3)))) ∧
  (iand a0 31 = 5 → wp_LS_turn (a1) (a2) sx (fun r1 u2 => wp_Mo_turn (a1) (a2) sm (fun r3 u4 => r1 = r3 ∧ (Q u2 u4)))) ∧
  (iand a0 31 = 6 → wp_LS_layers (a1) sx (fun r1 u2 => wp_Mo_layers (a1) sm (fun r3 u4 => r1 = r3 ∧ (Q u2 u4)))) ∧
  (iand a0 31 = 7 → (wp_LS_cut (a1) (a2) (a3) (a4) sx (fun r1 u2 => rg r1 ∧ (rg r1 ∧ (wp_Mo_cut (a1) (a2) (a3) (a4) sm (fun r3 u4 => wp_Mo_thrown u4 (fun r5 => r5 = 0 ∧ (r1 = r3 ∧ (Q u2 u4)))))))) ∨ (wt_LS_cut (a1) (a2) (a3) (a4) sx (fun u2 => wp_Mo_cut (a1) (a2) (a3) (a4) sm (fun r6 u7 => wp_Mo_thrown u7 (fun r8 => r8 = 1 ∧ (Q u2 u7)))))) ∧
  (iand a0 31 = 8 → wp_LS_solid (a1) (a2) (a3) sx (fun r1 => wp_Mo_solid (a1) (a2) (a3) sm (fun r2 u3 => r1 = r2 ∧ (Q sx u3)))) ∧
  (iand a0 31 = 9 → wp_LS_settings (a1) (a2) (a3) (a4) (a5) sx (fun r1 u2 => wp_Mo_settings (a1) (a2) (a3) (a4) (a5) sm (fun r3 u4 => r1 = r3 ∧ (Q u2 u4)))) ∧
  (iand a0 31 = 10 → wp_LS_kind (a1) (a2) (a3) sx (fun r1 => wp_Mo_kind (a1) (a2) (a3) sm (fun r2 u3 => r1 = r2 ∧ (Q sx u3)))) ∧
  (iand a0 31 = 11 → wp_LS_paths (a1) sx (fun r1 u2 => wp_Mo_paths (a1) sm (fun r3 u4 => r1 = r3 ∧ (Q u2 u4)))) ∧
  (iand a0 31 = 12 → (wp_LS_path (a1) (a2) (a3) sx (fun r1 u2 => rg r1 ∧ (rg r1 ∧ (wp_Mo_path (a1) (a2) (a3) sm (fun r3 u4 => wp_Mo_thrown u4 (fun r5 => r5 = 0 ∧ (r1 = r3 ∧ (Q u2 u4)))))))) ∨ (wt_LS_path (a1) (a2) (a3) sx (fun u2 => wp_Mo_path (a1) (a2) (a3) sm (fun r6 u7 => wp_Mo_thrown u7 (fun r8 => r8 = 1 ∧ (Q u2 u7)))))) ∧
  (iand a0 31 = 13 → wp_LS_emit sx (fun r1 u2 => wp_Mo_emit sm (fun r3 u4 => r1 = r3 ∧ (Q u2 u4)))) ∧
  (iand a0 31 = 14 → wp_LS_byteOf (a1) sx (fun r1 => wp_Mo_byteOf (a1) sm (fun r2 u3 => r1 = r2 ∧ (Q sx u3)))) ∧
  (iand a0 31 = 15 → wp_LS_play (a1) sx (fun r1 u2 => wp_Mo_play (a1) sm (fun r3 u4 => r1 = r3 ∧ (Q u2 u4)))) ∧
  (iand a0 31 = 16 → wp_LS_laid (a1) (a2) (a3) sx (fun r1 => wp_Mo_laid (a1) (a2) (a3) sm (fun r2 u3 => r1 = r2 ∧ (Q sx u3)))) ∧
  (iand a0 31 = 17 → wp_LS_overhang (a1) sx (fun r1 => wp_Mo_overhang (a1) sm (fun r2 u3 => r1 = r2 ∧ (Q sx u3)))) ∧
  (iand a0 31 = 18 → wp_LS_volume (a1) sx (fun r1 => wp_Mo_volume (a1) sm (fun r2 u3 => r1 = r2 ∧ (Q sx u3)))) ∧
  (iand a0 31 < 0 ∨ 18 < iand a0 31 → Q sx sm)
