set_option maxHeartbeats 4000000 in
set_option maxRecDepth 100000 in
theorem k_Mo_layers (l : Launch) (D : va_G) (K : Nat → ClassId) (d0 : Nat → Nat) (x1 : Int) (s0 : s_Mo) (Q : Int → s_Mo → Prop) (h : wp_Mo_layers x1 s0 Q) : Kt l D K y_Mo_layers b_Mo_layers 6 (some .int) 6 166 [.ref (d0 0), .int (zI x1)] (w_Mo K d0 s0) (fun v w1 => ∃ (r : Int), ∃ (u0 : s_Mo), v = some (.int (zI r)) ∧ w1 = (w_Mo K d0 u0) ∧ Q r u0) := by
  refine Kt.ofI (by decide +kernel) (Nat.le_of_ble_eq_true rfl) (lv0 := [(0, .ref (d0 0)), (1, .int (zI x1))]) rfl ?_
  intro gp ge gR gs gm ga gb gh gc gA gQ gRf gRl gC gret
  unfold wp_Mo_layers at h
  replace h := h
    (fun (v2 : Int) (v3 : Int) (s0 : s_Mo) => V gp l ge gR gs gm ga gb gh gc D gA 6 0 0 gQ (w_Mo K d0 s0) 40 [(0, .ref (d0 0)), (2, .int (zI v2)), (3, .int (zI v3))] [])
    (fun (v2 : Int) (s0 : s_Mo) => V gp l ge gR gs gm ga gb gh gc D gA 6 0 0 gQ (w_Mo K d0 s0) 133 [(0, .ref (d0 0)), (2, .int (zI v2))] [])
    (fun (v3 : Int) (s0 : s_Mo) => V gp l ge gR gs gm ga gb gh gc D gA 6 0 0 gQ (w_Mo K d0 s0) 171 [(0, .ref (d0 0)), (3, .int (zI v3))] [])
    (fun (v3 : Int) (v4 : Int) (s0 : s_Mo) => V gp l ge gR gs gm ga gb gh gc D gA 6 0 0 gQ (w_Mo K d0 s0) 180 [(0, .ref (d0 0)), (3, .int (zI v3)), (4, .int (zI v4))] [])
    (fun (v3 : Int) (v4 : Int) (v5 : Int) (s0 : s_Mo) => V gp l ge gR gs gm ga gb gh gc D gA 6 0 0 gQ (w_Mo K d0 s0) 190 [(0, .ref (d0 0)), (3, .int (zI v3)), (4, .int (zI v4)), (5, .int (zI v5))] [])
    (by
      intro v2 v3 s0 h
      refine v_iload_n gC d_Mo_layers_40 rfl 2 rfl ?_
      refine v_iconst gC d_Mo_layers_41 ?_
      refine v_aload_n gC d_Mo_layers_42 rfl 0 rfl ?_
      refine v_get (v := .int (zI (gMo_triangles s0))) gC in_Mo 0 rfl rfl 5 (by decide) fl_Mo_70 rfl d_Mo_layers_43 ?_
      refine v_imul gC d_Mo_layers_46 (3 * (gMo_triangles s0)) rfl ?_
      obtain ⟨hg5, hg6, h⟩ := h
      refine v_icmp_ge (tgt := 128) gC d_Mo_layers_47 (by decide) hg5 hg6 (fun hc => ?_) (fun hc => ?_)
      · replace h := h.1 hc
        refine v_aload_n gC d_Mo_layers_128 rfl 0 rfl ?_
        refine v_iconst gC d_Mo_layers_129 ?_
        refine v_puti (ws' := (w_Mo K d0 (mkMo (gMo_thrown s0) (gMo_corners s0) (gMo_px s0) (gMo_py s0) (gMo_pz s0) (gMo_triangles s0) (gMo_named s0) (gMo_joined s0) (gMo_dropped s0) (gMo_closed s0) 0 (gMo_thickness s0) (gMo_cuts s0) (gMo_cx s0) (gMo_cy s0) (gMo_cz s0) (gMo_solids s0) (gMo_shell s0) (gMo_skin s0) (gMo_period s0) (gMo_reach s0) (gMo_gap s0) (gMo_bytes s0) (gMo_played s0) (gMo_at s0) (gMo_program s0) (gMo_beads s0) (gMo_ring s0)))) gC in_Mo t_Mo ok_Mo n_Mo 0 rfl rfl 10 (by decide) fl_Mo_116 rfl (by decide +kernel) (Nat.le_of_ble_eq_true rfl) rfl d_Mo_layers_130 ?_
        refine v_loc (lv' := [(0, .ref (d0 0)), (2, .int (zI v2))]) [0, 1] rfl ?_
        exact h
      · replace h := h.2 hc
        refine v_aload_n gC d_Mo_layers_50 rfl 0 rfl ?_
        refine v_get (v := .ref (d0 5)) gC in_Mo 0 rfl rfl 13 (by decide) fl_Mo_22 rfl d_Mo_layers_51 ?_
        refine v_iload_n gC d_Mo_layers_54 rfl 2 rfl ?_
        refine v_aload_n gC d_Mo_layers_55 rfl 0 rfl ?_
        refine v_get (v := .ref (d0 1)) gC in_Mo 0 rfl rfl 2 (by decide) fl_Mo_7 rfl d_Mo_layers_56 ?_
        refine v_aload_n gC d_Mo_layers_59 rfl 0 rfl ?_
        refine v_get (v := .ref (d0 4)) gC in_Mo 0 rfl rfl 6 (by decide) fl_Mo_19 rfl d_Mo_layers_60 ?_
        refine v_iload_n gC d_Mo_layers_63 rfl 2 rfl ?_
        obtain ⟨hg7, h⟩ := h
        refine v_iald (g := (gMo_named s0)) gC 4 0 rfl rfl hg7 rfl (by decide) d_Mo_layers_64 ?_
        obtain ⟨hg8, h⟩ := h
        refine v_iald (g := (gMo_px s0)) gC 1 0 rfl rfl hg8 rfl (by decide) d_Mo_layers_65 ?_
        refine v_iast (g := (gMo_cx s0)) (ws' := (w_Mo K d0 (mkMo (gMo_thrown s0) (gMo_corners s0) (gMo_px s0) (gMo_py s0) (gMo_pz s0) (gMo_triangles s0) (gMo_named s0) (gMo_joined s0) (gMo_dropped s0) (gMo_closed s0) (gMo_layers s0) (gMo_thickness s0) (gMo_cuts s0) (iset (gMo_cx s0) v3 ((gMo_px s0) ((gMo_named s0) v3))) (gMo_cy s0) (gMo_cz s0) (gMo_solids s0) (gMo_shell s0) (gMo_skin s0) (gMo_period s0) (gMo_reach s0) (gMo_gap s0) (gMo_bytes s0) (gMo_played s0) (gMo_at s0) (gMo_program s0) (gMo_beads s0) (gMo_ring s0)))) gC 5 0 rfl rfl hg7 rfl (by decide) rfl d_Mo_layers_66 ?_
        refine v_aload_n gC d_Mo_layers_67 rfl 0 rfl ?_
        refine v_get (v := .ref (d0 6)) gC in_Mo 0 rfl rfl 14 (by decide) fl_Mo_25 rfl d_Mo_layers_68 ?_
        refine v_iload_n gC d_Mo_layers_71 rfl 2 rfl ?_
        refine v_aload_n gC d_Mo_layers_72 rfl 0 rfl ?_
        refine v_get (v := .ref (d0 2)) gC in_Mo 0 rfl rfl 3 (by decide) fl_Mo_13 rfl d_Mo_layers_73 ?_
        refine v_aload_n gC d_Mo_layers_76 rfl 0 rfl ?_
        refine v_get (v := .ref (d0 4)) gC in_Mo 0 rfl rfl 6 (by decide) fl_Mo_19 rfl d_Mo_layers_77 ?_
        refine v_iload_n gC d_Mo_layers_80 rfl 2 rfl ?_
        refine v_iald (g := (gMo_named s0)) gC 4 0 rfl rfl hg7 rfl (by decide) d_Mo_layers_81 ?_
        refine v_iald (g := (gMo_py s0)) gC 2 0 rfl rfl hg8 rfl (by decide) d_Mo_layers_82 ?_
        refine v_iast (g := (gMo_cy s0)) (ws' := (w_Mo K d0 (mkMo (gMo_thrown s0) (gMo_corners s0) (gMo_px s0) (gMo_py s0) (gMo_pz s0) (gMo_triangles s0) (gMo_named s0) (gMo_joined s0) (gMo_dropped s0) (gMo_closed s0) (gMo_layers s0) (gMo_thickness s0) (gMo_cuts s0) (iset (gMo_cx s0) v3 ((gMo_px s0) ((gMo_named s0) v3))) (iset (gMo_cy s0) v3 ((gMo_py s0) ((gMo_named s0) v3))) (gMo_cz s0) (gMo_solids s0) (gMo_shell s0) (gMo_skin s0) (gMo_period s0) (gMo_reach s0) (gMo_gap s0) (gMo_bytes s0) (gMo_played s0) (gMo_at s0) (gMo_program s0) (gMo_beads s0) (gMo_ring s0)))) gC 6 0 rfl rfl hg7 rfl (by decide) rfl d_Mo_layers_83 ?_
        refine v_aload_n gC d_Mo_layers_84 rfl 0 rfl ?_
        refine v_get (v := .ref (d0 7)) gC in_Mo 0 rfl rfl 15 (by decide) fl_Mo_28 rfl d_Mo_layers_85 ?_
        refine v_iload_n gC d_Mo_layers_88 rfl 2 rfl ?_
        refine v_aload_n gC d_Mo_layers_89 rfl 0 rfl ?_
        refine v_get (v := .ref (d0 3)) gC in_Mo 0 rfl rfl 4 (by decide) fl_Mo_16 rfl d_Mo_layers_90 ?_
        refine v_aload_n gC d_Mo_layers_93 rfl 0 rfl ?_
        refine v_get (v := .ref (d0 4)) gC in_Mo 0 rfl rfl 6 (by decide) fl_Mo_19 rfl d_Mo_layers_94 ?_
        refine v_iload_n gC d_Mo_layers_97 rfl 2 rfl ?_
        refine v_iald (g := (gMo_named s0)) gC 4 0 rfl rfl hg7 rfl (by decide) d_Mo_layers_98 ?_
        refine v_iald (g := (gMo_pz s0)) gC 3 0 rfl rfl hg8 rfl (by decide) d_Mo_layers_99 ?_
        refine v_iast (g := (gMo_cz s0)) (ws' := (w_Mo K d0 (mkMo (gMo_thrown s0) (gMo_corners s0) (gMo_px s0) (gMo_py s0) (gMo_pz s0) (gMo_triangles s0) (gMo_named s0) (gMo_joined s0) (gMo_dropped s0) (gMo_closed s0) (gMo_layers s0) (gMo_thickness s0) (gMo_cuts s0) (iset (gMo_cx s0) v3 ((gMo_px s0) ((gMo_named s0) v3))) (iset (gMo_cy s0) v3 ((gMo_py s0) ((gMo_named s0) v3))) (iset (gMo_cz s0) v3 ((gMo_pz s0) ((gMo_named s0) v3))) (gMo_solids s0) (gMo_shell s0) (gMo_skin s0) (gMo_period s0) (gMo_reach s0) (gMo_gap s0) (gMo_bytes s0) (gMo_played s0) (gMo_at s0) (gMo_program s0) (gMo_beads s0) (gMo_ring s0)))) gC 7 0 rfl rfl hg7 rfl (by decide) rfl d_Mo_layers_100 ?_
        refine v_aload_n gC d_Mo_layers_101 rfl 0 rfl ?_
        refine v_get (v := .ref (d0 7)) gC in_Mo 0 rfl rfl 15 (by decide) fl_Mo_28 rfl d_Mo_layers_102 ?_
        refine v_iload_n gC d_Mo_layers_105 rfl 2 rfl ?_
        refine v_iald (g := (iset (gMo_cz s0) v3 ((gMo_pz s0) ((gMo_named s0) v3)))) gC 7 0 rfl rfl hg7 rfl (by decide) d_Mo_layers_106 ?_
        refine v_iload_n gC d_Mo_layers_107 rfl 1 rfl ?_
        obtain ⟨hg9, hg10, h⟩ := h
        refine v_icmp_le (tgt := 120) gC d_Mo_layers_108 (by decide) hg9 hg10 (fun hc => ?_) (fun hc => ?_)
        · replace h := h.1 hc
          refine v_iload_n gC d_Mo_layers_120 rfl 1 rfl ?_
          refine v_istore_n (lv' := [(0, .ref (d0 0)), (2, .int (zI v2)), (3, .int (zI v3))]) gC d_Mo_layers_121 rfl (by decide) [1, 0, 2] rfl ?_
          refine v_iinc (lv' := [(0, .ref (d0 0)), (2, .int (zI v2)), (3, .int (zI (v3 + 1)))]) gC d_Mo_layers_122 2 rfl (by decide) (v3 + 1) rfl [1, 2, 0] rfl ?_
          refine v_goto (tgt := 40) gC d_Mo_layers_125 (by decide) ?_
          refine v_loc (lv' := [(0, .ref (d0 0)), (2, .int (zI v2)), (3, .int (zI (v3 + 1)))]) [0, 1, 2] rfl ?_
          exact h
        · replace h := h.2 hc
          refine v_aload_n gC d_Mo_layers_111 rfl 0 rfl ?_
          refine v_get (v := .ref (d0 7)) gC in_Mo 0 rfl rfl 15 (by decide) fl_Mo_28 rfl d_Mo_layers_112 ?_
          refine v_iload_n gC d_Mo_layers_115 rfl 2 rfl ?_
          refine v_iald (g := (iset (gMo_cz s0) v3 ((gMo_pz s0) ((gMo_named s0) v3)))) gC 7 0 rfl rfl hg7 rfl (by decide) d_Mo_layers_116 ?_
          refine v_goto (tgt := 121) gC d_Mo_layers_117 (by decide) ?_
          refine v_istore_n (lv' := [(0, .ref (d0 0)), (2, .int (zI ((iset (gMo_cz s0) v3 ((gMo_pz s0) ((gMo_named s0) v3))) v3))), (3, .int (zI v3))]) gC d_Mo_layers_121 rfl (by decide) [1, 0, 2] rfl ?_
          refine v_iinc (lv' := [(0, .ref (d0 0)), (2, .int (zI ((iset (gMo_cz s0) v3 ((gMo_pz s0) ((gMo_named s0) v3))) v3))), (3, .int (zI (v3 + 1)))]) gC d_Mo_layers_122 2 rfl (by decide) (v3 + 1) rfl [1, 2, 0] rfl ?_
          refine v_goto (tgt := 40) gC d_Mo_layers_125 (by decide) ?_
          refine v_loc (lv' := [(0, .ref (d0 0)), (2, .int (zI ((iset (gMo_cz s0) v3 ((gMo_pz s0) ((gMo_named s0) v3))) v3))), (3, .int (zI (v3 + 1)))]) [0, 1, 2] rfl ?_
          exact h)
    (by
      intro v2 s0 h
      refine v_aload_n gC d_Mo_layers_133 rfl 0 rfl ?_
      refine v_get (v := .int (zI (gMo_layers s0))) gC in_Mo 0 rfl rfl 10 (by decide) fl_Mo_116 rfl d_Mo_layers_134 ?_
      refine v_bipush gC d_Mo_layers_137 (by decide) ?_
      obtain ⟨hg11, h⟩ := h
      refine v_icmp_ge (tgt := 169) gC d_Mo_layers_139 (by decide) hg11 (by decide) (fun hc => ?_) (fun hc => ?_)
      · replace h := h.1 hc
        refine v_iconst gC d_Mo_layers_169 ?_
        refine v_istore_n (lv' := [(0, .ref (d0 0)), (2, .int (zI v2)), (3, .int (zI 0))]) gC d_Mo_layers_170 rfl (by decide) [1, 2, 0] rfl ?_
        refine v_loc (lv' := [(0, .ref (d0 0)), (3, .int (zI 0))]) [0, 2] rfl ?_
        exact h
      · replace h := h.2 hc
        refine v_aload_n gC d_Mo_layers_142 rfl 0 rfl ?_
        refine v_aload_n gC d_Mo_layers_143 rfl 0 rfl ?_
        refine v_get (v := .int (zI (gMo_layers s0))) gC in_Mo 0 rfl rfl 10 (by decide) fl_Mo_116 rfl d_Mo_layers_144 ?_
        refine v_callV (rest := []) gC (k_Mo_high l D K d0 (gMo_layers s0) s0 _ h) wV_Mo_119 rfl ⟨by omega, by omega, Nat.zero_le _, Nat.zero_le _⟩ 0 rfl rfl [0, 1, 2, 3, 4, 5, 6, 7, 8, 9, 10, 11] [] rfl (by decide) rfl (by decide) (by decide) rfl (Nat.le_of_ble_eq_true rfl) d_Mo_layers_147 (fun v w1 hp => ?_)
        obtain ⟨r12, rfl, rfl, h⟩ := hp
        refine v_after (ws' := (w_Mo K d0 s0)) (st' := [.int (zI r12)]) [0, 1, 2, 3, 4, 5, 6, 7, 8, 9, 10, 11] (by decide) rfl rfl ?_
        refine v_iconst gC d_Mo_layers_150 ?_
        refine v_iload_n gC d_Mo_layers_151 rfl 1 rfl ?_
        refine v_imul gC d_Mo_layers_152 (2 * v2) rfl ?_
        obtain ⟨hg13, hg14, h⟩ := h
        refine v_icmp_ge (tgt := 169) gC d_Mo_layers_153 (by decide) hg13 hg14 (fun hc => ?_) (fun hc => ?_)
        · replace h := h.1 hc
          refine v_iconst gC d_Mo_layers_169 ?_
          refine v_istore_n (lv' := [(0, .ref (d0 0)), (2, .int (zI v2)), (3, .int (zI 0))]) gC d_Mo_layers_170 rfl (by decide) [1, 2, 0] rfl ?_
          refine v_loc (lv' := [(0, .ref (d0 0)), (3, .int (zI 0))]) [0, 2] rfl ?_
          exact h
        · replace h := h.2 hc
          refine v_aload_n gC d_Mo_layers_156 rfl 0 rfl ?_
          refine v_dup gC d_Mo_layers_157 rfl ?_
          refine v_get (v := .int (zI (gMo_layers s0))) gC in_Mo 0 rfl rfl 10 (by decide) fl_Mo_116 rfl d_Mo_layers_158 ?_
          refine v_iconst gC d_Mo_layers_161 ?_
          refine v_iadd gC d_Mo_layers_162 ((gMo_layers s0) + 1) rfl ?_
          refine v_puti (ws' := (w_Mo K d0 (mkMo (gMo_thrown s0) (gMo_corners s0) (gMo_px s0) (gMo_py s0) (gMo_pz s0) (gMo_triangles s0) (gMo_named s0) (gMo_joined s0) (gMo_dropped s0) (gMo_closed s0) ((gMo_layers s0) + 1) (gMo_thickness s0) (gMo_cuts s0) (gMo_cx s0) (gMo_cy s0) (gMo_cz s0) (gMo_solids s0) (gMo_shell s0) (gMo_skin s0) (gMo_period s0) (gMo_reach s0) (gMo_gap s0) (gMo_bytes s0) (gMo_played s0) (gMo_at s0) (gMo_program s0) (gMo_beads s0) (gMo_ring s0)))) gC in_Mo t_Mo ok_Mo n_Mo 0 rfl rfl 10 (by decide) fl_Mo_116 rfl (by decide +kernel) (Nat.le_of_ble_eq_true rfl) rfl d_Mo_layers_163 ?_
          refine v_goto (tgt := 133) gC d_Mo_layers_166 (by decide) ?_
          refine v_loc (lv' := [(0, .ref (d0 0)), (2, .int (zI v2))]) [0, 1] rfl ?_
          exact h)
    (by
      intro v3 s0 h
      refine v_iload_n gC d_Mo_layers_171 rfl 1 rfl ?_
      refine v_bipush gC d_Mo_layers_172 (by decide) ?_
      obtain ⟨hg15, h⟩ := h
      refine v_icmp_ge (tgt := 259) gC d_Mo_layers_174 (by decide) hg15 (by decide) (fun hc => ?_) (fun hc => ?_)
      · replace h := h.1 hc
        refine v_aload_n gC d_Mo_layers_259 rfl 0 rfl ?_
        refine v_iconst gC d_Mo_layers_260 ?_
        refine v_puti (ws' := (w_Mo K d0 (mkMo (gMo_thrown s0) (gMo_corners s0) (gMo_px s0) (gMo_py s0) (gMo_pz s0) (gMo_triangles s0) (gMo_named s0) (gMo_joined s0) (gMo_dropped s0) (gMo_closed s0) (gMo_layers s0) (gMo_thickness s0) (gMo_cuts s0) (gMo_cx s0) (gMo_cy s0) (gMo_cz s0) (gMo_solids s0) (gMo_shell s0) (gMo_skin s0) (gMo_period s0) (gMo_reach s0) (gMo_gap s0) 0 (gMo_played s0) (gMo_at s0) (gMo_program s0) (gMo_beads s0) (gMo_ring s0)))) gC in_Mo t_Mo ok_Mo n_Mo 0 rfl rfl 22 (by decide) fl_Mo_125 rfl (by decide +kernel) (Nat.le_of_ble_eq_true rfl) rfl d_Mo_layers_261 ?_
        refine v_aload_n gC d_Mo_layers_264 rfl 0 rfl ?_
        refine v_callV (rest := []) gC (k_Mo_clear l D K d0 (mkMo (gMo_thrown s0) (gMo_corners s0) (gMo_px s0) (gMo_py s0) (gMo_pz s0) (gMo_triangles s0) (gMo_named s0) (gMo_joined s0) (gMo_dropped s0) (gMo_closed s0) (gMo_layers s0) (gMo_thickness s0) (gMo_cuts s0) (gMo_cx s0) (gMo_cy s0) (gMo_cz s0) (gMo_solids s0) (gMo_shell s0) (gMo_skin s0) (gMo_period s0) (gMo_reach s0) (gMo_gap s0) 0 (gMo_played s0) (gMo_at s0) (gMo_program s0) (gMo_beads s0) (gMo_ring s0)) _ h) wV_Mo_128 rfl ⟨by omega, by omega, Nat.zero_le _, Nat.zero_le _⟩ 0 rfl rfl [0, 1, 2, 3, 4, 5, 6, 7, 8, 9, 10, 11] [] rfl (by decide) rfl (by decide) (by decide) rfl (Nat.le_of_ble_eq_true rfl) d_Mo_layers_265 (fun v w1 hp => ?_)
        obtain ⟨u16, rfl, rfl, h⟩ := hp
        refine v_after (ws' := (w_Mo K d0 u16)) (st' := []) [0, 1, 2, 3, 4, 5, 6, 7, 8, 9, 10, 11] (by decide) rfl rfl ?_
        refine v_aload_n gC d_Mo_layers_268 rfl 0 rfl ?_
        refine v_get (v := .int (zI (gMo_layers u16))) gC in_Mo 0 rfl rfl 10 (by decide) fl_Mo_116 rfl d_Mo_layers_269 ?_
        exact gret _ _ _ _ d_Mo_layers_272 ⟨(gMo_layers u16), u16, rfl, rfl, h⟩
      · replace h := h.2 hc
        refine v_iconst gC d_Mo_layers_177 ?_
        refine v_istore (lv' := [(0, .ref (d0 0)), (3, .int (zI v3)), (4, .int (zI 0))]) gC d_Mo_layers_178 (by decide) [1, 2, 0] rfl ?_
        refine v_loc (lv' := [(0, .ref (d0 0)), (3, .int (zI v3)), (4, .int (zI 0))]) [0, 1, 2] rfl ?_
        exact h)
    (by
      intro v3 v4 s0 h
      refine v_iload gC d_Mo_layers_180 2 rfl ?_
      refine v_bipush gC d_Mo_layers_182 (by decide) ?_
      obtain ⟨hg17, h⟩ := h
      refine v_icmp_ge (tgt := 253) gC d_Mo_layers_184 (by decide) hg17 (by decide) (fun hc => ?_) (fun hc => ?_)
      · replace h := h.1 hc
        refine v_iinc (lv' := [(0, .ref (d0 0)), (3, .int (zI (v3 + 1))), (4, .int (zI v4))]) gC d_Mo_layers_253 1 rfl (by decide) (v3 + 1) rfl [1, 0, 2] rfl ?_
        refine v_goto (tgt := 171) gC d_Mo_layers_256 (by decide) ?_
        refine v_loc (lv' := [(0, .ref (d0 0)), (3, .int (zI (v3 + 1)))]) [0, 1] rfl ?_
        exact h
      · replace h := h.2 hc
        refine v_iconst gC d_Mo_layers_187 ?_
        refine v_istore (lv' := [(0, .ref (d0 0)), (3, .int (zI v3)), (4, .int (zI v4)), (5, .int (zI 0))]) gC d_Mo_layers_188 (by decide) [1, 2, 3, 0] rfl ?_
        refine v_loc (lv' := [(0, .ref (d0 0)), (3, .int (zI v3)), (4, .int (zI v4)), (5, .int (zI 0))]) [0, 1, 2, 3] rfl ?_
        exact h)
    (by
      intro v3 v4 v5 s0 h
      refine v_iload gC d_Mo_layers_190 3 rfl ?_
      refine v_bipush gC d_Mo_layers_192 (by decide) ?_
      obtain ⟨hg18, h⟩ := h
      refine v_icmp_ge (tgt := 247) gC d_Mo_layers_194 (by decide) hg18 (by decide) (fun hc => ?_) (fun hc => ?_)
      · replace h := h.1 hc
        refine v_iinc (lv' := [(0, .ref (d0 0)), (3, .int (zI v3)), (4, .int (zI (v4 + 1))), (5, .int (zI v5))]) gC d_Mo_layers_247 2 rfl (by decide) (v4 + 1) rfl [1, 2, 0, 3] rfl ?_
        refine v_goto (tgt := 180) gC d_Mo_layers_250 (by decide) ?_
        refine v_loc (lv' := [(0, .ref (d0 0)), (3, .int (zI v3)), (4, .int (zI (v4 + 1)))]) [0, 1, 2] rfl ?_
        exact h
      · replace h := h.2 hc
        refine v_aload_n gC d_Mo_layers_197 rfl 0 rfl ?_
        refine v_get (v := .ref (d0 8)) gC in_Mo 0 rfl rfl 16 (by decide) fl_Mo_31 rfl d_Mo_layers_198 ?_
        refine v_sipush gC d_Mo_layers_201 (by decide) ?_
        refine v_iload_n gC d_Mo_layers_204 rfl 1 rfl ?_
        refine v_imul gC d_Mo_layers_205 (144 * v3) rfl ?_
        refine v_bipush gC d_Mo_layers_206 (by decide) ?_
        refine v_iload gC d_Mo_layers_208 2 rfl ?_
        refine v_imul gC d_Mo_layers_210 (12 * v4) rfl ?_
        refine v_iadd gC d_Mo_layers_211 ((144 * v3) + (12 * v4)) rfl ?_
        refine v_iload gC d_Mo_layers_212 3 rfl ?_
        refine v_iadd gC d_Mo_layers_214 (((144 * v3) + (12 * v4)) + v5) rfl ?_
        refine v_iload_n gC d_Mo_layers_215 rfl 1 rfl ?_
        refine v_aload_n gC d_Mo_layers_216 rfl 0 rfl ?_
        refine v_get (v := .int (zI (gMo_layers s0))) gC in_Mo 0 rfl rfl 10 (by decide) fl_Mo_116 rfl d_Mo_layers_217 ?_
        obtain ⟨hg19, hg20, h⟩ := h
        refine v_icmp_ge (tgt := 239) gC d_Mo_layers_220 (by decide) hg19 hg20 (fun hc => ?_) (fun hc => ?_)
        · replace h := h.1 hc
          refine v_iconst gC d_Mo_layers_239 ?_
          obtain ⟨hg21, h⟩ := h
          refine v_zast (g := (gMo_solids s0)) (ws' := (w_Mo K d0 (mkMo (gMo_thrown s0) (gMo_corners s0) (gMo_px s0) (gMo_py s0) (gMo_pz s0) (gMo_triangles s0) (gMo_named s0) (gMo_joined s0) (gMo_dropped s0) (gMo_closed s0) (gMo_layers s0) (gMo_thickness s0) (gMo_cuts s0) (gMo_cx s0) (gMo_cy s0) (gMo_cz s0) (iset (gMo_solids s0) (((144 * v3) + (12 * v4)) + v5) 0) (gMo_shell s0) (gMo_skin s0) (gMo_period s0) (gMo_reach s0) (gMo_gap s0) (gMo_bytes s0) (gMo_played s0) (gMo_at s0) (gMo_program s0) (gMo_beads s0) (gMo_ring s0)))) gC 8 1 rfl rfl hg21 rfl (by decide) (by decide) rfl d_Mo_layers_240 ?_
          refine v_iinc (lv' := [(0, .ref (d0 0)), (3, .int (zI v3)), (4, .int (zI v4)), (5, .int (zI (v5 + 1)))]) gC d_Mo_layers_241 3 rfl (by decide) (v5 + 1) rfl [1, 2, 3, 0] rfl ?_
          refine v_goto (tgt := 190) gC d_Mo_layers_244 (by decide) ?_
          refine v_loc (lv' := [(0, .ref (d0 0)), (3, .int (zI v3)), (4, .int (zI v4)), (5, .int (zI (v5 + 1)))]) [0, 1, 2, 3] rfl ?_
          exact h
        · replace h := h.2 hc
          refine v_aload_n gC d_Mo_layers_223 rfl 0 rfl ?_
          refine v_iload_n gC d_Mo_layers_224 rfl 1 rfl ?_
          refine v_iload gC d_Mo_layers_225 3 rfl ?_
          refine v_iload gC d_Mo_layers_227 2 rfl ?_
          refine v_callV (rest := [.int (zI (((144 * v3) + (12 * v4)) + v5)), .ref (d0 8)]) gC (k_Mo_isInside l D K d0 v3 v5 v4 s0 _ h) wV_Mo_122 rfl ⟨by omega, by omega, Nat.zero_le _, Nat.zero_le _⟩ 0 rfl rfl [0, 1, 2, 3, 4, 5, 6, 7, 8, 9, 10, 11] [] rfl (by decide) rfl (by decide) (by decide) rfl (Nat.le_of_ble_eq_true rfl) d_Mo_layers_229 (fun v w1 hp => ?_)
          obtain ⟨r22, rfl, rfl, h⟩ := hp
          refine v_after (ws' := (w_Mo K d0 s0)) (st' := [.int (zI r22), .int (zI (((144 * v3) + (12 * v4)) + v5)), .ref (d0 8)]) [0, 1, 2, 3, 4, 5, 6, 7, 8, 9, 10, 11] (by decide) rfl rfl ?_
          obtain ⟨hg23, h⟩ := h
          refine v_if_eq (tgt := 239) gC d_Mo_layers_232 (by decide) hg23 (fun hc => ?_) (fun hc => ?_)
          · replace h := h.1 hc
            refine v_iconst gC d_Mo_layers_239 ?_
            obtain ⟨hg24, h⟩ := h
            refine v_zast (g := (gMo_solids s0)) (ws' := (w_Mo K d0 (mkMo (gMo_thrown s0) (gMo_corners s0) (gMo_px s0) (gMo_py s0) (gMo_pz s0) (gMo_triangles s0) (gMo_named s0) (gMo_joined s0) (gMo_dropped s0) (gMo_closed s0) (gMo_layers s0) (gMo_thickness s0) (gMo_cuts s0) (gMo_cx s0) (gMo_cy s0) (gMo_cz s0) (iset (gMo_solids s0) (((144 * v3) + (12 * v4)) + v5) 0) (gMo_shell s0) (gMo_skin s0) (gMo_period s0) (gMo_reach s0) (gMo_gap s0) (gMo_bytes s0) (gMo_played s0) (gMo_at s0) (gMo_program s0) (gMo_beads s0) (gMo_ring s0)))) gC 8 1 rfl rfl hg24 rfl (by decide) (by decide) rfl d_Mo_layers_240 ?_
            refine v_iinc (lv' := [(0, .ref (d0 0)), (3, .int (zI v3)), (4, .int (zI v4)), (5, .int (zI (v5 + 1)))]) gC d_Mo_layers_241 3 rfl (by decide) (v5 + 1) rfl [1, 2, 3, 0] rfl ?_
            refine v_goto (tgt := 190) gC d_Mo_layers_244 (by decide) ?_
            refine v_loc (lv' := [(0, .ref (d0 0)), (3, .int (zI v3)), (4, .int (zI v4)), (5, .int (zI (v5 + 1)))]) [0, 1, 2, 3] rfl ?_
            exact h
          · replace h := h.2 hc
            refine v_iconst gC d_Mo_layers_235 ?_
            refine v_goto (tgt := 240) gC d_Mo_layers_236 (by decide) ?_
            obtain ⟨hg25, h⟩ := h
            refine v_zast (g := (gMo_solids s0)) (ws' := (w_Mo K d0 (mkMo (gMo_thrown s0) (gMo_corners s0) (gMo_px s0) (gMo_py s0) (gMo_pz s0) (gMo_triangles s0) (gMo_named s0) (gMo_joined s0) (gMo_dropped s0) (gMo_closed s0) (gMo_layers s0) (gMo_thickness s0) (gMo_cuts s0) (gMo_cx s0) (gMo_cy s0) (gMo_cz s0) (iset (gMo_solids s0) (((144 * v3) + (12 * v4)) + v5) 1) (gMo_shell s0) (gMo_skin s0) (gMo_period s0) (gMo_reach s0) (gMo_gap s0) (gMo_bytes s0) (gMo_played s0) (gMo_at s0) (gMo_program s0) (gMo_beads s0) (gMo_ring s0)))) gC 8 1 rfl rfl hg25 rfl (by decide) (by decide) rfl d_Mo_layers_240 ?_
            refine v_iinc (lv' := [(0, .ref (d0 0)), (3, .int (zI v3)), (4, .int (zI v4)), (5, .int (zI (v5 + 1)))]) gC d_Mo_layers_241 3 rfl (by decide) (v5 + 1) rfl [1, 2, 3, 0] rfl ?_
            refine v_goto (tgt := 190) gC d_Mo_layers_244 (by decide) ?_
            refine v_loc (lv' := [(0, .ref (d0 0)), (3, .int (zI v3)), (4, .int (zI v4)), (5, .int (zI (v5 + 1)))]) [0, 1, 2, 3] rfl ?_
            exact h)
  refine v_aload_n gC d_Mo_layers_0 rfl 0 rfl ?_
  refine v_iconst gC d_Mo_layers_1 ?_
  refine v_puti (ws' := (w_Mo K d0 (mkMo 0 (gMo_corners s0) (gMo_px s0) (gMo_py s0) (gMo_pz s0) (gMo_triangles s0) (gMo_named s0) (gMo_joined s0) (gMo_dropped s0) (gMo_closed s0) (gMo_layers s0) (gMo_thickness s0) (gMo_cuts s0) (gMo_cx s0) (gMo_cy s0) (gMo_cz s0) (gMo_solids s0) (gMo_shell s0) (gMo_skin s0) (gMo_period s0) (gMo_reach s0) (gMo_gap s0) (gMo_bytes s0) (gMo_played s0) (gMo_at s0) (gMo_program s0) (gMo_beads s0) (gMo_ring s0)))) gC in_Mo t_Mo ok_Mo n_Mo 0 rfl rfl 0 (by decide) fl_Mo_60 rfl (by decide +kernel) (Nat.le_of_ble_eq_true rfl) rfl d_Mo_layers_2 ?_
  refine v_iload_n gC d_Mo_layers_5 rfl 1 rfl ?_
  refine v_iconst gC d_Mo_layers_6 ?_
  refine v_bipush gC d_Mo_layers_7 (by decide) ?_
  refine v_callS (rest := []) gC (k_Mo_in l D K x1 1 41 _ h) wS_Mo_66 rfl ⟨by omega, by omega, Nat.zero_le _, Nat.zero_le _⟩ [] [0, 1, 2, 3, 4, 5, 6, 7, 8, 9, 10, 11] rfl (by decide) rfl (by decide) (by decide) rfl (Nat.le_of_ble_eq_true rfl) d_Mo_layers_9 (fun v w1 hp => ?_)
  obtain ⟨r1, rfl, rfl, h⟩ := hp
  refine v_after (ws' := (w_Mo K d0 (mkMo 0 (gMo_corners s0) (gMo_px s0) (gMo_py s0) (gMo_pz s0) (gMo_triangles s0) (gMo_named s0) (gMo_joined s0) (gMo_dropped s0) (gMo_closed s0) (gMo_layers s0) (gMo_thickness s0) (gMo_cuts s0) (gMo_cx s0) (gMo_cy s0) (gMo_cz s0) (gMo_solids s0) (gMo_shell s0) (gMo_skin s0) (gMo_period s0) (gMo_reach s0) (gMo_gap s0) (gMo_bytes s0) (gMo_played s0) (gMo_at s0) (gMo_program s0) (gMo_beads s0) (gMo_ring s0)))) (st' := [.int (zI r1)]) [0, 1, 2, 3, 4, 5, 6, 7, 8, 9, 10, 11] (by decide) rfl rfl ?_
  obtain ⟨hg2, h⟩ := h
  refine v_if_eq (tgt := 21) gC d_Mo_layers_12 (by decide) hg2 (fun hc => ?_) (fun hc => ?_)
  · replace h := h.1 hc
    refine v_iconst gC d_Mo_layers_21 ?_
    exact gret _ _ _ _ d_Mo_layers_22 ⟨(-1), (mkMo 0 (gMo_corners s0) (gMo_px s0) (gMo_py s0) (gMo_pz s0) (gMo_triangles s0) (gMo_named s0) (gMo_joined s0) (gMo_dropped s0) (gMo_closed s0) (gMo_layers s0) (gMo_thickness s0) (gMo_cuts s0) (gMo_cx s0) (gMo_cy s0) (gMo_cz s0) (gMo_solids s0) (gMo_shell s0) (gMo_skin s0) (gMo_period s0) (gMo_reach s0) (gMo_gap s0) (gMo_bytes s0) (gMo_played s0) (gMo_at s0) (gMo_program s0) (gMo_beads s0) (gMo_ring s0)), rfl, rfl, h⟩
  · replace h := h.2 hc
    refine v_iload_n gC d_Mo_layers_15 rfl 1 rfl ?_
    refine v_iconst gC d_Mo_layers_16 ?_
    obtain ⟨hg3, h⟩ := h
    refine v_irem gC d_Mo_layers_17 hg3 (by decide) (by decide) ?_
    obtain ⟨hg4, h⟩ := h
    refine v_if_ne (tgt := 23) gC d_Mo_layers_18 (by decide) hg4 (fun hc => ?_) (fun hc => ?_)
    · replace h := h.1 hc
      refine v_aload_n gC d_Mo_layers_23 rfl 0 rfl ?_
      refine v_iload_n gC d_Mo_layers_24 rfl 1 rfl ?_
      refine v_puti (ws' := (w_Mo K d0 (mkMo 0 (gMo_corners s0) (gMo_px s0) (gMo_py s0) (gMo_pz s0) (gMo_triangles s0) (gMo_named s0) (gMo_joined s0) (gMo_dropped s0) (gMo_closed s0) (gMo_layers s0) x1 (gMo_cuts s0) (gMo_cx s0) (gMo_cy s0) (gMo_cz s0) (gMo_solids s0) (gMo_shell s0) (gMo_skin s0) (gMo_period s0) (gMo_reach s0) (gMo_gap s0) (gMo_bytes s0) (gMo_played s0) (gMo_at s0) (gMo_program s0) (gMo_beads s0) (gMo_ring s0)))) gC in_Mo t_Mo ok_Mo n_Mo 0 rfl rfl 11 (by decide) fl_Mo_110 rfl (by decide +kernel) (Nat.le_of_ble_eq_true rfl) rfl d_Mo_layers_25 ?_
      refine v_aload_n gC d_Mo_layers_28 rfl 0 rfl ?_
      refine v_aload_n gC d_Mo_layers_29 rfl 0 rfl ?_
      refine v_get (v := .int (zI (gMo_triangles s0))) gC in_Mo 0 rfl rfl 5 (by decide) fl_Mo_70 rfl d_Mo_layers_30 ?_
      refine v_puti (ws' := (w_Mo K d0 (mkMo 0 (gMo_corners s0) (gMo_px s0) (gMo_py s0) (gMo_pz s0) (gMo_triangles s0) (gMo_named s0) (gMo_joined s0) (gMo_dropped s0) (gMo_closed s0) (gMo_layers s0) x1 (gMo_triangles s0) (gMo_cx s0) (gMo_cy s0) (gMo_cz s0) (gMo_solids s0) (gMo_shell s0) (gMo_skin s0) (gMo_period s0) (gMo_reach s0) (gMo_gap s0) (gMo_bytes s0) (gMo_played s0) (gMo_at s0) (gMo_program s0) (gMo_beads s0) (gMo_ring s0)))) gC in_Mo t_Mo ok_Mo n_Mo 0 rfl rfl 12 (by decide) fl_Mo_113 rfl (by decide +kernel) (Nat.le_of_ble_eq_true rfl) rfl d_Mo_layers_33 ?_
      refine v_iconst gC d_Mo_layers_36 ?_
      refine v_istore_n (lv' := [(0, .ref (d0 0)), (1, .int (zI x1)), (2, .int (zI 0))]) gC d_Mo_layers_37 rfl (by decide) [1, 2, 0] rfl ?_
      refine v_iconst gC d_Mo_layers_38 ?_
      refine v_istore_n (lv' := [(0, .ref (d0 0)), (1, .int (zI x1)), (2, .int (zI 0)), (3, .int (zI 0))]) gC d_Mo_layers_39 rfl (by decide) [1, 2, 3, 0] rfl ?_
      refine v_loc (lv' := [(0, .ref (d0 0)), (2, .int (zI 0)), (3, .int (zI 0))]) [0, 2, 3] rfl ?_
      exact h
    · replace h := h.2 hc
      refine v_iconst gC d_Mo_layers_21 ?_
      exact gret _ _ _ _ d_Mo_layers_22 ⟨(-1), (mkMo 0 (gMo_corners s0) (gMo_px s0) (gMo_py s0) (gMo_pz s0) (gMo_triangles s0) (gMo_named s0) (gMo_joined s0) (gMo_dropped s0) (gMo_closed s0) (gMo_layers s0) (gMo_thickness s0) (gMo_cuts s0) (gMo_cx s0) (gMo_cy s0) (gMo_cz s0) (gMo_solids s0) (gMo_shell s0) (gMo_skin s0) (gMo_period s0) (gMo_reach s0) (gMo_gap s0) (gMo_bytes s0) (gMo_played s0) (gMo_at s0) (gMo_program s0) (gMo_beads s0) (gMo_ring s0)), rfl, rfl, h⟩

set_option maxHeartbeats 4000000 in
set_option maxRecDepth 100000 in
theorem k_Mo_cut (l : Launch) (D : va_G) (K : Nat → ClassId) (d0 : Nat → Nat) (x1 : Int) (x2 : Int) (x3 : Int) (x4 : Int) (s0 : s_Mo) (Q : Int → s_Mo → Prop) (h : wp_Mo_cut x1 x2 x3 x4 s0 Q) : Kt l D K y_Mo_cut b_Mo_cut 6 (some .int) 4 97 [.ref (d0 0), .int (zI x1), .int (zI x2), .int (zI x3), .int (zI x4)] (w_Mo K d0 s0) (fun v w1 => ∃ (r : Int), ∃ (u0 : s_Mo), v = some (.int (zI r)) ∧ w1 = (w_Mo K d0 u0) ∧ Q r u0) := by
  refine Kt.ofI (by decide +kernel) (Nat.le_of_ble_eq_true rfl) (lv0 := [(0, .ref (d0 0)), (1, .int (zI x1)), (2, .int (zI x2)), (3, .int (zI x3)), (4, .int (zI x4))]) rfl ?_
  intro gp ge gR gs gm ga gb gh gc gA gQ gRf gRl gC gret
  unfold wp_Mo_cut at h
  replace h := h
    (fun (t0 : Int) (s0 : s_Mo) => V gp l ge gR gs gm ga gb gh gc D gA 6 0 0 gQ (w_Mo K d0 s0) 61 [(0, .ref (d0 0)), (1, .int (zI x1)), (2, .int (zI x2)), (3, .int (zI x3)), (4, .int (zI x4))] [.int (zI t0)])
    (by
      intro t0 s0 h
      refine v_istore (lv' := [(0, .ref (d0 0)), (1, .int (zI x1)), (2, .int (zI x2)), (3, .int (zI x3)), (4, .int (zI x4)), (5, .int (zI t0))]) gC d_Mo_cut_61 (by decide) [1, 2, 3, 4, 5, 0] rfl ?_
      refine v_aload_n gC d_Mo_cut_63 rfl 0 rfl ?_
      refine v_iload gC d_Mo_cut_64 5 rfl ?_
      obtain ⟨hg11, h⟩ := h
      refine v_if_eq (tgt := 73) gC d_Mo_cut_66 (by decide) hg11 (fun hc => ?_) (fun hc => ?_)
      · replace h := h.1 hc
        refine v_iconst gC d_Mo_cut_73 ?_
        refine v_puti (ws' := (w_Mo K d0 (mkMo 1 (gMo_corners s0) (gMo_px s0) (gMo_py s0) (gMo_pz s0) (gMo_triangles s0) (gMo_named s0) (gMo_joined s0) (gMo_dropped s0) (gMo_closed s0) (gMo_layers s0) (gMo_thickness s0) (gMo_cuts s0) (gMo_cx s0) (gMo_cy s0) (gMo_cz s0) (gMo_solids s0) (gMo_shell s0) (gMo_skin s0) (gMo_period s0) (gMo_reach s0) (gMo_gap s0) (gMo_bytes s0) (gMo_played s0) (gMo_at s0) (gMo_program s0) (gMo_beads s0) (gMo_ring s0)))) gC in_Mo t_Mo ok_Mo n_Mo 0 rfl rfl 0 (by decide) fl_Mo_60 rfl (by decide +kernel) (Nat.le_of_ble_eq_true rfl) rfl d_Mo_cut_74 ?_
        refine v_iload gC d_Mo_cut_77 5 rfl ?_
        refine v_if_eq (tgt := 94) gC d_Mo_cut_79 (by decide) hg11 (fun hc => ?_) (fun hc => ?_)
        · replace h := h.1 hc
          refine v_iconst gC d_Mo_cut_94 ?_
          exact gret _ _ _ _ d_Mo_cut_95 ⟨0, (mkMo 1 (gMo_corners s0) (gMo_px s0) (gMo_py s0) (gMo_pz s0) (gMo_triangles s0) (gMo_named s0) (gMo_joined s0) (gMo_dropped s0) (gMo_closed s0) (gMo_layers s0) (gMo_thickness s0) (gMo_cuts s0) (gMo_cx s0) (gMo_cy s0) (gMo_cz s0) (gMo_solids s0) (gMo_shell s0) (gMo_skin s0) (gMo_period s0) (gMo_reach s0) (gMo_gap s0) (gMo_bytes s0) (gMo_played s0) (gMo_at s0) (gMo_program s0) (gMo_beads s0) (gMo_ring s0)), rfl, rfl, h⟩
        · replace h := h.2 hc
          refine v_aload_n gC d_Mo_cut_82 rfl 0 rfl ?_
          refine v_iload_n gC d_Mo_cut_83 rfl 1 rfl ?_
          refine v_iload_n gC d_Mo_cut_84 rfl 2 rfl ?_
          refine v_iload_n gC d_Mo_cut_85 rfl 3 rfl ?_
          refine v_iload gC d_Mo_cut_86 4 rfl ?_
          refine v_callV (rest := []) gC (k_Mo_end l D K d0 x1 x2 x3 x4 (mkMo 1 (gMo_corners s0) (gMo_px s0) (gMo_py s0) (gMo_pz s0) (gMo_triangles s0) (gMo_named s0) (gMo_joined s0) (gMo_dropped s0) (gMo_closed s0) (gMo_layers s0) (gMo_thickness s0) (gMo_cuts s0) (gMo_cx s0) (gMo_cy s0) (gMo_cz s0) (gMo_solids s0) (gMo_shell s0) (gMo_skin s0) (gMo_period s0) (gMo_reach s0) (gMo_gap s0) (gMo_bytes s0) (gMo_played s0) (gMo_at s0) (gMo_program s0) (gMo_beads s0) (gMo_ring s0)) _ h) wV_Mo_141 rfl ⟨by omega, by omega, Nat.zero_le _, Nat.zero_le _⟩ 0 rfl rfl [0, 1, 2, 3, 4, 5, 6, 7, 8, 9, 10, 11] [] rfl (by decide) rfl (by decide) (by decide) rfl (Nat.le_of_ble_eq_true rfl) d_Mo_cut_88 (fun v w1 hp => ?_)
          obtain ⟨r12, rfl, rfl, h⟩ := hp
          refine v_after (ws' := (w_Mo K d0 (mkMo 1 (gMo_corners s0) (gMo_px s0) (gMo_py s0) (gMo_pz s0) (gMo_triangles s0) (gMo_named s0) (gMo_joined s0) (gMo_dropped s0) (gMo_closed s0) (gMo_layers s0) (gMo_thickness s0) (gMo_cuts s0) (gMo_cx s0) (gMo_cy s0) (gMo_cz s0) (gMo_solids s0) (gMo_shell s0) (gMo_skin s0) (gMo_period s0) (gMo_reach s0) (gMo_gap s0) (gMo_bytes s0) (gMo_played s0) (gMo_at s0) (gMo_program s0) (gMo_beads s0) (gMo_ring s0)))) (st' := [.int (zI r12)]) [0, 1, 2, 3, 4, 5, 6, 7, 8, 9, 10, 11] (by decide) rfl rfl ?_
          refine v_goto (tgt := 95) gC d_Mo_cut_91 (by decide) ?_
          exact gret _ _ _ _ d_Mo_cut_95 ⟨r12, (mkMo 1 (gMo_corners s0) (gMo_px s0) (gMo_py s0) (gMo_pz s0) (gMo_triangles s0) (gMo_named s0) (gMo_joined s0) (gMo_dropped s0) (gMo_closed s0) (gMo_layers s0) (gMo_thickness s0) (gMo_cuts s0) (gMo_cx s0) (gMo_cy s0) (gMo_cz s0) (gMo_solids s0) (gMo_shell s0) (gMo_skin s0) (gMo_period s0) (gMo_reach s0) (gMo_gap s0) (gMo_bytes s0) (gMo_played s0) (gMo_at s0) (gMo_program s0) (gMo_beads s0) (gMo_ring s0)), rfl, rfl, h⟩
      · replace h := h.2 hc
        refine v_iconst gC d_Mo_cut_69 ?_
        refine v_goto (tgt := 74) gC d_Mo_cut_70 (by decide) ?_
        refine v_puti (ws' := (w_Mo K d0 (mkMo 0 (gMo_corners s0) (gMo_px s0) (gMo_py s0) (gMo_pz s0) (gMo_triangles s0) (gMo_named s0) (gMo_joined s0) (gMo_dropped s0) (gMo_closed s0) (gMo_layers s0) (gMo_thickness s0) (gMo_cuts s0) (gMo_cx s0) (gMo_cy s0) (gMo_cz s0) (gMo_solids s0) (gMo_shell s0) (gMo_skin s0) (gMo_period s0) (gMo_reach s0) (gMo_gap s0) (gMo_bytes s0) (gMo_played s0) (gMo_at s0) (gMo_program s0) (gMo_beads s0) (gMo_ring s0)))) gC in_Mo t_Mo ok_Mo n_Mo 0 rfl rfl 0 (by decide) fl_Mo_60 rfl (by decide +kernel) (Nat.le_of_ble_eq_true rfl) rfl d_Mo_cut_74 ?_
        refine v_iload gC d_Mo_cut_77 5 rfl ?_
        refine v_if_eq (tgt := 94) gC d_Mo_cut_79 (by decide) hg11 (fun hc => ?_) (fun hc => ?_)
        · replace h := h.1 hc
          refine v_iconst gC d_Mo_cut_94 ?_
          exact gret _ _ _ _ d_Mo_cut_95 ⟨0, (mkMo 0 (gMo_corners s0) (gMo_px s0) (gMo_py s0) (gMo_pz s0) (gMo_triangles s0) (gMo_named s0) (gMo_joined s0) (gMo_dropped s0) (gMo_closed s0) (gMo_layers s0) (gMo_thickness s0) (gMo_cuts s0) (gMo_cx s0) (gMo_cy s0) (gMo_cz s0) (gMo_solids s0) (gMo_shell s0) (gMo_skin s0) (gMo_period s0) (gMo_reach s0) (gMo_gap s0) (gMo_bytes s0) (gMo_played s0) (gMo_at s0) (gMo_program s0) (gMo_beads s0) (gMo_ring s0)), rfl, rfl, h⟩
        · replace h := h.2 hc
          refine v_aload_n gC d_Mo_cut_82 rfl 0 rfl ?_
          refine v_iload_n gC d_Mo_cut_83 rfl 1 rfl ?_
          refine v_iload_n gC d_Mo_cut_84 rfl 2 rfl ?_
          refine v_iload_n gC d_Mo_cut_85 rfl 3 rfl ?_
          refine v_iload gC d_Mo_cut_86 4 rfl ?_
          refine v_callV (rest := []) gC (k_Mo_end l D K d0 x1 x2 x3 x4 (mkMo 0 (gMo_corners s0) (gMo_px s0) (gMo_py s0) (gMo_pz s0) (gMo_triangles s0) (gMo_named s0) (gMo_joined s0) (gMo_dropped s0) (gMo_closed s0) (gMo_layers s0) (gMo_thickness s0) (gMo_cuts s0) (gMo_cx s0) (gMo_cy s0) (gMo_cz s0) (gMo_solids s0) (gMo_shell s0) (gMo_skin s0) (gMo_period s0) (gMo_reach s0) (gMo_gap s0) (gMo_bytes s0) (gMo_played s0) (gMo_at s0) (gMo_program s0) (gMo_beads s0) (gMo_ring s0)) _ h) wV_Mo_141 rfl ⟨by omega, by omega, Nat.zero_le _, Nat.zero_le _⟩ 0 rfl rfl [0, 1, 2, 3, 4, 5, 6, 7, 8, 9, 10, 11] [] rfl (by decide) rfl (by decide) (by decide) rfl (Nat.le_of_ble_eq_true rfl) d_Mo_cut_88 (fun v w1 hp => ?_)
          obtain ⟨r13, rfl, rfl, h⟩ := hp
          refine v_after (ws' := (w_Mo K d0 (mkMo 0 (gMo_corners s0) (gMo_px s0) (gMo_py s0) (gMo_pz s0) (gMo_triangles s0) (gMo_named s0) (gMo_joined s0) (gMo_dropped s0) (gMo_closed s0) (gMo_layers s0) (gMo_thickness s0) (gMo_cuts s0) (gMo_cx s0) (gMo_cy s0) (gMo_cz s0) (gMo_solids s0) (gMo_shell s0) (gMo_skin s0) (gMo_period s0) (gMo_reach s0) (gMo_gap s0) (gMo_bytes s0) (gMo_played s0) (gMo_at s0) (gMo_program s0) (gMo_beads s0) (gMo_ring s0)))) (st' := [.int (zI r13)]) [0, 1, 2, 3, 4, 5, 6, 7, 8, 9, 10, 11] (by decide) rfl rfl ?_
          refine v_goto (tgt := 95) gC d_Mo_cut_91 (by decide) ?_
          exact gret _ _ _ _ d_Mo_cut_95 ⟨r13, (mkMo 0 (gMo_corners s0) (gMo_px s0) (gMo_py s0) (gMo_pz s0) (gMo_triangles s0) (gMo_named s0) (gMo_joined s0) (gMo_dropped s0) (gMo_closed s0) (gMo_layers s0) (gMo_thickness s0) (gMo_cuts s0) (gMo_cx s0) (gMo_cy s0) (gMo_cz s0) (gMo_solids s0) (gMo_shell s0) (gMo_skin s0) (gMo_period s0) (gMo_reach s0) (gMo_gap s0) (gMo_bytes s0) (gMo_played s0) (gMo_at s0) (gMo_program s0) (gMo_beads s0) (gMo_ring s0)), rfl, rfl, h⟩)
  refine v_iload_n gC d_Mo_cut_0 rfl 1 rfl ?_
  refine v_iconst gC d_Mo_cut_1 ?_
  refine v_aload_n gC d_Mo_cut_2 rfl 0 rfl ?_
  refine v_get (v := .int (zI (gMo_layers s0))) gC in_Mo 0 rfl rfl 10 (by decide) fl_Mo_116 rfl d_Mo_cut_3 ?_
  refine v_iconst gC d_Mo_cut_6 ?_
  refine v_isub gC d_Mo_cut_7 ((gMo_layers s0) - 1) rfl ?_
  refine v_callS (rest := []) gC (k_Mo_in l D K x1 0 ((gMo_layers s0) - 1) _ h) wS_Mo_66 rfl ⟨by omega, by omega, Nat.zero_le _, Nat.zero_le _⟩ [] [0, 1, 2, 3, 4, 5, 6, 7, 8, 9, 10, 11] rfl (by decide) rfl (by decide) (by decide) rfl (Nat.le_of_ble_eq_true rfl) d_Mo_cut_8 (fun v w1 hp => ?_)
  obtain ⟨r1, rfl, rfl, h⟩ := hp
  refine v_after (ws' := (w_Mo K d0 s0)) (st' := [.int (zI r1)]) [0, 1, 2, 3, 4, 5, 6, 7, 8, 9, 10, 11] (by decide) rfl rfl ?_
  obtain ⟨hg2, h⟩ := h
  refine v_if_eq (tgt := 60) gC d_Mo_cut_11 (by decide) hg2 (fun hc => ?_) (fun hc => ?_)
  · replace h := h.1 hc
    refine v_iconst gC d_Mo_cut_60 ?_
    refine v_loc (lv' := [(0, .ref (d0 0)), (1, .int (zI x1)), (2, .int (zI x2)), (3, .int (zI x3)), (4, .int (zI x4))]) [0, 1, 2, 3, 4] rfl ?_
    exact h
  · replace h := h.2 hc
    refine v_iload_n gC d_Mo_cut_14 rfl 2 rfl ?_
    refine v_iconst gC d_Mo_cut_15 ?_
    refine v_aload_n gC d_Mo_cut_16 rfl 0 rfl ?_
    refine v_get (v := .int (zI (gMo_cuts s0))) gC in_Mo 0 rfl rfl 12 (by decide) fl_Mo_113 rfl d_Mo_cut_17 ?_
    refine v_iconst gC d_Mo_cut_20 ?_
    refine v_isub gC d_Mo_cut_21 ((gMo_cuts s0) - 1) rfl ?_
    refine v_callS (rest := []) gC (k_Mo_in l D K x2 0 ((gMo_cuts s0) - 1) _ h) wS_Mo_66 rfl ⟨by omega, by omega, Nat.zero_le _, Nat.zero_le _⟩ [] [0, 1, 2, 3, 4, 5, 6, 7, 8, 9, 10, 11] rfl (by decide) rfl (by decide) (by decide) rfl (Nat.le_of_ble_eq_true rfl) d_Mo_cut_22 (fun v w1 hp => ?_)
    obtain ⟨r3, rfl, rfl, h⟩ := hp
    refine v_after (ws' := (w_Mo K d0 s0)) (st' := [.int (zI r3)]) [0, 1, 2, 3, 4, 5, 6, 7, 8, 9, 10, 11] (by decide) rfl rfl ?_
    obtain ⟨hg4, h⟩ := h
    refine v_if_eq (tgt := 60) gC d_Mo_cut_25 (by decide) hg4 (fun hc => ?_) (fun hc => ?_)
    · replace h := h.1 hc
      refine v_iconst gC d_Mo_cut_60 ?_
      refine v_loc (lv' := [(0, .ref (d0 0)), (1, .int (zI x1)), (2, .int (zI x2)), (3, .int (zI x3)), (4, .int (zI x4))]) [0, 1, 2, 3, 4] rfl ?_
      exact h
    · replace h := h.2 hc
      refine v_iload_n gC d_Mo_cut_28 rfl 3 rfl ?_
      refine v_iconst gC d_Mo_cut_29 ?_
      refine v_iconst gC d_Mo_cut_30 ?_
      refine v_callS (rest := []) gC (k_Mo_in l D K x3 0 1 _ h) wS_Mo_66 rfl ⟨by omega, by omega, Nat.zero_le _, Nat.zero_le _⟩ [] [0, 1, 2, 3, 4, 5, 6, 7, 8, 9, 10, 11] rfl (by decide) rfl (by decide) (by decide) rfl (Nat.le_of_ble_eq_true rfl) d_Mo_cut_31 (fun v w1 hp => ?_)
      obtain ⟨r5, rfl, rfl, h⟩ := hp
      refine v_after (ws' := (w_Mo K d0 s0)) (st' := [.int (zI r5)]) [0, 1, 2, 3, 4, 5, 6, 7, 8, 9, 10, 11] (by decide) rfl rfl ?_
      obtain ⟨hg6, h⟩ := h
      refine v_if_eq (tgt := 60) gC d_Mo_cut_34 (by decide) hg6 (fun hc => ?_) (fun hc => ?_)
      · replace h := h.1 hc
        refine v_iconst gC d_Mo_cut_60 ?_
        refine v_loc (lv' := [(0, .ref (d0 0)), (1, .int (zI x1)), (2, .int (zI x2)), (3, .int (zI x3)), (4, .int (zI x4))]) [0, 1, 2, 3, 4] rfl ?_
        exact h
      · replace h := h.2 hc
        refine v_iload gC d_Mo_cut_37 4 rfl ?_
        refine v_iconst gC d_Mo_cut_39 ?_
        refine v_iconst gC d_Mo_cut_40 ?_
        refine v_callS (rest := []) gC (k_Mo_in l D K x4 0 2 _ h) wS_Mo_66 rfl ⟨by omega, by omega, Nat.zero_le _, Nat.zero_le _⟩ [] [0, 1, 2, 3, 4, 5, 6, 7, 8, 9, 10, 11] rfl (by decide) rfl (by decide) (by decide) rfl (Nat.le_of_ble_eq_true rfl) d_Mo_cut_41 (fun v w1 hp => ?_)
        obtain ⟨r7, rfl, rfl, h⟩ := hp
        refine v_after (ws' := (w_Mo K d0 s0)) (st' := [.int (zI r7)]) [0, 1, 2, 3, 4, 5, 6, 7, 8, 9, 10, 11] (by decide) rfl rfl ?_
        obtain ⟨hg8, h⟩ := h
        refine v_if_eq (tgt := 60) gC d_Mo_cut_44 (by decide) hg8 (fun hc => ?_) (fun hc => ?_)
        · replace h := h.1 hc
          refine v_iconst gC d_Mo_cut_60 ?_
          refine v_loc (lv' := [(0, .ref (d0 0)), (1, .int (zI x1)), (2, .int (zI x2)), (3, .int (zI x3)), (4, .int (zI x4))]) [0, 1, 2, 3, 4] rfl ?_
          exact h
        · replace h := h.2 hc
          refine v_aload_n gC d_Mo_cut_47 rfl 0 rfl ?_
          refine v_iload_n gC d_Mo_cut_48 rfl 1 rfl ?_
          refine v_iload_n gC d_Mo_cut_49 rfl 2 rfl ?_
          refine v_callV (rest := []) gC (k_Mo_isCut l D K d0 x1 x2 s0 _ h) wV_Mo_138 rfl ⟨by omega, by omega, Nat.zero_le _, Nat.zero_le _⟩ 0 rfl rfl [0, 1, 2, 3, 4, 5, 6, 7, 8, 9, 10, 11] [] rfl (by decide) rfl (by decide) (by decide) rfl (Nat.le_of_ble_eq_true rfl) d_Mo_cut_50 (fun v w1 hp => ?_)
          obtain ⟨r9, rfl, rfl, h⟩ := hp
          refine v_after (ws' := (w_Mo K d0 s0)) (st' := [.int (zI r9)]) [0, 1, 2, 3, 4, 5, 6, 7, 8, 9, 10, 11] (by decide) rfl rfl ?_
          obtain ⟨hg10, h⟩ := h
          refine v_if_eq (tgt := 60) gC d_Mo_cut_53 (by decide) hg10 (fun hc => ?_) (fun hc => ?_)
          · replace h := h.1 hc
            refine v_iconst gC d_Mo_cut_60 ?_
            refine v_loc (lv' := [(0, .ref (d0 0)), (1, .int (zI x1)), (2, .int (zI x2)), (3, .int (zI x3)), (4, .int (zI x4))]) [0, 1, 2, 3, 4] rfl ?_
            exact h
          · replace h := h.2 hc
            refine v_iconst gC d_Mo_cut_56 ?_
            refine v_goto (tgt := 61) gC d_Mo_cut_57 (by decide) ?_
            refine v_loc (lv' := [(0, .ref (d0 0)), (1, .int (zI x1)), (2, .int (zI x2)), (3, .int (zI x3)), (4, .int (zI x4))]) [0, 1, 2, 3, 4] rfl ?_
            exact h

set_option maxHeartbeats 4000000 in
set_option maxRecDepth 100000 in
theorem k_Mo_isSolid (l : Launch) (D : va_G) (K : Nat → ClassId) (d0 : Nat → Nat) (x1 : Int) (x2 : Int) (x3 : Int) (s0 : s_Mo) (Q : Int → Prop) (h : wp_Mo_isSolid x1 x2 x3 s0 Q) : Kt l D K y_Mo_isSolid b_Mo_isSolid 4 (some .boolean) 1 22 [.ref (d0 0), .int (zI x1), .int (zI x2), .int (zI x3)] (w_Mo K d0 s0) (fun v w1 => ∃ (r : Int), v = some (.int (zI r)) ∧ w1 = (w_Mo K d0 s0) ∧ Q r) := by
  refine Kt.ofZ (by decide +kernel) (Nat.le_of_ble_eq_true rfl) (lv0 := [(0, .ref (d0 0)), (1, .int (zI x1)), (2, .int (zI x2)), (3, .int (zI x3))]) rfl ?_
  intro gp ge gR gs gm ga gb gh gc gA gQ gRf gRl gC gret
  unfold wp_Mo_isSolid at h
  refine v_iload_n gC d_Mo_isSolid_0 rfl 1 rfl ?_
  refine v_iconst gC d_Mo_isSolid_1 ?_
  refine v_aload_n gC d_Mo_isSolid_2 rfl 0 rfl ?_
  refine v_get (v := .int (zI (gMo_layers s0))) gC in_Mo 0 rfl rfl 10 (by decide) fl_Mo_116 rfl d_Mo_isSolid_3 ?_
  refine v_iconst gC d_Mo_isSolid_6 ?_
  refine v_isub gC d_Mo_isSolid_7 ((gMo_layers s0) - 1) rfl ?_
  refine v_callS (rest := []) gC (k_Mo_in l D K x1 0 ((gMo_layers s0) - 1) _ h) wS_Mo_66 rfl ⟨by omega, by omega, Nat.zero_le _, Nat.zero_le _⟩ [] [0, 1, 2, 3, 4, 5, 6, 7, 8, 9, 10, 11] rfl (by decide) rfl (by decide) (by decide) rfl (Nat.le_of_ble_eq_true rfl) d_Mo_isSolid_8 (fun v w1 hp => ?_)
  obtain ⟨r1, rfl, rfl, h⟩ := hp
  refine v_after (ws' := (w_Mo K d0 s0)) (st' := [.int (zI r1)]) [0, 1, 2, 3, 4, 5, 6, 7, 8, 9, 10, 11] (by decide) rfl rfl ?_
  obtain ⟨hg2, h⟩ := h
  refine v_if_eq (tgt := 58) gC d_Mo_isSolid_11 (by decide) hg2 (fun hc => ?_) (fun hc => ?_)
  · replace h := h.1 hc
    refine v_iconst gC d_Mo_isSolid_58 ?_
    exact gret _ _ _ _ d_Mo_isSolid_59 rfl ⟨0, rfl, rfl, h⟩
  · replace h := h.2 hc
    refine v_iload_n gC d_Mo_isSolid_14 rfl 2 rfl ?_
    refine v_iconst gC d_Mo_isSolid_15 ?_
    refine v_bipush gC d_Mo_isSolid_16 (by decide) ?_
    refine v_callS (rest := []) gC (k_Mo_in l D K x2 0 11 _ h) wS_Mo_66 rfl ⟨by omega, by omega, Nat.zero_le _, Nat.zero_le _⟩ [] [0, 1, 2, 3, 4, 5, 6, 7, 8, 9, 10, 11] rfl (by decide) rfl (by decide) (by decide) rfl (Nat.le_of_ble_eq_true rfl) d_Mo_isSolid_18 (fun v w1 hp => ?_)
    obtain ⟨r3, rfl, rfl, h⟩ := hp
    refine v_after (ws' := (w_Mo K d0 s0)) (st' := [.int (zI r3)]) [0, 1, 2, 3, 4, 5, 6, 7, 8, 9, 10, 11] (by decide) rfl rfl ?_
    obtain ⟨hg4, h⟩ := h
    refine v_if_eq (tgt := 58) gC d_Mo_isSolid_21 (by decide) hg4 (fun hc => ?_) (fun hc => ?_)
    · replace h := h.1 hc
      refine v_iconst gC d_Mo_isSolid_58 ?_
      exact gret _ _ _ _ d_Mo_isSolid_59 rfl ⟨0, rfl, rfl, h⟩
    · replace h := h.2 hc
      refine v_iload_n gC d_Mo_isSolid_24 rfl 3 rfl ?_
      refine v_iconst gC d_Mo_isSolid_25 ?_
      refine v_bipush gC d_Mo_isSolid_26 (by decide) ?_
      refine v_callS (rest := []) gC (k_Mo_in l D K x3 0 11 _ h) wS_Mo_66 rfl ⟨by omega, by omega, Nat.zero_le _, Nat.zero_le _⟩ [] [0, 1, 2, 3, 4, 5, 6, 7, 8, 9, 10, 11] rfl (by decide) rfl (by decide) (by decide) rfl (Nat.le_of_ble_eq_true rfl) d_Mo_isSolid_28 (fun v w1 hp => ?_)
      obtain ⟨r5, rfl, rfl, h⟩ := hp
      refine v_after (ws' := (w_Mo K d0 s0)) (st' := [.int (zI r5)]) [0, 1, 2, 3, 4, 5, 6, 7, 8, 9, 10, 11] (by decide) rfl rfl ?_
      obtain ⟨hg6, h⟩ := h
      refine v_if_eq (tgt := 58) gC d_Mo_isSolid_31 (by decide) hg6 (fun hc => ?_) (fun hc => ?_)
      · replace h := h.1 hc
        refine v_iconst gC d_Mo_isSolid_58 ?_
        exact gret _ _ _ _ d_Mo_isSolid_59 rfl ⟨0, rfl, rfl, h⟩
      · replace h := h.2 hc
        refine v_aload_n gC d_Mo_isSolid_34 rfl 0 rfl ?_
        refine v_get (v := .ref (d0 8)) gC in_Mo 0 rfl rfl 16 (by decide) fl_Mo_31 rfl d_Mo_isSolid_35 ?_
        refine v_sipush gC d_Mo_isSolid_38 (by decide) ?_
        refine v_iload_n gC d_Mo_isSolid_41 rfl 1 rfl ?_
        refine v_imul gC d_Mo_isSolid_42 (144 * x1) rfl ?_
        refine v_bipush gC d_Mo_isSolid_43 (by decide) ?_
        refine v_iload_n gC d_Mo_isSolid_45 rfl 3 rfl ?_
        refine v_imul gC d_Mo_isSolid_46 (12 * x3) rfl ?_
        refine v_iadd gC d_Mo_isSolid_47 ((144 * x1) + (12 * x3)) rfl ?_
        refine v_iload_n gC d_Mo_isSolid_48 rfl 2 rfl ?_
        refine v_iadd gC d_Mo_isSolid_49 (((144 * x1) + (12 * x3)) + x2) rfl ?_
        obtain ⟨hg7, h⟩ := h
        refine v_zald (g := (gMo_solids s0)) gC 8 1 rfl rfl hg7 rfl (by decide) d_Mo_isSolid_50 ?_
        obtain ⟨hg8, h⟩ := h
        refine v_if_eq (tgt := 58) gC d_Mo_isSolid_51 (by decide) hg8 (fun hc => ?_) (fun hc => ?_)
        · replace h := h.1 hc
          refine v_iconst gC d_Mo_isSolid_58 ?_
          exact gret _ _ _ _ d_Mo_isSolid_59 rfl ⟨0, rfl, rfl, h⟩
        · replace h := h.2 hc
          refine v_iconst gC d_Mo_isSolid_54 ?_
          refine v_goto (tgt := 59) gC d_Mo_isSolid_55 (by decide) ?_
          exact gret _ _ _ _ d_Mo_isSolid_59 rfl ⟨1, rfl, rfl, h⟩

set_option maxHeartbeats 4000000 in
set_option maxRecDepth 100000 in
theorem k_Mo_solid (l : Launch) (D : va_G) (K : Nat → ClassId) (d0 : Nat → Nat) (x1 : Int) (x2 : Int) (x3 : Int) (s0 : s_Mo) (Q : Int → s_Mo → Prop) (h : wp_Mo_solid x1 x2 x3 s0 Q) : Kt l D K y_Mo_solid b_Mo_solid 4 (some .int) 2 45 [.ref (d0 0), .int (zI x1), .int (zI x2), .int (zI x3)] (w_Mo K d0 s0) (fun v w1 => ∃ (r : Int), ∃ (u0 : s_Mo), v = some (.int (zI r)) ∧ w1 = (w_Mo K d0 u0) ∧ Q r u0) := by
  refine Kt.ofI (by decide +kernel) (Nat.le_of_ble_eq_true rfl) (lv0 := [(0, .ref (d0 0)), (1, .int (zI x1)), (2, .int (zI x2)), (3, .int (zI x3))]) rfl ?_
  intro gp ge gR gs gm ga gb gh gc gA gQ gRf gRl gC gret
  unfold wp_Mo_solid at h
  refine v_aload_n gC d_Mo_solid_0 rfl 0 rfl ?_
  refine v_iconst gC d_Mo_solid_1 ?_
  refine v_puti (ws' := (w_Mo K d0 (mkMo 0 (gMo_corners s0) (gMo_px s0) (gMo_py s0) (gMo_pz s0) (gMo_triangles s0) (gMo_named s0) (gMo_joined s0) (gMo_dropped s0) (gMo_closed s0) (gMo_layers s0) (gMo_thickness s0) (gMo_cuts s0) (gMo_cx s0) (gMo_cy s0) (gMo_cz s0) (gMo_solids s0) (gMo_shell s0) (gMo_skin s0) (gMo_period s0) (gMo_reach s0) (gMo_gap s0) (gMo_bytes s0) (gMo_played s0) (gMo_at s0) (gMo_program s0) (gMo_beads s0) (gMo_ring s0)))) gC in_Mo t_Mo ok_Mo n_Mo 0 rfl rfl 0 (by decide) fl_Mo_60 rfl (by decide +kernel) (Nat.le_of_ble_eq_true rfl) rfl d_Mo_solid_2 ?_
  refine v_aload_n gC d_Mo_solid_5 rfl 0 rfl ?_
  refine v_iload_n gC d_Mo_solid_6 rfl 1 rfl ?_
  refine v_iload_n gC d_Mo_solid_7 rfl 2 rfl ?_
  refine v_iload_n gC d_Mo_solid_8 rfl 3 rfl ?_
  refine v_callV (rest := []) gC (k_Mo_isSolid l D K d0 x1 x2 x3 (mkMo 0 (gMo_corners s0) (gMo_px s0) (gMo_py s0) (gMo_pz s0) (gMo_triangles s0) (gMo_named s0) (gMo_joined s0) (gMo_dropped s0) (gMo_closed s0) (gMo_layers s0) (gMo_thickness s0) (gMo_cuts s0) (gMo_cx s0) (gMo_cy s0) (gMo_cz s0) (gMo_solids s0) (gMo_shell s0) (gMo_skin s0) (gMo_period s0) (gMo_reach s0) (gMo_gap s0) (gMo_bytes s0) (gMo_played s0) (gMo_at s0) (gMo_program s0) (gMo_beads s0) (gMo_ring s0)) _ h) wV_Mo_155 rfl ⟨by omega, by omega, Nat.zero_le _, Nat.zero_le _⟩ 0 rfl rfl [0, 1, 2, 3, 4, 5, 6, 7, 8, 9, 10, 11] [] rfl (by decide) rfl (by decide) (by decide) rfl (Nat.le_of_ble_eq_true rfl) d_Mo_solid_9 (fun v w1 hp => ?_)
  obtain ⟨r1, rfl, rfl, h⟩ := hp
  refine v_after (ws' := (w_Mo K d0 (mkMo 0 (gMo_corners s0) (gMo_px s0) (gMo_py s0) (gMo_pz s0) (gMo_triangles s0) (gMo_named s0) (gMo_joined s0) (gMo_dropped s0) (gMo_closed s0) (gMo_layers s0) (gMo_thickness s0) (gMo_cuts s0) (gMo_cx s0) (gMo_cy s0) (gMo_cz s0) (gMo_solids s0) (gMo_shell s0) (gMo_skin s0) (gMo_period s0) (gMo_reach s0) (gMo_gap s0) (gMo_bytes s0) (gMo_played s0) (gMo_at s0) (gMo_program s0) (gMo_beads s0) (gMo_ring s0)))) (st' := [.int (zI r1)]) [0, 1, 2, 3, 4, 5, 6, 7, 8, 9, 10, 11] (by decide) rfl rfl ?_
  obtain ⟨hg2, h⟩ := h
  refine v_if_eq (tgt := 19) gC d_Mo_solid_12 (by decide) hg2 (fun hc => ?_) (fun hc => ?_)
  · replace h := h.1 hc
    refine v_iconst gC d_Mo_solid_19 ?_
    exact gret _ _ _ _ d_Mo_solid_20 ⟨0, (mkMo 0 (gMo_corners s0) (gMo_px s0) (gMo_py s0) (gMo_pz s0) (gMo_triangles s0) (gMo_named s0) (gMo_joined s0) (gMo_dropped s0) (gMo_closed s0) (gMo_layers s0) (gMo_thickness s0) (gMo_cuts s0) (gMo_cx s0) (gMo_cy s0) (gMo_cz s0) (gMo_solids s0) (gMo_shell s0) (gMo_skin s0) (gMo_period s0) (gMo_reach s0) (gMo_gap s0) (gMo_bytes s0) (gMo_played s0) (gMo_at s0) (gMo_program s0) (gMo_beads s0) (gMo_ring s0)), rfl, rfl, h⟩
  · replace h := h.2 hc
    refine v_iconst gC d_Mo_solid_15 ?_
    refine v_goto (tgt := 20) gC d_Mo_solid_16 (by decide) ?_
    exact gret _ _ _ _ d_Mo_solid_20 ⟨1, (mkMo 0 (gMo_corners s0) (gMo_px s0) (gMo_py s0) (gMo_pz s0) (gMo_triangles s0) (gMo_named s0) (gMo_joined s0) (gMo_dropped s0) (gMo_closed s0) (gMo_layers s0) (gMo_thickness s0) (gMo_cuts s0) (gMo_cx s0) (gMo_cy s0) (gMo_cz s0) (gMo_solids s0) (gMo_shell s0) (gMo_skin s0) (gMo_period s0) (gMo_reach s0) (gMo_gap s0) (gMo_bytes s0) (gMo_played s0) (gMo_at s0) (gMo_program s0) (gMo_beads s0) (gMo_ring s0)), rfl, rfl, h⟩

set_option maxHeartbeats 4000000 in
set_option maxRecDepth 100000 in
theorem k_Mo_settings (l : Launch) (D : va_G) (K : Nat → ClassId) (d0 : Nat → Nat) (x1 : Int) (x2 : Int) (x3 : Int) (x4 : Int) (x5 : Int) (s0 : s_Mo) (Q : Int → s_Mo → Prop) (h : wp_Mo_settings x1 x2 x3 x4 x5 s0 Q) : Kt l D K y_Mo_settings b_Mo_settings 6 (some .boolean) 1 22 [.ref (d0 0), .int (zI x1), .int (zI x2), .int (zI x3), .int (zI x4), .int (zI x5)] (w_Mo K d0 s0) (fun v w1 => ∃ (r : Int), ∃ (u0 : s_Mo), v = some (.int (zI r)) ∧ w1 = (w_Mo K d0 u0) ∧ Q r u0) := by
  refine Kt.ofZ (by decide +kernel) (Nat.le_of_ble_eq_true rfl) (lv0 := [(0, .ref (d0 0)), (1, .int (zI x1)), (2, .int (zI x2)), (3, .int (zI x3)), (4, .int (zI x4)), (5, .int (zI x5))]) rfl ?_
  intro gp ge gR gs gm ga gb gh gc gA gQ gRf gRl gC gret
  unfold wp_Mo_settings at h
  refine v_aload_n gC d_Mo_settings_0 rfl 0 rfl ?_
  refine v_iconst gC d_Mo_settings_1 ?_
  refine v_puti (ws' := (w_Mo K d0 (mkMo 0 (gMo_corners s0) (gMo_px s0) (gMo_py s0) (gMo_pz s0) (gMo_triangles s0) (gMo_named s0) (gMo_joined s0) (gMo_dropped s0) (gMo_closed s0) (gMo_layers s0) (gMo_thickness s0) (gMo_cuts s0) (gMo_cx s0) (gMo_cy s0) (gMo_cz s0) (gMo_solids s0) (gMo_shell s0) (gMo_skin s0) (gMo_period s0) (gMo_reach s0) (gMo_gap s0) (gMo_bytes s0) (gMo_played s0) (gMo_at s0) (gMo_program s0) (gMo_beads s0) (gMo_ring s0)))) gC in_Mo t_Mo ok_Mo n_Mo 0 rfl rfl 0 (by decide) fl_Mo_60 rfl (by decide +kernel) (Nat.le_of_ble_eq_true rfl) rfl d_Mo_settings_2 ?_
  refine v_iload_n gC d_Mo_settings_5 rfl 1 rfl ?_
  refine v_iconst gC d_Mo_settings_6 ?_
  refine v_iconst gC d_Mo_settings_7 ?_
  refine v_callS (rest := []) gC (k_Mo_in l D K x1 0 3 _ h) wS_Mo_66 rfl ⟨by omega, by omega, Nat.zero_le _, Nat.zero_le _⟩ [] [0, 1, 2, 3, 4, 5, 6, 7, 8, 9, 10, 11] rfl (by decide) rfl (by decide) (by decide) rfl (Nat.le_of_ble_eq_true rfl) d_Mo_settings_8 (fun v w1 hp => ?_)
  obtain ⟨r1, rfl, rfl, h⟩ := hp
  refine v_after (ws' := (w_Mo K d0 (mkMo 0 (gMo_corners s0) (gMo_px s0) (gMo_py s0) (gMo_pz s0) (gMo_triangles s0) (gMo_named s0) (gMo_joined s0) (gMo_dropped s0) (gMo_closed s0) (gMo_layers s0) (gMo_thickness s0) (gMo_cuts s0) (gMo_cx s0) (gMo_cy s0) (gMo_cz s0) (gMo_solids s0) (gMo_shell s0) (gMo_skin s0) (gMo_period s0) (gMo_reach s0) (gMo_gap s0) (gMo_bytes s0) (gMo_played s0) (gMo_at s0) (gMo_program s0) (gMo_beads s0) (gMo_ring s0)))) (st' := [.int (zI r1)]) [0, 1, 2, 3, 4, 5, 6, 7, 8, 9, 10, 11] (by decide) rfl rfl ?_
  obtain ⟨hg2, h⟩ := h
  refine v_if_eq (tgt := 53) gC d_Mo_settings_11 (by decide) hg2 (fun hc => ?_) (fun hc => ?_)
  · replace h := h.1 hc
    refine v_iconst gC d_Mo_settings_53 ?_
    exact gret _ _ _ _ d_Mo_settings_54 rfl ⟨0, (mkMo 0 (gMo_corners s0) (gMo_px s0) (gMo_py s0) (gMo_pz s0) (gMo_triangles s0) (gMo_named s0) (gMo_joined s0) (gMo_dropped s0) (gMo_closed s0) (gMo_layers s0) (gMo_thickness s0) (gMo_cuts s0) (gMo_cx s0) (gMo_cy s0) (gMo_cz s0) (gMo_solids s0) (gMo_shell s0) (gMo_skin s0) (gMo_period s0) (gMo_reach s0) (gMo_gap s0) (gMo_bytes s0) (gMo_played s0) (gMo_at s0) (gMo_program s0) (gMo_beads s0) (gMo_ring s0)), rfl, rfl, h⟩
  · replace h := h.2 hc
    refine v_iload_n gC d_Mo_settings_14 rfl 2 rfl ?_
    refine v_iconst gC d_Mo_settings_15 ?_
    refine v_iconst gC d_Mo_settings_16 ?_
    refine v_callS (rest := []) gC (k_Mo_in l D K x2 0 3 _ h) wS_Mo_66 rfl ⟨by omega, by omega, Nat.zero_le _, Nat.zero_le _⟩ [] [0, 1, 2, 3, 4, 5, 6, 7, 8, 9, 10, 11] rfl (by decide) rfl (by decide) (by decide) rfl (Nat.le_of_ble_eq_true rfl) d_Mo_settings_17 (fun v w1 hp => ?_)
    obtain ⟨r3, rfl, rfl, h⟩ := hp
    refine v_after (ws' := (w_Mo K d0 (mkMo 0 (gMo_corners s0) (gMo_px s0) (gMo_py s0) (gMo_pz s0) (gMo_triangles s0) (gMo_named s0) (gMo_joined s0) (gMo_dropped s0) (gMo_closed s0) (gMo_layers s0) (gMo_thickness s0) (gMo_cuts s0) (gMo_cx s0) (gMo_cy s0) (gMo_cz s0) (gMo_solids s0) (gMo_shell s0) (gMo_skin s0) (gMo_period s0) (gMo_reach s0) (gMo_gap s0) (gMo_bytes s0) (gMo_played s0) (gMo_at s0) (gMo_program s0) (gMo_beads s0) (gMo_ring s0)))) (st' := [.int (zI r3)]) [0, 1, 2, 3, 4, 5, 6, 7, 8, 9, 10, 11] (by decide) rfl rfl ?_
    obtain ⟨hg4, h⟩ := h
    refine v_if_eq (tgt := 53) gC d_Mo_settings_20 (by decide) hg4 (fun hc => ?_) (fun hc => ?_)
    · replace h := h.1 hc
      refine v_iconst gC d_Mo_settings_53 ?_
      exact gret _ _ _ _ d_Mo_settings_54 rfl ⟨0, (mkMo 0 (gMo_corners s0) (gMo_px s0) (gMo_py s0) (gMo_pz s0) (gMo_triangles s0) (gMo_named s0) (gMo_joined s0) (gMo_dropped s0) (gMo_closed s0) (gMo_layers s0) (gMo_thickness s0) (gMo_cuts s0) (gMo_cx s0) (gMo_cy s0) (gMo_cz s0) (gMo_solids s0) (gMo_shell s0) (gMo_skin s0) (gMo_period s0) (gMo_reach s0) (gMo_gap s0) (gMo_bytes s0) (gMo_played s0) (gMo_at s0) (gMo_program s0) (gMo_beads s0) (gMo_ring s0)), rfl, rfl, h⟩
    · replace h := h.2 hc
      refine v_iload_n gC d_Mo_settings_23 rfl 3 rfl ?_
      refine v_iconst gC d_Mo_settings_24 ?_
      refine v_bipush gC d_Mo_settings_25 (by decide) ?_
      refine v_callS (rest := []) gC (k_Mo_in l D K x3 0 6 _ h) wS_Mo_66 rfl ⟨by omega, by omega, Nat.zero_le _, Nat.zero_le _⟩ [] [0, 1, 2, 3, 4, 5, 6, 7, 8, 9, 10, 11] rfl (by decide) rfl (by decide) (by decide) rfl (Nat.le_of_ble_eq_true rfl) d_Mo_settings_27 (fun v w1 hp => ?_)
      obtain ⟨r5, rfl, rfl, h⟩ := hp
      refine v_after (ws' := (w_Mo K d0 (mkMo 0 (gMo_corners s0) (gMo_px s0) (gMo_py s0) (gMo_pz s0) (gMo_triangles s0) (gMo_named s0) (gMo_joined s0) (gMo_dropped s0) (gMo_closed s0) (gMo_layers s0) (gMo_thickness s0) (gMo_cuts s0) (gMo_cx s0) (gMo_cy s0) (gMo_cz s0) (gMo_solids s0) (gMo_shell s0) (gMo_skin s0) (gMo_period s0) (gMo_reach s0) (gMo_gap s0) (gMo_bytes s0) (gMo_played s0) (gMo_at s0) (gMo_program s0) (gMo_beads s0) (gMo_ring s0)))) (st' := [.int (zI r5)]) [0, 1, 2, 3, 4, 5, 6, 7, 8, 9, 10, 11] (by decide) rfl rfl ?_
      obtain ⟨hg6, h⟩ := h
      refine v_if_eq (tgt := 53) gC d_Mo_settings_30 (by decide) hg6 (fun hc => ?_) (fun hc => ?_)
      · replace h := h.1 hc
        refine v_iconst gC d_Mo_settings_53 ?_
        exact gret _ _ _ _ d_Mo_settings_54 rfl ⟨0, (mkMo 0 (gMo_corners s0) (gMo_px s0) (gMo_py s0) (gMo_pz s0) (gMo_triangles s0) (gMo_named s0) (gMo_joined s0) (gMo_dropped s0) (gMo_closed s0) (gMo_layers s0) (gMo_thickness s0) (gMo_cuts s0) (gMo_cx s0) (gMo_cy s0) (gMo_cz s0) (gMo_solids s0) (gMo_shell s0) (gMo_skin s0) (gMo_period s0) (gMo_reach s0) (gMo_gap s0) (gMo_bytes s0) (gMo_played s0) (gMo_at s0) (gMo_program s0) (gMo_beads s0) (gMo_ring s0)), rfl, rfl, h⟩
      · replace h := h.2 hc
        refine v_iload gC d_Mo_settings_33 4 rfl ?_
        refine v_iconst gC d_Mo_settings_35 ?_
        refine v_iconst gC d_Mo_settings_36 ?_
        refine v_callS (rest := []) gC (k_Mo_in l D K x4 0 3 _ h) wS_Mo_66 rfl ⟨by omega, by omega, Nat.zero_le _, Nat.zero_le _⟩ [] [0, 1, 2, 3, 4, 5, 6, 7, 8, 9, 10, 11] rfl (by decide) rfl (by decide) (by decide) rfl (Nat.le_of_ble_eq_true rfl) d_Mo_settings_37 (fun v w1 hp => ?_)
        obtain ⟨r7, rfl, rfl, h⟩ := hp
        refine v_after (ws' := (w_Mo K d0 (mkMo 0 (gMo_corners s0) (gMo_px s0) (gMo_py s0) (gMo_pz s0) (gMo_triangles s0) (gMo_named s0) (gMo_joined s0) (gMo_dropped s0) (gMo_closed s0) (gMo_layers s0) (gMo_thickness s0) (gMo_cuts s0) (gMo_cx s0) (gMo_cy s0) (gMo_cz s0) (gMo_solids s0) (gMo_shell s0) (gMo_skin s0) (gMo_period s0) (gMo_reach s0) (gMo_gap s0) (gMo_bytes s0) (gMo_played s0) (gMo_at s0) (gMo_program s0) (gMo_beads s0) (gMo_ring s0)))) (st' := [.int (zI r7)]) [0, 1, 2, 3, 4, 5, 6, 7, 8, 9, 10, 11] (by decide) rfl rfl ?_
        obtain ⟨hg8, h⟩ := h
        refine v_if_eq (tgt := 53) gC d_Mo_settings_40 (by decide) hg8 (fun hc => ?_) (fun hc => ?_)
        · replace h := h.1 hc
          refine v_iconst gC d_Mo_settings_53 ?_
          exact gret _ _ _ _ d_Mo_settings_54 rfl ⟨0, (mkMo 0 (gMo_corners s0) (gMo_px s0) (gMo_py s0) (gMo_pz s0) (gMo_triangles s0) (gMo_named s0) (gMo_joined s0) (gMo_dropped s0) (gMo_closed s0) (gMo_layers s0) (gMo_thickness s0) (gMo_cuts s0) (gMo_cx s0) (gMo_cy s0) (gMo_cz s0) (gMo_solids s0) (gMo_shell s0) (gMo_skin s0) (gMo_period s0) (gMo_reach s0) (gMo_gap s0) (gMo_bytes s0) (gMo_played s0) (gMo_at s0) (gMo_program s0) (gMo_beads s0) (gMo_ring s0)), rfl, rfl, h⟩
        · replace h := h.2 hc
          refine v_iload gC d_Mo_settings_43 5 rfl ?_
          refine v_iconst gC d_Mo_settings_45 ?_
          refine v_iconst gC d_Mo_settings_46 ?_
          refine v_callS (rest := []) gC (k_Mo_in l D K x5 0 2 _ h) wS_Mo_66 rfl ⟨by omega, by omega, Nat.zero_le _, Nat.zero_le _⟩ [] [0, 1, 2, 3, 4, 5, 6, 7, 8, 9, 10, 11] rfl (by decide) rfl (by decide) (by decide) rfl (Nat.le_of_ble_eq_true rfl) d_Mo_settings_47 (fun v w1 hp => ?_)
          obtain ⟨r9, rfl, rfl, h⟩ := hp
          refine v_after (ws' := (w_Mo K d0 (mkMo 0 (gMo_corners s0) (gMo_px s0) (gMo_py s0) (gMo_pz s0) (gMo_triangles s0) (gMo_named s0) (gMo_joined s0) (gMo_dropped s0) (gMo_closed s0) (gMo_layers s0) (gMo_thickness s0) (gMo_cuts s0) (gMo_cx s0) (gMo_cy s0) (gMo_cz s0) (gMo_solids s0) (gMo_shell s0) (gMo_skin s0) (gMo_period s0) (gMo_reach s0) (gMo_gap s0) (gMo_bytes s0) (gMo_played s0) (gMo_at s0) (gMo_program s0) (gMo_beads s0) (gMo_ring s0)))) (st' := [.int (zI r9)]) [0, 1, 2, 3, 4, 5, 6, 7, 8, 9, 10, 11] (by decide) rfl rfl ?_
          obtain ⟨hg10, h⟩ := h
          refine v_if_ne (tgt := 55) gC d_Mo_settings_50 (by decide) hg10 (fun hc => ?_) (fun hc => ?_)
          · replace h := h.1 hc
            refine v_aload_n gC d_Mo_settings_55 rfl 0 rfl ?_
            refine v_iload_n gC d_Mo_settings_56 rfl 1 rfl ?_
            refine v_puti (ws' := (w_Mo K d0 (mkMo 0 (gMo_corners s0) (gMo_px s0) (gMo_py s0) (gMo_pz s0) (gMo_triangles s0) (gMo_named s0) (gMo_joined s0) (gMo_dropped s0) (gMo_closed s0) (gMo_layers s0) (gMo_thickness s0) (gMo_cuts s0) (gMo_cx s0) (gMo_cy s0) (gMo_cz s0) (gMo_solids s0) x1 (gMo_skin s0) (gMo_period s0) (gMo_reach s0) (gMo_gap s0) (gMo_bytes s0) (gMo_played s0) (gMo_at s0) (gMo_program s0) (gMo_beads s0) (gMo_ring s0)))) gC in_Mo t_Mo ok_Mo n_Mo 0 rfl rfl 17 (by decide) fl_Mo_44 rfl (by decide +kernel) (Nat.le_of_ble_eq_true rfl) rfl d_Mo_settings_57 ?_
            refine v_aload_n gC d_Mo_settings_60 rfl 0 rfl ?_
            refine v_iload_n gC d_Mo_settings_61 rfl 2 rfl ?_
            refine v_puti (ws' := (w_Mo K d0 (mkMo 0 (gMo_corners s0) (gMo_px s0) (gMo_py s0) (gMo_pz s0) (gMo_triangles s0) (gMo_named s0) (gMo_joined s0) (gMo_dropped s0) (gMo_closed s0) (gMo_layers s0) (gMo_thickness s0) (gMo_cuts s0) (gMo_cx s0) (gMo_cy s0) (gMo_cz s0) (gMo_solids s0) x1 x2 (gMo_period s0) (gMo_reach s0) (gMo_gap s0) (gMo_bytes s0) (gMo_played s0) (gMo_at s0) (gMo_program s0) (gMo_beads s0) (gMo_ring s0)))) gC in_Mo t_Mo ok_Mo n_Mo 0 rfl rfl 18 (by decide) fl_Mo_48 rfl (by decide +kernel) (Nat.le_of_ble_eq_true rfl) rfl d_Mo_settings_62 ?_
            refine v_aload_n gC d_Mo_settings_65 rfl 0 rfl ?_
            refine v_iload_n gC d_Mo_settings_66 rfl 3 rfl ?_
            refine v_puti (ws' := (w_Mo K d0 (mkMo 0 (gMo_corners s0) (gMo_px s0) (gMo_py s0) (gMo_pz s0) (gMo_triangles s0) (gMo_named s0) (gMo_joined s0) (gMo_dropped s0) (gMo_closed s0) (gMo_layers s0) (gMo_thickness s0) (gMo_cuts s0) (gMo_cx s0) (gMo_cy s0) (gMo_cz s0) (gMo_solids s0) x1 x2 x3 (gMo_reach s0) (gMo_gap s0) (gMo_bytes s0) (gMo_played s0) (gMo_at s0) (gMo_program s0) (gMo_beads s0) (gMo_ring s0)))) gC in_Mo t_Mo ok_Mo n_Mo 0 rfl rfl 19 (by decide) fl_Mo_51 rfl (by decide +kernel) (Nat.le_of_ble_eq_true rfl) rfl d_Mo_settings_67 ?_
            refine v_aload_n gC d_Mo_settings_70 rfl 0 rfl ?_
            refine v_iload gC d_Mo_settings_71 4 rfl ?_
            refine v_puti (ws' := (w_Mo K d0 (mkMo 0 (gMo_corners s0) (gMo_px s0) (gMo_py s0) (gMo_pz s0) (gMo_triangles s0) (gMo_named s0) (gMo_joined s0) (gMo_dropped s0) (gMo_closed s0) (gMo_layers s0) (gMo_thickness s0) (gMo_cuts s0) (gMo_cx s0) (gMo_cy s0) (gMo_cz s0) (gMo_solids s0) x1 x2 x3 x4 (gMo_gap s0) (gMo_bytes s0) (gMo_played s0) (gMo_at s0) (gMo_program s0) (gMo_beads s0) (gMo_ring s0)))) gC in_Mo t_Mo ok_Mo n_Mo 0 rfl rfl 20 (by decide) fl_Mo_54 rfl (by decide +kernel) (Nat.le_of_ble_eq_true rfl) rfl d_Mo_settings_73 ?_
            refine v_aload_n gC d_Mo_settings_76 rfl 0 rfl ?_
            refine v_iload gC d_Mo_settings_77 5 rfl ?_
            refine v_puti (ws' := (w_Mo K d0 (mkMo 0 (gMo_corners s0) (gMo_px s0) (gMo_py s0) (gMo_pz s0) (gMo_triangles s0) (gMo_named s0) (gMo_joined s0) (gMo_dropped s0) (gMo_closed s0) (gMo_layers s0) (gMo_thickness s0) (gMo_cuts s0) (gMo_cx s0) (gMo_cy s0) (gMo_cz s0) (gMo_solids s0) x1 x2 x3 x4 x5 (gMo_bytes s0) (gMo_played s0) (gMo_at s0) (gMo_program s0) (gMo_beads s0) (gMo_ring s0)))) gC in_Mo t_Mo ok_Mo n_Mo 0 rfl rfl 21 (by decide) fl_Mo_158 rfl (by decide +kernel) (Nat.le_of_ble_eq_true rfl) rfl d_Mo_settings_79 ?_
            refine v_iconst gC d_Mo_settings_82 ?_
            exact gret _ _ _ _ d_Mo_settings_83 rfl ⟨1, (mkMo 0 (gMo_corners s0) (gMo_px s0) (gMo_py s0) (gMo_pz s0) (gMo_triangles s0) (gMo_named s0) (gMo_joined s0) (gMo_dropped s0) (gMo_closed s0) (gMo_layers s0) (gMo_thickness s0) (gMo_cuts s0) (gMo_cx s0) (gMo_cy s0) (gMo_cz s0) (gMo_solids s0) x1 x2 x3 x4 x5 (gMo_bytes s0) (gMo_played s0) (gMo_at s0) (gMo_program s0) (gMo_beads s0) (gMo_ring s0)), rfl, rfl, h⟩
          · replace h := h.2 hc
            refine v_iconst gC d_Mo_settings_53 ?_
            exact gret _ _ _ _ d_Mo_settings_54 rfl ⟨0, (mkMo 0 (gMo_corners s0) (gMo_px s0) (gMo_py s0) (gMo_pz s0) (gMo_triangles s0) (gMo_named s0) (gMo_joined s0) (gMo_dropped s0) (gMo_closed s0) (gMo_layers s0) (gMo_thickness s0) (gMo_cuts s0) (gMo_cx s0) (gMo_cy s0) (gMo_cz s0) (gMo_solids s0) (gMo_shell s0) (gMo_skin s0) (gMo_period s0) (gMo_reach s0) (gMo_gap s0) (gMo_bytes s0) (gMo_played s0) (gMo_at s0) (gMo_program s0) (gMo_beads s0) (gMo_ring s0)), rfl, rfl, h⟩

set_option maxHeartbeats 4000000 in
set_option maxRecDepth 100000 in
theorem k_Mo_around (l : Launch) (D : va_G) (K : Nat → ClassId) (d0 : Nat → Nat) (x1 : Int) (x2 : Int) (x3 : Int) (x4 : Int) (s0 : s_Mo) (Q : Int → Prop) (h : wp_Mo_around x1 x2 x3 x4 s0 Q) : Kt l D K y_Mo_around b_Mo_around 8 (some .int) 2 45 [.ref (d0 0), .int (zI x1), .int (zI x2), .int (zI x3), .int (zI x4)] (w_Mo K d0 s0) (fun v w1 => ∃ (r : Int), v = some (.int (zI r)) ∧ w1 = (w_Mo K d0 s0) ∧ Q r) := by
  refine Kt.ofI (by decide +kernel) (Nat.le_of_ble_eq_true rfl) (lv0 := [(0, .ref (d0 0)), (1, .int (zI x1)), (2, .int (zI x2)), (3, .int (zI x3)), (4, .int (zI x4))]) rfl ?_
  intro gp ge gR gs gm ga gb gh gc gA gQ gRf gRl gC gret
  unfold wp_Mo_around at h
  replace h := h
    (fun (v5 : Int) (v6 : Int) => V gp l ge gR gs gm ga gb gh gc D gA 8 0 0 gQ (w_Mo K d0 s0) 9 [(0, .ref (d0 0)), (1, .int (zI x1)), (2, .int (zI x2)), (3, .int (zI x3)), (4, .int (zI x4)), (5, .int (zI v5)), (6, .int (zI v6))] [])
    (fun (v5 : Int) (v6 : Int) (v7 : Int) => V gp l ge gR gs gm ga gb gh gc D gA 8 0 0 gQ (w_Mo K d0 s0) 24 [(0, .ref (d0 0)), (1, .int (zI x1)), (2, .int (zI x2)), (3, .int (zI x3)), (4, .int (zI x4)), (5, .int (zI v5)), (6, .int (zI v6)), (7, .int (zI v7))] [])
    (by
      intro v5 v6 h
      refine v_iload gC d_Mo_around_9 6 rfl ?_
      refine v_iload_n gC d_Mo_around_11 rfl 2 rfl ?_
      refine v_iload gC d_Mo_around_12 4 rfl ?_
      refine v_iadd gC d_Mo_around_14 (x2 + x4) rfl ?_
      obtain ⟨hg1, hg2, h⟩ := h
      refine v_icmp_gt (tgt := 67) gC d_Mo_around_15 (by decide) hg1 hg2 (fun hc => ?_) (fun hc => ?_)
      · replace h := h.1 hc
        refine v_iload gC d_Mo_around_67 5 rfl ?_
        exact gret _ _ _ _ d_Mo_around_69 ⟨v5, rfl, rfl, h⟩
      · replace h := h.2 hc
        refine v_iload_n gC d_Mo_around_18 rfl 3 rfl ?_
        refine v_iload gC d_Mo_around_19 4 rfl ?_
        refine v_isub gC d_Mo_around_21 (x3 - x4) rfl ?_
        refine v_istore (lv' := [(0, .ref (d0 0)), (1, .int (zI x1)), (2, .int (zI x2)), (3, .int (zI x3)), (4, .int (zI x4)), (5, .int (zI v5)), (6, .int (zI v6)), (7, .int (zI (x3 - x4)))]) gC d_Mo_around_22 (by decide) [1, 2, 3, 4, 5, 6, 7, 0] rfl ?_
        refine v_loc (lv' := [(0, .ref (d0 0)), (1, .int (zI x1)), (2, .int (zI x2)), (3, .int (zI x3)), (4, .int (zI x4)), (5, .int (zI v5)), (6, .int (zI v6)), (7, .int (zI (x3 - x4)))]) [0, 1, 2, 3, 4, 5, 6, 7] rfl ?_
        exact h)
    (by
      intro v5 v6 v7 h
      refine v_iload gC d_Mo_around_24 7 rfl ?_
      refine v_iload_n gC d_Mo_around_26 rfl 3 rfl ?_
      refine v_iload gC d_Mo_around_27 4 rfl ?_
      refine v_iadd gC d_Mo_around_29 (x3 + x4) rfl ?_
      obtain ⟨hg3, hg4, h⟩ := h
      refine v_icmp_gt (tgt := 61) gC d_Mo_around_30 (by decide) hg3 hg4 (fun hc => ?_) (fun hc => ?_)
      · replace h := h.1 hc
        refine v_iinc (lv' := [(0, .ref (d0 0)), (1, .int (zI x1)), (2, .int (zI x2)), (3, .int (zI x3)), (4, .int (zI x4)), (5, .int (zI v5)), (6, .int (zI (v6 + 1))), (7, .int (zI v7))]) gC d_Mo_around_61 6 rfl (by decide) (v6 + 1) rfl [1, 2, 3, 4, 5, 6, 0, 7] rfl ?_
        refine v_goto (tgt := 9) gC d_Mo_around_64 (by decide) ?_
        refine v_loc (lv' := [(0, .ref (d0 0)), (1, .int (zI x1)), (2, .int (zI x2)), (3, .int (zI x3)), (4, .int (zI x4)), (5, .int (zI v5)), (6, .int (zI (v6 + 1)))]) [0, 1, 2, 3, 4, 5, 6] rfl ?_
        exact h
      · replace h := h.2 hc
        refine v_iload gC d_Mo_around_33 5 rfl ?_
        refine v_aload_n gC d_Mo_around_35 rfl 0 rfl ?_
        refine v_iload_n gC d_Mo_around_36 rfl 1 rfl ?_
        refine v_iload gC d_Mo_around_37 6 rfl ?_
        refine v_iload gC d_Mo_around_39 7 rfl ?_
        refine v_callV (rest := [.int (zI v5)]) gC (k_Mo_isSolid l D K d0 x1 v6 v7 s0 _ h) wV_Mo_155 rfl ⟨by omega, by omega, Nat.zero_le _, Nat.zero_le _⟩ 0 rfl rfl [0, 1, 2, 3, 4, 5, 6, 7, 8, 9, 10, 11] [] rfl (by decide) rfl (by decide) (by decide) rfl (Nat.le_of_ble_eq_true rfl) d_Mo_around_41 (fun v w1 hp => ?_)
        obtain ⟨r5, rfl, rfl, h⟩ := hp
        refine v_after (ws' := (w_Mo K d0 s0)) (st' := [.int (zI r5), .int (zI v5)]) [0, 1, 2, 3, 4, 5, 6, 7, 8, 9, 10, 11] (by decide) rfl rfl ?_
        obtain ⟨hg6, h⟩ := h
        refine v_if_eq (tgt := 51) gC d_Mo_around_44 (by decide) hg6 (fun hc => ?_) (fun hc => ?_)
        · replace h := h.1 hc
          refine v_iconst gC d_Mo_around_51 ?_
          refine v_iadd gC d_Mo_around_52 (v5 + 0) rfl ?_
          refine v_istore (lv' := [(0, .ref (d0 0)), (1, .int (zI x1)), (2, .int (zI x2)), (3, .int (zI x3)), (4, .int (zI x4)), (5, .int (zI (v5 + 0))), (6, .int (zI v6)), (7, .int (zI v7))]) gC d_Mo_around_53 (by decide) [1, 2, 3, 4, 5, 0, 6, 7] rfl ?_
          refine v_iinc (lv' := [(0, .ref (d0 0)), (1, .int (zI x1)), (2, .int (zI x2)), (3, .int (zI x3)), (4, .int (zI x4)), (5, .int (zI (v5 + 0))), (6, .int (zI v6)), (7, .int (zI (v7 + 1)))]) gC d_Mo_around_55 7 rfl (by decide) (v7 + 1) rfl [1, 2, 3, 4, 5, 6, 7, 0] rfl ?_
          refine v_goto (tgt := 24) gC d_Mo_around_58 (by decide) ?_
          refine v_loc (lv' := [(0, .ref (d0 0)), (1, .int (zI x1)), (2, .int (zI x2)), (3, .int (zI x3)), (4, .int (zI x4)), (5, .int (zI (v5 + 0))), (6, .int (zI v6)), (7, .int (zI (v7 + 1)))]) [0, 1, 2, 3, 4, 5, 6, 7] rfl ?_
          exact h
        · replace h := h.2 hc
          refine v_iconst gC d_Mo_around_47 ?_
          refine v_goto (tgt := 52) gC d_Mo_around_48 (by decide) ?_
          refine v_iadd gC d_Mo_around_52 (v5 + 1) rfl ?_
          refine v_istore (lv' := [(0, .ref (d0 0)), (1, .int (zI x1)), (2, .int (zI x2)), (3, .int (zI x3)), (4, .int (zI x4)), (5, .int (zI (v5 + 1))), (6, .int (zI v6)), (7, .int (zI v7))]) gC d_Mo_around_53 (by decide) [1, 2, 3, 4, 5, 0, 6, 7] rfl ?_
          refine v_iinc (lv' := [(0, .ref (d0 0)), (1, .int (zI x1)), (2, .int (zI x2)), (3, .int (zI x3)), (4, .int (zI x4)), (5, .int (zI (v5 + 1))), (6, .int (zI v6)), (7, .int (zI (v7 + 1)))]) gC d_Mo_around_55 7 rfl (by decide) (v7 + 1) rfl [1, 2, 3, 4, 5, 6, 7, 0] rfl ?_
          refine v_goto (tgt := 24) gC d_Mo_around_58 (by decide) ?_
          refine v_loc (lv' := [(0, .ref (d0 0)), (1, .int (zI x1)), (2, .int (zI x2)), (3, .int (zI x3)), (4, .int (zI x4)), (5, .int (zI (v5 + 1))), (6, .int (zI v6)), (7, .int (zI (v7 + 1)))]) [0, 1, 2, 3, 4, 5, 6, 7] rfl ?_
          exact h)
  refine v_iconst gC d_Mo_around_0 ?_
  refine v_istore (lv' := [(0, .ref (d0 0)), (1, .int (zI x1)), (2, .int (zI x2)), (3, .int (zI x3)), (4, .int (zI x4)), (5, .int (zI 0))]) gC d_Mo_around_1 (by decide) [1, 2, 3, 4, 5, 0] rfl ?_
  refine v_iload_n gC d_Mo_around_3 rfl 2 rfl ?_
  refine v_iload gC d_Mo_around_4 4 rfl ?_
  refine v_isub gC d_Mo_around_6 (x2 - x4) rfl ?_
  refine v_istore (lv' := [(0, .ref (d0 0)), (1, .int (zI x1)), (2, .int (zI x2)), (3, .int (zI x3)), (4, .int (zI x4)), (5, .int (zI 0)), (6, .int (zI (x2 - x4)))]) gC d_Mo_around_7 (by decide) [1, 2, 3, 4, 5, 6, 0] rfl ?_
  refine v_loc (lv' := [(0, .ref (d0 0)), (1, .int (zI x1)), (2, .int (zI x2)), (3, .int (zI x3)), (4, .int (zI x4)), (5, .int (zI 0)), (6, .int (zI (x2 - x4)))]) [0, 1, 2, 3, 4, 5, 6] rfl ?_
  exact h
