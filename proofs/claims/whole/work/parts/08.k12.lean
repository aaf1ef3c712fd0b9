set_option maxHeartbeats 4000000 in
set_option maxRecDepth 100000 in
theorem k_Mo_hangs (l : Launch) (D : va_G) (K : Nat → ClassId) (d0 : Nat → Nat) (x1 : Int) (x2 : Int) (x3 : Int) (s0 : s_Mo) (Q : Int → Prop) (h : wp_Mo_hangs x1 x2 x3 s0 Q) : Kt l D K y_Mo_hangs b_Mo_hangs 4 (some .boolean) 3 72 [.ref (d0 0), .int (zI x1), .int (zI x2), .int (zI x3)] (w_Mo K d0 s0) (fun v w1 => ∃ (r : Int), v = some (.int (zI r)) ∧ w1 = (w_Mo K d0 s0) ∧ Q r) := by
  refine Kt.ofZ (by decide +kernel) (Nat.le_of_ble_eq_true rfl) (lv0 := [(0, .ref (d0 0)), (1, .int (zI x1)), (2, .int (zI x2)), (3, .int (zI x3))]) rfl ?_
  intro gp ge gR gs gm ga gb gh gc gA gQ gRf gRl gC gret
  unfold wp_Mo_hangs at h
  refine v_iload_n gC d_Mo_hangs_0 rfl 1 rfl ?_
  obtain ⟨hg1, h⟩ := h
  refine v_if_le (tgt := 34) gC d_Mo_hangs_1 (by decide) hg1 (fun hc => ?_) (fun hc => ?_)
  · replace h := h.1 hc
    refine v_iconst gC d_Mo_hangs_34 ?_
    exact gret _ _ _ _ d_Mo_hangs_35 rfl ⟨0, rfl, rfl, h⟩
  · replace h := h.2 hc
    refine v_aload_n gC d_Mo_hangs_4 rfl 0 rfl ?_
    refine v_iload_n gC d_Mo_hangs_5 rfl 1 rfl ?_
    refine v_iload_n gC d_Mo_hangs_6 rfl 2 rfl ?_
    refine v_iload_n gC d_Mo_hangs_7 rfl 3 rfl ?_
    refine v_callV (rest := []) gC (k_Mo_isSolid l D K d0 x1 x2 x3 s0 _ h) wV_Mo_155 rfl ⟨by omega, by omega, Nat.zero_le _, Nat.zero_le _⟩ 0 rfl rfl [0, 1, 2, 3, 4, 5, 6, 7, 8, 9, 10, 11] [] rfl (by decide) rfl (by decide) (by decide) rfl (Nat.le_of_ble_eq_true rfl) d_Mo_hangs_8 (fun v w1 hp => ?_)
    obtain ⟨r2, rfl, rfl, h⟩ := hp
    refine v_after (ws' := (w_Mo K d0 s0)) (st' := [.int (zI r2)]) [0, 1, 2, 3, 4, 5, 6, 7, 8, 9, 10, 11] (by decide) rfl rfl ?_
    obtain ⟨hg3, h⟩ := h
    refine v_if_eq (tgt := 34) gC d_Mo_hangs_11 (by decide) hg3 (fun hc => ?_) (fun hc => ?_)
    · replace h := h.1 hc
      refine v_iconst gC d_Mo_hangs_34 ?_
      exact gret _ _ _ _ d_Mo_hangs_35 rfl ⟨0, rfl, rfl, h⟩
    · replace h := h.2 hc
      refine v_aload_n gC d_Mo_hangs_14 rfl 0 rfl ?_
      refine v_iload_n gC d_Mo_hangs_15 rfl 1 rfl ?_
      refine v_iconst gC d_Mo_hangs_16 ?_
      refine v_isub gC d_Mo_hangs_17 (x1 - 1) rfl ?_
      refine v_iload_n gC d_Mo_hangs_18 rfl 2 rfl ?_
      refine v_iload_n gC d_Mo_hangs_19 rfl 3 rfl ?_
      refine v_aload_n gC d_Mo_hangs_20 rfl 0 rfl ?_
      refine v_get (v := .int (zI (gMo_reach s0))) gC in_Mo 0 rfl rfl 20 (by decide) fl_Mo_54 rfl d_Mo_hangs_21 ?_
      refine v_callV (rest := []) gC (k_Mo_around l D K d0 (x1 - 1) x2 x3 (gMo_reach s0) s0 _ h) wV_Mo_161 rfl ⟨by omega, by omega, Nat.zero_le _, Nat.zero_le _⟩ 0 rfl rfl [0, 1, 2, 3, 4, 5, 6, 7, 8, 9, 10, 11] [] rfl (by decide) rfl (by decide) (by decide) rfl (Nat.le_of_ble_eq_true rfl) d_Mo_hangs_24 (fun v w1 hp => ?_)
      obtain ⟨r4, rfl, rfl, h⟩ := hp
      refine v_after (ws' := (w_Mo K d0 s0)) (st' := [.int (zI r4)]) [0, 1, 2, 3, 4, 5, 6, 7, 8, 9, 10, 11] (by decide) rfl rfl ?_
      obtain ⟨hg5, h⟩ := h
      refine v_if_ne (tgt := 34) gC d_Mo_hangs_27 (by decide) hg5 (fun hc => ?_) (fun hc => ?_)
      · replace h := h.1 hc
        refine v_iconst gC d_Mo_hangs_34 ?_
        exact gret _ _ _ _ d_Mo_hangs_35 rfl ⟨0, rfl, rfl, h⟩
      · replace h := h.2 hc
        refine v_iconst gC d_Mo_hangs_30 ?_
        refine v_goto (tgt := 35) gC d_Mo_hangs_31 (by decide) ?_
        exact gret _ _ _ _ d_Mo_hangs_35 rfl ⟨1, rfl, rfl, h⟩

set_option maxHeartbeats 4000000 in
set_option maxRecDepth 100000 in
theorem k_Mo_kindOf (l : Launch) (D : va_G) (K : Nat → ClassId) (d0 : Nat → Nat) (x1 : Int) (x2 : Int) (x3 : Int) (s0 : s_Mo) (Q : Int → Prop) (h : wp_Mo_kindOf x1 x2 x3 s0 Q) : Kt l D K y_Mo_kindOf b_Mo_kindOf 6 (some .int) 4 95 [.ref (d0 0), .int (zI x1), .int (zI x2), .int (zI x3)] (w_Mo K d0 s0) (fun v w1 => ∃ (r : Int), v = some (.int (zI r)) ∧ w1 = (w_Mo K d0 s0) ∧ Q r) := by
  refine Kt.ofI (by decide +kernel) (Nat.le_of_ble_eq_true rfl) (lv0 := [(0, .ref (d0 0)), (1, .int (zI x1)), (2, .int (zI x2)), (3, .int (zI x3))]) rfl ?_
  intro gp ge gR gs gm ga gb gh gc gA gQ gRf gRl gC gret
  unfold wp_Mo_kindOf at h
  replace h := h
    (fun (v4 : Int) => V gp l ge gR gs gm ga gb gh gc D gA 6 0 0 gQ (w_Mo K d0 s0) 51 [(0, .ref (d0 0)), (1, .int (zI x1)), (2, .int (zI x2)), (3, .int (zI x3)), (4, .int (zI v4))] [])
    (fun (v4 : Int) => V gp l ge gR gs gm ga gb gh gc D gA 6 0 0 gQ (w_Mo K d0 s0) 77 [(0, .ref (d0 0)), (1, .int (zI x1)), (2, .int (zI x2)), (3, .int (zI x3)), (4, .int (zI v4))] [])
    (fun (v5 : Int) => V gp l ge gR gs gm ga gb gh gc D gA 6 0 0 gQ (w_Mo K d0 s0) 159 [(0, .ref (d0 0)), (1, .int (zI x1)), (2, .int (zI x2)), (3, .int (zI x3)), (5, .int (zI v5))] [])
    (by
      intro v4 h
      refine v_iload gC d_Mo_kindOf_51 4 rfl ?_
      refine v_aload_n gC d_Mo_kindOf_53 rfl 0 rfl ?_
      refine v_get (v := .int (zI (gMo_layers s0))) gC in_Mo 0 rfl rfl 10 (by decide) fl_Mo_116 rfl d_Mo_kindOf_54 ?_
      obtain ⟨hg28, hg29, h⟩ := h
      refine v_icmp_ge (tgt := 77) gC d_Mo_kindOf_57 (by decide) hg28 hg29 (fun hc => ?_) (fun hc => ?_)
      · replace h := h.1 hc
        refine v_loc (lv' := [(0, .ref (d0 0)), (1, .int (zI x1)), (2, .int (zI x2)), (3, .int (zI x3)), (4, .int (zI v4))]) [0, 1, 2, 3, 4] rfl ?_
        exact h
      · replace h := h.2 hc
        refine v_aload_n gC d_Mo_kindOf_60 rfl 0 rfl ?_
        refine v_iload gC d_Mo_kindOf_61 4 rfl ?_
        refine v_iload_n gC d_Mo_kindOf_63 rfl 2 rfl ?_
        refine v_iload_n gC d_Mo_kindOf_64 rfl 3 rfl ?_
        refine v_callV (rest := []) gC (k_Mo_isSolid l D K d0 v4 x2 x3 s0 _ h) wV_Mo_155 rfl ⟨by omega, by omega, Nat.zero_le _, Nat.zero_le _⟩ 0 rfl rfl [0, 1, 2, 3, 4, 5, 6, 7, 8, 9, 10, 11] [] rfl (by decide) rfl (by decide) (by decide) rfl (Nat.le_of_ble_eq_true rfl) d_Mo_kindOf_65 (fun v w1 hp => ?_)
        obtain ⟨r30, rfl, rfl, h⟩ := hp
        refine v_after (ws' := (w_Mo K d0 s0)) (st' := [.int (zI r30)]) [0, 1, 2, 3, 4, 5, 6, 7, 8, 9, 10, 11] (by decide) rfl rfl ?_
        obtain ⟨hg31, h⟩ := h
        refine v_if_ne (tgt := 77) gC d_Mo_kindOf_68 (by decide) hg31 (fun hc => ?_) (fun hc => ?_)
        · replace h := h.1 hc
          refine v_loc (lv' := [(0, .ref (d0 0)), (1, .int (zI x1)), (2, .int (zI x2)), (3, .int (zI x3)), (4, .int (zI v4))]) [0, 1, 2, 3, 4] rfl ?_
          exact h
        · replace h := h.2 hc
          refine v_iinc (lv' := [(0, .ref (d0 0)), (1, .int (zI x1)), (2, .int (zI x2)), (3, .int (zI x3)), (4, .int (zI (v4 + 1)))]) gC d_Mo_kindOf_71 4 rfl (by decide) (v4 + 1) rfl [1, 2, 3, 4, 0] rfl ?_
          refine v_goto (tgt := 51) gC d_Mo_kindOf_74 (by decide) ?_
          refine v_loc (lv' := [(0, .ref (d0 0)), (1, .int (zI x1)), (2, .int (zI x2)), (3, .int (zI x3)), (4, .int (zI (v4 + 1)))]) [0, 1, 2, 3, 4] rfl ?_
          exact h)
    (by
      intro v4 h
      refine v_aload_n gC d_Mo_kindOf_77 rfl 0 rfl ?_
      refine v_iload gC d_Mo_kindOf_78 4 rfl ?_
      refine v_iload_n gC d_Mo_kindOf_80 rfl 2 rfl ?_
      refine v_iload_n gC d_Mo_kindOf_81 rfl 3 rfl ?_
      refine v_callV (rest := []) gC (k_Mo_hangs l D K d0 v4 x2 x3 s0 _ h) wV_Mo_164 rfl ⟨by omega, by omega, Nat.zero_le _, Nat.zero_le _⟩ 0 rfl rfl [0, 1, 2, 3, 4, 5, 6, 7, 8, 9, 10, 11] [] rfl (by decide) rfl (by decide) (by decide) rfl (Nat.le_of_ble_eq_true rfl) d_Mo_kindOf_82 (fun v w1 hp => ?_)
      obtain ⟨r32, rfl, rfl, h⟩ := hp
      refine v_after (ws' := (w_Mo K d0 s0)) (st' := [.int (zI r32)]) [0, 1, 2, 3, 4, 5, 6, 7, 8, 9, 10, 11] (by decide) rfl rfl ?_
      obtain ⟨hg33, h⟩ := h
      refine v_if_ne (tgt := 90) gC d_Mo_kindOf_85 (by decide) hg33 (fun hc => ?_) (fun hc => ?_)
      · replace h := h.1 hc
        refine v_aload_n gC d_Mo_kindOf_90 rfl 0 rfl ?_
        refine v_get (v := .int (zI (gMo_gap s0))) gC in_Mo 0 rfl rfl 21 (by decide) fl_Mo_158 rfl d_Mo_kindOf_91 ?_
        obtain ⟨hg34, h⟩ := h
        refine v_if_le (tgt := 116) gC d_Mo_kindOf_94 (by decide) hg34 (fun hc => ?_) (fun hc => ?_)
        · replace h := h.1 hc
          refine v_iconst gC d_Mo_kindOf_116 ?_
          exact gret _ _ _ _ d_Mo_kindOf_117 ⟨5, rfl, rfl, h⟩
        · replace h := h.2 hc
          refine v_aload_n gC d_Mo_kindOf_97 rfl 0 rfl ?_
          refine v_iload_n gC d_Mo_kindOf_98 rfl 1 rfl ?_
          refine v_iload_n gC d_Mo_kindOf_99 rfl 2 rfl ?_
          refine v_iload_n gC d_Mo_kindOf_100 rfl 3 rfl ?_
          refine v_aload_n gC d_Mo_kindOf_101 rfl 0 rfl ?_
          refine v_get (v := .int (zI (gMo_gap s0))) gC in_Mo 0 rfl rfl 21 (by decide) fl_Mo_158 rfl d_Mo_kindOf_102 ?_
          refine v_callV (rest := []) gC (k_Mo_around l D K d0 x1 x2 x3 (gMo_gap s0) s0 _ h) wV_Mo_161 rfl ⟨by omega, by omega, Nat.zero_le _, Nat.zero_le _⟩ 0 rfl rfl [0, 1, 2, 3, 4, 5, 6, 7, 8, 9, 10, 11] [] rfl (by decide) rfl (by decide) (by decide) rfl (Nat.le_of_ble_eq_true rfl) d_Mo_kindOf_105 (fun v w1 hp => ?_)
          obtain ⟨r35, rfl, rfl, h⟩ := hp
          refine v_after (ws' := (w_Mo K d0 s0)) (st' := [.int (zI r35)]) [0, 1, 2, 3, 4, 5, 6, 7, 8, 9, 10, 11] (by decide) rfl rfl ?_
          obtain ⟨hg36, h⟩ := h
          refine v_if_le (tgt := 116) gC d_Mo_kindOf_108 (by decide) hg36 (fun hc => ?_) (fun hc => ?_)
          · replace h := h.1 hc
            refine v_iconst gC d_Mo_kindOf_116 ?_
            exact gret _ _ _ _ d_Mo_kindOf_117 ⟨5, rfl, rfl, h⟩
          · replace h := h.2 hc
            refine v_bipush gC d_Mo_kindOf_111 (by decide) ?_
            refine v_goto (tgt := 117) gC d_Mo_kindOf_113 (by decide) ?_
            exact gret _ _ _ _ d_Mo_kindOf_117 ⟨6, rfl, rfl, h⟩
      · replace h := h.2 hc
        refine v_iconst gC d_Mo_kindOf_88 ?_
        exact gret _ _ _ _ d_Mo_kindOf_89 ⟨0, rfl, rfl, h⟩)
    (by
      intro v5 h
      refine v_iload gC d_Mo_kindOf_159 4 rfl ?_
      refine v_aload_n gC d_Mo_kindOf_161 rfl 0 rfl ?_
      refine v_get (v := .int (zI (gMo_skin s0))) gC in_Mo 0 rfl rfl 18 (by decide) fl_Mo_48 rfl d_Mo_kindOf_162 ?_
      obtain ⟨hg13, hg14, h⟩ := h
      refine v_icmp_gt (tgt := 202) gC d_Mo_kindOf_165 (by decide) hg13 hg14 (fun hc => ?_) (fun hc => ?_)
      · replace h := h.1 hc
        refine v_aload_n gC d_Mo_kindOf_202 rfl 0 rfl ?_
        refine v_get (v := .int (zI (gMo_period s0))) gC in_Mo 0 rfl rfl 19 (by decide) fl_Mo_51 rfl d_Mo_kindOf_203 ?_
        obtain ⟨hg15, h⟩ := h
        refine v_if_le (tgt := 232) gC d_Mo_kindOf_206 (by decide) hg15 (fun hc => ?_) (fun hc => ?_)
        · replace h := h.1 hc
          refine v_iconst gC d_Mo_kindOf_232 ?_
          exact gret _ _ _ _ d_Mo_kindOf_233 ⟨4, rfl, rfl, h⟩
        · replace h := h.2 hc
          refine v_iload_n gC d_Mo_kindOf_209 rfl 1 rfl ?_
          refine v_iconst gC d_Mo_kindOf_210 ?_
          obtain ⟨hg16, h⟩ := h
          refine v_irem gC d_Mo_kindOf_211 hg16 (by decide) (by decide) ?_
          obtain ⟨hg17, h⟩ := h
          refine v_if_ne (tgt := 219) gC d_Mo_kindOf_212 (by decide) hg17 (fun hc => ?_) (fun hc => ?_)
          · replace h := h.1 hc
            refine v_iload_n gC d_Mo_kindOf_219 rfl 3 rfl ?_
            refine v_aload_n gC d_Mo_kindOf_220 rfl 0 rfl ?_
            refine v_get (v := .int (zI (gMo_period s0))) gC in_Mo 0 rfl rfl 19 (by decide) fl_Mo_51 rfl d_Mo_kindOf_221 ?_
            obtain ⟨hg18, hg19, h⟩ := h
            refine v_irem gC d_Mo_kindOf_224 hg18 hg15 hg19 ?_
            obtain ⟨hg20, h⟩ := h
            refine v_if_ne (tgt := 232) gC d_Mo_kindOf_225 (by decide) hg20 (fun hc => ?_) (fun hc => ?_)
            · replace h := h.1 hc
              refine v_iconst gC d_Mo_kindOf_232 ?_
              exact gret _ _ _ _ d_Mo_kindOf_233 ⟨4, rfl, rfl, h⟩
            · replace h := h.2 hc
              refine v_iconst gC d_Mo_kindOf_228 ?_
              refine v_goto (tgt := 233) gC d_Mo_kindOf_229 (by decide) ?_
              exact gret _ _ _ _ d_Mo_kindOf_233 ⟨3, rfl, rfl, h⟩
          · replace h := h.2 hc
            refine v_iload_n gC d_Mo_kindOf_215 rfl 2 rfl ?_
            refine v_goto (tgt := 220) gC d_Mo_kindOf_216 (by decide) ?_
            refine v_aload_n gC d_Mo_kindOf_220 rfl 0 rfl ?_
            refine v_get (v := .int (zI (gMo_period s0))) gC in_Mo 0 rfl rfl 19 (by decide) fl_Mo_51 rfl d_Mo_kindOf_221 ?_
            obtain ⟨hg21, hg22, h⟩ := h
            refine v_irem gC d_Mo_kindOf_224 hg21 hg15 hg22 ?_
            obtain ⟨hg23, h⟩ := h
            refine v_if_ne (tgt := 232) gC d_Mo_kindOf_225 (by decide) hg23 (fun hc => ?_) (fun hc => ?_)
            · replace h := h.1 hc
              refine v_iconst gC d_Mo_kindOf_232 ?_
              exact gret _ _ _ _ d_Mo_kindOf_233 ⟨4, rfl, rfl, h⟩
            · replace h := h.2 hc
              refine v_iconst gC d_Mo_kindOf_228 ?_
              refine v_goto (tgt := 233) gC d_Mo_kindOf_229 (by decide) ?_
              exact gret _ _ _ _ d_Mo_kindOf_233 ⟨3, rfl, rfl, h⟩
      · replace h := h.2 hc
        refine v_aload_n gC d_Mo_kindOf_168 rfl 0 rfl ?_
        refine v_iload_n gC d_Mo_kindOf_169 rfl 1 rfl ?_
        refine v_iload gC d_Mo_kindOf_170 4 rfl ?_
        refine v_isub gC d_Mo_kindOf_172 (x1 - v5) rfl ?_
        refine v_iload_n gC d_Mo_kindOf_173 rfl 2 rfl ?_
        refine v_iload_n gC d_Mo_kindOf_174 rfl 3 rfl ?_
        refine v_callV (rest := []) gC (k_Mo_isSolid l D K d0 (x1 - v5) x2 x3 s0 _ h) wV_Mo_155 rfl ⟨by omega, by omega, Nat.zero_le _, Nat.zero_le _⟩ 0 rfl rfl [0, 1, 2, 3, 4, 5, 6, 7, 8, 9, 10, 11] [] rfl (by decide) rfl (by decide) (by decide) rfl (Nat.le_of_ble_eq_true rfl) d_Mo_kindOf_175 (fun v w1 hp => ?_)
        obtain ⟨r24, rfl, rfl, h⟩ := hp
        refine v_after (ws' := (w_Mo K d0 s0)) (st' := [.int (zI r24)]) [0, 1, 2, 3, 4, 5, 6, 7, 8, 9, 10, 11] (by decide) rfl rfl ?_
        obtain ⟨hg25, h⟩ := h
        refine v_if_eq (tgt := 194) gC d_Mo_kindOf_178 (by decide) hg25 (fun hc => ?_) (fun hc => ?_)
        · replace h := h.1 hc
          refine v_iconst gC d_Mo_kindOf_194 ?_
          exact gret _ _ _ _ d_Mo_kindOf_195 ⟨2, rfl, rfl, h⟩
        · replace h := h.2 hc
          refine v_aload_n gC d_Mo_kindOf_181 rfl 0 rfl ?_
          refine v_iload_n gC d_Mo_kindOf_182 rfl 1 rfl ?_
          refine v_iload gC d_Mo_kindOf_183 4 rfl ?_
          refine v_iadd gC d_Mo_kindOf_185 (x1 + v5) rfl ?_
          refine v_iload_n gC d_Mo_kindOf_186 rfl 2 rfl ?_
          refine v_iload_n gC d_Mo_kindOf_187 rfl 3 rfl ?_
          refine v_callV (rest := []) gC (k_Mo_isSolid l D K d0 (x1 + v5) x2 x3 s0 _ h) wV_Mo_155 rfl ⟨by omega, by omega, Nat.zero_le _, Nat.zero_le _⟩ 0 rfl rfl [0, 1, 2, 3, 4, 5, 6, 7, 8, 9, 10, 11] [] rfl (by decide) rfl (by decide) (by decide) rfl (Nat.le_of_ble_eq_true rfl) d_Mo_kindOf_188 (fun v w1 hp => ?_)
          obtain ⟨r26, rfl, rfl, h⟩ := hp
          refine v_after (ws' := (w_Mo K d0 s0)) (st' := [.int (zI r26)]) [0, 1, 2, 3, 4, 5, 6, 7, 8, 9, 10, 11] (by decide) rfl rfl ?_
          obtain ⟨hg27, h⟩ := h
          refine v_if_ne (tgt := 196) gC d_Mo_kindOf_191 (by decide) hg27 (fun hc => ?_) (fun hc => ?_)
          · replace h := h.1 hc
            refine v_iinc (lv' := [(0, .ref (d0 0)), (1, .int (zI x1)), (2, .int (zI x2)), (3, .int (zI x3)), (5, .int (zI (v5 + 1)))]) gC d_Mo_kindOf_196 4 rfl (by decide) (v5 + 1) rfl [1, 2, 3, 4, 0] rfl ?_
            refine v_goto (tgt := 159) gC d_Mo_kindOf_199 (by decide) ?_
            refine v_loc (lv' := [(0, .ref (d0 0)), (1, .int (zI x1)), (2, .int (zI x2)), (3, .int (zI x3)), (5, .int (zI (v5 + 1)))]) [0, 1, 2, 3, 4] rfl ?_
            exact h
          · replace h := h.2 hc
            refine v_iconst gC d_Mo_kindOf_194 ?_
            exact gret _ _ _ _ d_Mo_kindOf_195 ⟨2, rfl, rfl, h⟩)
  refine v_iload_n gC d_Mo_kindOf_0 rfl 1 rfl ?_
  refine v_iconst gC d_Mo_kindOf_1 ?_
  refine v_aload_n gC d_Mo_kindOf_2 rfl 0 rfl ?_
  refine v_get (v := .int (zI (gMo_layers s0))) gC in_Mo 0 rfl rfl 10 (by decide) fl_Mo_116 rfl d_Mo_kindOf_3 ?_
  refine v_iconst gC d_Mo_kindOf_6 ?_
  refine v_isub gC d_Mo_kindOf_7 ((gMo_layers s0) - 1) rfl ?_
  refine v_callS (rest := []) gC (k_Mo_in l D K x1 0 ((gMo_layers s0) - 1) _ h) wS_Mo_66 rfl ⟨by omega, by omega, Nat.zero_le _, Nat.zero_le _⟩ [] [0, 1, 2, 3, 4, 5, 6, 7, 8, 9, 10, 11] rfl (by decide) rfl (by decide) (by decide) rfl (Nat.le_of_ble_eq_true rfl) d_Mo_kindOf_8 (fun v w1 hp => ?_)
  obtain ⟨r1, rfl, rfl, h⟩ := hp
  refine v_after (ws' := (w_Mo K d0 s0)) (st' := [.int (zI r1)]) [0, 1, 2, 3, 4, 5, 6, 7, 8, 9, 10, 11] (by decide) rfl rfl ?_
  obtain ⟨hg2, h⟩ := h
  refine v_if_eq (tgt := 34) gC d_Mo_kindOf_11 (by decide) hg2 (fun hc => ?_) (fun hc => ?_)
  · replace h := h.1 hc
    refine v_iconst gC d_Mo_kindOf_34 ?_
    exact gret _ _ _ _ d_Mo_kindOf_35 ⟨0, rfl, rfl, h⟩
  · replace h := h.2 hc
    refine v_iload_n gC d_Mo_kindOf_14 rfl 2 rfl ?_
    refine v_iconst gC d_Mo_kindOf_15 ?_
    refine v_bipush gC d_Mo_kindOf_16 (by decide) ?_
    refine v_callS (rest := []) gC (k_Mo_in l D K x2 0 11 _ h) wS_Mo_66 rfl ⟨by omega, by omega, Nat.zero_le _, Nat.zero_le _⟩ [] [0, 1, 2, 3, 4, 5, 6, 7, 8, 9, 10, 11] rfl (by decide) rfl (by decide) (by decide) rfl (Nat.le_of_ble_eq_true rfl) d_Mo_kindOf_18 (fun v w1 hp => ?_)
    obtain ⟨r3, rfl, rfl, h⟩ := hp
    refine v_after (ws' := (w_Mo K d0 s0)) (st' := [.int (zI r3)]) [0, 1, 2, 3, 4, 5, 6, 7, 8, 9, 10, 11] (by decide) rfl rfl ?_
    obtain ⟨hg4, h⟩ := h
    refine v_if_eq (tgt := 34) gC d_Mo_kindOf_21 (by decide) hg4 (fun hc => ?_) (fun hc => ?_)
    · replace h := h.1 hc
      refine v_iconst gC d_Mo_kindOf_34 ?_
      exact gret _ _ _ _ d_Mo_kindOf_35 ⟨0, rfl, rfl, h⟩
    · replace h := h.2 hc
      refine v_iload_n gC d_Mo_kindOf_24 rfl 3 rfl ?_
      refine v_iconst gC d_Mo_kindOf_25 ?_
      refine v_bipush gC d_Mo_kindOf_26 (by decide) ?_
      refine v_callS (rest := []) gC (k_Mo_in l D K x3 0 11 _ h) wS_Mo_66 rfl ⟨by omega, by omega, Nat.zero_le _, Nat.zero_le _⟩ [] [0, 1, 2, 3, 4, 5, 6, 7, 8, 9, 10, 11] rfl (by decide) rfl (by decide) (by decide) rfl (Nat.le_of_ble_eq_true rfl) d_Mo_kindOf_28 (fun v w1 hp => ?_)
      obtain ⟨r5, rfl, rfl, h⟩ := hp
      refine v_after (ws' := (w_Mo K d0 s0)) (st' := [.int (zI r5)]) [0, 1, 2, 3, 4, 5, 6, 7, 8, 9, 10, 11] (by decide) rfl rfl ?_
      obtain ⟨hg6, h⟩ := h
      refine v_if_ne (tgt := 36) gC d_Mo_kindOf_31 (by decide) hg6 (fun hc => ?_) (fun hc => ?_)
      · replace h := h.1 hc
        refine v_aload_n gC d_Mo_kindOf_36 rfl 0 rfl ?_
        refine v_iload_n gC d_Mo_kindOf_37 rfl 1 rfl ?_
        refine v_iload_n gC d_Mo_kindOf_38 rfl 2 rfl ?_
        refine v_iload_n gC d_Mo_kindOf_39 rfl 3 rfl ?_
        refine v_callV (rest := []) gC (k_Mo_isSolid l D K d0 x1 x2 x3 s0 _ h) wV_Mo_155 rfl ⟨by omega, by omega, Nat.zero_le _, Nat.zero_le _⟩ 0 rfl rfl [0, 1, 2, 3, 4, 5, 6, 7, 8, 9, 10, 11] [] rfl (by decide) rfl (by decide) (by decide) rfl (Nat.le_of_ble_eq_true rfl) d_Mo_kindOf_40 (fun v w1 hp => ?_)
        obtain ⟨r7, rfl, rfl, h⟩ := hp
        refine v_after (ws' := (w_Mo K d0 s0)) (st' := [.int (zI r7)]) [0, 1, 2, 3, 4, 5, 6, 7, 8, 9, 10, 11] (by decide) rfl rfl ?_
        obtain ⟨hg8, h⟩ := h
        refine v_if_ne (tgt := 118) gC d_Mo_kindOf_43 (by decide) hg8 (fun hc => ?_) (fun hc => ?_)
        · replace h := h.1 hc
          refine v_iconst gC d_Mo_kindOf_118 ?_
          refine v_aload_n gC d_Mo_kindOf_119 rfl 0 rfl ?_
          refine v_get (v := .int (zI (gMo_shell s0))) gC in_Mo 0 rfl rfl 17 (by decide) fl_Mo_44 rfl d_Mo_kindOf_120 ?_
          refine v_imul gC d_Mo_kindOf_123 (2 * (gMo_shell s0)) rfl ?_
          refine v_iconst gC d_Mo_kindOf_124 ?_
          refine v_iadd gC d_Mo_kindOf_125 ((2 * (gMo_shell s0)) + 1) rfl ?_
          refine v_istore (lv' := [(0, .ref (d0 0)), (1, .int (zI x1)), (2, .int (zI x2)), (3, .int (zI x3)), (4, .int (zI ((2 * (gMo_shell s0)) + 1)))]) gC d_Mo_kindOf_126 (by decide) [1, 2, 3, 4, 0] rfl ?_
          refine v_aload_n gC d_Mo_kindOf_128 rfl 0 rfl ?_
          refine v_get (v := .int (zI (gMo_shell s0))) gC in_Mo 0 rfl rfl 17 (by decide) fl_Mo_44 rfl d_Mo_kindOf_129 ?_
          obtain ⟨hg9, h⟩ := h
          refine v_if_le (tgt := 156) gC d_Mo_kindOf_132 (by decide) hg9 (fun hc => ?_) (fun hc => ?_)
          · replace h := h.1 hc
            refine v_iconst gC d_Mo_kindOf_156 ?_
            refine v_istore (lv' := [(0, .ref (d0 0)), (1, .int (zI x1)), (2, .int (zI x2)), (3, .int (zI x3)), (4, .int (zI ((2 * (gMo_shell s0)) + 1))), (5, .int (zI 1))]) gC d_Mo_kindOf_157 (by decide) [1, 2, 3, 4, 5, 0] rfl ?_
            refine v_loc (lv' := [(0, .ref (d0 0)), (1, .int (zI x1)), (2, .int (zI x2)), (3, .int (zI x3)), (5, .int (zI 1))]) [0, 1, 2, 3, 5] rfl ?_
            exact h
          · replace h := h.2 hc
            refine v_aload_n gC d_Mo_kindOf_135 rfl 0 rfl ?_
            refine v_iload_n gC d_Mo_kindOf_136 rfl 1 rfl ?_
            refine v_iload_n gC d_Mo_kindOf_137 rfl 2 rfl ?_
            refine v_iload_n gC d_Mo_kindOf_138 rfl 3 rfl ?_
            refine v_aload_n gC d_Mo_kindOf_139 rfl 0 rfl ?_
            refine v_get (v := .int (zI (gMo_shell s0))) gC in_Mo 0 rfl rfl 17 (by decide) fl_Mo_44 rfl d_Mo_kindOf_140 ?_
            refine v_callV (rest := []) gC (k_Mo_around l D K d0 x1 x2 x3 (gMo_shell s0) s0 _ h) wV_Mo_161 rfl ⟨by omega, by omega, Nat.zero_le _, Nat.zero_le _⟩ 0 rfl rfl [0, 1, 2, 3, 4, 5, 6, 7, 8, 9, 10, 11] [] rfl (by decide) rfl (by decide) (by decide) rfl (Nat.le_of_ble_eq_true rfl) d_Mo_kindOf_143 (fun v w1 hp => ?_)
            obtain ⟨r10, rfl, rfl, h⟩ := hp
            refine v_after (ws' := (w_Mo K d0 s0)) (st' := [.int (zI r10)]) [0, 1, 2, 3, 4, 5, 6, 7, 8, 9, 10, 11] (by decide) rfl rfl ?_
            refine v_iload gC d_Mo_kindOf_146 4 rfl ?_
            refine v_iload gC d_Mo_kindOf_148 4 rfl ?_
            refine v_imul gC d_Mo_kindOf_150 (((2 * (gMo_shell s0)) + 1) * ((2 * (gMo_shell s0)) + 1)) rfl ?_
            obtain ⟨hg11, hg12, h⟩ := h
            refine v_icmp_ge (tgt := 156) gC d_Mo_kindOf_151 (by decide) hg11 hg12 (fun hc => ?_) (fun hc => ?_)
            · replace h := h.1 hc
              refine v_iconst gC d_Mo_kindOf_156 ?_
              refine v_istore (lv' := [(0, .ref (d0 0)), (1, .int (zI x1)), (2, .int (zI x2)), (3, .int (zI x3)), (4, .int (zI ((2 * (gMo_shell s0)) + 1))), (5, .int (zI 1))]) gC d_Mo_kindOf_157 (by decide) [1, 2, 3, 4, 5, 0] rfl ?_
              refine v_loc (lv' := [(0, .ref (d0 0)), (1, .int (zI x1)), (2, .int (zI x2)), (3, .int (zI x3)), (5, .int (zI 1))]) [0, 1, 2, 3, 5] rfl ?_
              exact h
            · replace h := h.2 hc
              refine v_iconst gC d_Mo_kindOf_154 ?_
              exact gret _ _ _ _ d_Mo_kindOf_155 ⟨1, rfl, rfl, h⟩
        · replace h := h.2 hc
          refine v_iload_n gC d_Mo_kindOf_46 rfl 1 rfl ?_
          refine v_iconst gC d_Mo_kindOf_47 ?_
          refine v_iadd gC d_Mo_kindOf_48 (x1 + 1) rfl ?_
          refine v_istore (lv' := [(0, .ref (d0 0)), (1, .int (zI x1)), (2, .int (zI x2)), (3, .int (zI x3)), (4, .int (zI (x1 + 1)))]) gC d_Mo_kindOf_49 (by decide) [1, 2, 3, 4, 0] rfl ?_
          refine v_loc (lv' := [(0, .ref (d0 0)), (1, .int (zI x1)), (2, .int (zI x2)), (3, .int (zI x3)), (4, .int (zI (x1 + 1)))]) [0, 1, 2, 3, 4] rfl ?_
          exact h
      · replace h := h.2 hc
        refine v_iconst gC d_Mo_kindOf_34 ?_
        exact gret _ _ _ _ d_Mo_kindOf_35 ⟨0, rfl, rfl, h⟩

set_option maxHeartbeats 4000000 in
set_option maxRecDepth 100000 in
theorem k_Mo_kind (l : Launch) (D : va_G) (K : Nat → ClassId) (d0 : Nat → Nat) (x1 : Int) (x2 : Int) (x3 : Int) (s0 : s_Mo) (Q : Int → s_Mo → Prop) (h : wp_Mo_kind x1 x2 x3 s0 Q) : Kt l D K y_Mo_kind b_Mo_kind 4 (some .int) 5 120 [.ref (d0 0), .int (zI x1), .int (zI x2), .int (zI x3)] (w_Mo K d0 s0) (fun v w1 => ∃ (r : Int), ∃ (u0 : s_Mo), v = some (.int (zI r)) ∧ w1 = (w_Mo K d0 u0) ∧ Q r u0) := by
  refine Kt.ofI (by decide +kernel) (Nat.le_of_ble_eq_true rfl) (lv0 := [(0, .ref (d0 0)), (1, .int (zI x1)), (2, .int (zI x2)), (3, .int (zI x3))]) rfl ?_
  intro gp ge gR gs gm ga gb gh gc gA gQ gRf gRl gC gret
  unfold wp_Mo_kind at h
  refine v_aload_n gC d_Mo_kind_0 rfl 0 rfl ?_
  refine v_iconst gC d_Mo_kind_1 ?_
  refine v_puti (ws' := (w_Mo K d0 (mkMo 0 (gMo_corners s0) (gMo_px s0) (gMo_py s0) (gMo_pz s0) (gMo_triangles s0) (gMo_named s0) (gMo_joined s0) (gMo_dropped s0) (gMo_closed s0) (gMo_layers s0) (gMo_thickness s0) (gMo_cuts s0) (gMo_cx s0) (gMo_cy s0) (gMo_cz s0) (gMo_solids s0) (gMo_shell s0) (gMo_skin s0) (gMo_period s0) (gMo_reach s0) (gMo_gap s0) (gMo_bytes s0) (gMo_played s0) (gMo_at s0) (gMo_program s0) (gMo_beads s0) (gMo_ring s0)))) gC in_Mo t_Mo ok_Mo n_Mo 0 rfl rfl 0 (by decide) fl_Mo_60 rfl (by decide +kernel) (Nat.le_of_ble_eq_true rfl) rfl d_Mo_kind_2 ?_
  refine v_aload_n gC d_Mo_kind_5 rfl 0 rfl ?_
  refine v_iload_n gC d_Mo_kind_6 rfl 1 rfl ?_
  refine v_iload_n gC d_Mo_kind_7 rfl 2 rfl ?_
  refine v_iload_n gC d_Mo_kind_8 rfl 3 rfl ?_
  refine v_callV (rest := []) gC (k_Mo_kindOf l D K d0 x1 x2 x3 (mkMo 0 (gMo_corners s0) (gMo_px s0) (gMo_py s0) (gMo_pz s0) (gMo_triangles s0) (gMo_named s0) (gMo_joined s0) (gMo_dropped s0) (gMo_closed s0) (gMo_layers s0) (gMo_thickness s0) (gMo_cuts s0) (gMo_cx s0) (gMo_cy s0) (gMo_cz s0) (gMo_solids s0) (gMo_shell s0) (gMo_skin s0) (gMo_period s0) (gMo_reach s0) (gMo_gap s0) (gMo_bytes s0) (gMo_played s0) (gMo_at s0) (gMo_program s0) (gMo_beads s0) (gMo_ring s0)) _ h) wV_Mo_167 rfl ⟨by omega, by omega, Nat.zero_le _, Nat.zero_le _⟩ 0 rfl rfl [0, 1, 2, 3, 4, 5, 6, 7, 8, 9, 10, 11] [] rfl (by decide) rfl (by decide) (by decide) rfl (Nat.le_of_ble_eq_true rfl) d_Mo_kind_9 (fun v w1 hp => ?_)
  obtain ⟨r1, rfl, rfl, h⟩ := hp
  refine v_after (ws' := (w_Mo K d0 (mkMo 0 (gMo_corners s0) (gMo_px s0) (gMo_py s0) (gMo_pz s0) (gMo_triangles s0) (gMo_named s0) (gMo_joined s0) (gMo_dropped s0) (gMo_closed s0) (gMo_layers s0) (gMo_thickness s0) (gMo_cuts s0) (gMo_cx s0) (gMo_cy s0) (gMo_cz s0) (gMo_solids s0) (gMo_shell s0) (gMo_skin s0) (gMo_period s0) (gMo_reach s0) (gMo_gap s0) (gMo_bytes s0) (gMo_played s0) (gMo_at s0) (gMo_program s0) (gMo_beads s0) (gMo_ring s0)))) (st' := [.int (zI r1)]) [0, 1, 2, 3, 4, 5, 6, 7, 8, 9, 10, 11] (by decide) rfl rfl ?_
  exact gret _ _ _ _ d_Mo_kind_12 ⟨r1, (mkMo 0 (gMo_corners s0) (gMo_px s0) (gMo_py s0) (gMo_pz s0) (gMo_triangles s0) (gMo_named s0) (gMo_joined s0) (gMo_dropped s0) (gMo_closed s0) (gMo_layers s0) (gMo_thickness s0) (gMo_cuts s0) (gMo_cx s0) (gMo_cy s0) (gMo_cz s0) (gMo_solids s0) (gMo_shell s0) (gMo_skin s0) (gMo_period s0) (gMo_reach s0) (gMo_gap s0) (gMo_bytes s0) (gMo_played s0) (gMo_at s0) (gMo_program s0) (gMo_beads s0) (gMo_ring s0)), rfl, rfl, h⟩

set_option maxHeartbeats 4000000 in
set_option maxRecDepth 100000 in
theorem k_Mo_overhang (l : Launch) (D : va_G) (K : Nat → ClassId) (d0 : Nat → Nat) (x1 : Int) (s0 : s_Mo) (Q : Int → s_Mo → Prop) (h : wp_Mo_overhang x1 s0 Q) : Kt l D K y_Mo_overhang b_Mo_overhang 5 (some .int) 4 95 [.ref (d0 0), .int (zI x1)] (w_Mo K d0 s0) (fun v w1 => ∃ (r : Int), ∃ (u0 : s_Mo), v = some (.int (zI r)) ∧ w1 = (w_Mo K d0 u0) ∧ Q r u0) := by
  refine Kt.ofI (by decide +kernel) (Nat.le_of_ble_eq_true rfl) (lv0 := [(0, .ref (d0 0)), (1, .int (zI x1))]) rfl ?_
  intro gp ge gR gs gm ga gb gh gc gA gQ gRf gRl gC gret
  unfold wp_Mo_overhang at h
  replace h := h
    (fun (v2 : Int) (v3 : Int) (s0 : s_Mo) => V gp l ge gR gs gm ga gb gh gc D gA 5 0 0 gQ (w_Mo K d0 s0) 9 [(0, .ref (d0 0)), (1, .int (zI x1)), (2, .int (zI v2)), (3, .int (zI v3))] [])
    (fun (v2 : Int) (v3 : Int) (v4 : Int) (s0 : s_Mo) => V gp l ge gR gs gm ga gb gh gc D gA 5 0 0 gQ (w_Mo K d0 s0) 18 [(0, .ref (d0 0)), (1, .int (zI x1)), (2, .int (zI v2)), (3, .int (zI v3)), (4, .int (zI v4))] [])
    (by
      intro v2 v3 s0 h
      refine v_iload_n gC d_Mo_overhang_9 rfl 3 rfl ?_
      refine v_bipush gC d_Mo_overhang_10 (by decide) ?_
      obtain ⟨hg1, h⟩ := h
      refine v_icmp_ge (tgt := 70) gC d_Mo_overhang_12 (by decide) hg1 (by decide) (fun hc => ?_) (fun hc => ?_)
      · replace h := h.1 hc
        refine v_iload_n gC d_Mo_overhang_70 rfl 2 rfl ?_
        exact gret _ _ _ _ d_Mo_overhang_71 ⟨v2, s0, rfl, rfl, h⟩
      · replace h := h.2 hc
        refine v_iconst gC d_Mo_overhang_15 ?_
        refine v_istore (lv' := [(0, .ref (d0 0)), (1, .int (zI x1)), (2, .int (zI v2)), (3, .int (zI v3)), (4, .int (zI 0))]) gC d_Mo_overhang_16 (by decide) [1, 2, 3, 4, 0] rfl ?_
        refine v_loc (lv' := [(0, .ref (d0 0)), (1, .int (zI x1)), (2, .int (zI v2)), (3, .int (zI v3)), (4, .int (zI 0))]) [0, 1, 2, 3, 4] rfl ?_
        exact h)
    (by
      intro v2 v3 v4 s0 h
      refine v_iload gC d_Mo_overhang_18 4 rfl ?_
      refine v_bipush gC d_Mo_overhang_20 (by decide) ?_
      obtain ⟨hg2, h⟩ := h
      refine v_icmp_ge (tgt := 64) gC d_Mo_overhang_22 (by decide) hg2 (by decide) (fun hc => ?_) (fun hc => ?_)
      · replace h := h.1 hc
        refine v_iinc (lv' := [(0, .ref (d0 0)), (1, .int (zI x1)), (2, .int (zI v2)), (3, .int (zI (v3 + 1))), (4, .int (zI v4))]) gC d_Mo_overhang_64 3 rfl (by decide) (v3 + 1) rfl [1, 2, 3, 0, 4] rfl ?_
        refine v_goto (tgt := 9) gC d_Mo_overhang_67 (by decide) ?_
        refine v_loc (lv' := [(0, .ref (d0 0)), (1, .int (zI x1)), (2, .int (zI v2)), (3, .int (zI (v3 + 1)))]) [0, 1, 2, 3] rfl ?_
        exact h
      · replace h := h.2 hc
        refine v_iload_n gC d_Mo_overhang_25 rfl 2 rfl ?_
        refine v_iload_n gC d_Mo_overhang_26 rfl 1 rfl ?_
        refine v_iconst gC d_Mo_overhang_27 ?_
        refine v_aload_n gC d_Mo_overhang_28 rfl 0 rfl ?_
        refine v_get (v := .int (zI (gMo_layers s0))) gC in_Mo 0 rfl rfl 10 (by decide) fl_Mo_116 rfl d_Mo_overhang_29 ?_
        refine v_iconst gC d_Mo_overhang_32 ?_
        refine v_isub gC d_Mo_overhang_33 ((gMo_layers s0) - 1) rfl ?_
        refine v_callS (rest := [.int (zI v2)]) gC (k_Mo_in l D K x1 0 ((gMo_layers s0) - 1) _ h) wS_Mo_66 rfl ⟨by omega, by omega, Nat.zero_le _, Nat.zero_le _⟩ [] [0, 1, 2, 3, 4, 5, 6, 7, 8, 9, 10, 11] rfl (by decide) rfl (by decide) (by decide) rfl (Nat.le_of_ble_eq_true rfl) d_Mo_overhang_34 (fun v w1 hp => ?_)
        obtain ⟨r3, rfl, rfl, h⟩ := hp
        refine v_after (ws' := (w_Mo K d0 s0)) (st' := [.int (zI r3), .int (zI v2)]) [0, 1, 2, 3, 4, 5, 6, 7, 8, 9, 10, 11] (by decide) rfl rfl ?_
        obtain ⟨hg4, h⟩ := h
        refine v_if_eq (tgt := 55) gC d_Mo_overhang_37 (by decide) hg4 (fun hc => ?_) (fun hc => ?_)
        · replace h := h.1 hc
          refine v_iconst gC d_Mo_overhang_55 ?_
          refine v_iadd gC d_Mo_overhang_56 (v2 + 0) rfl ?_
          refine v_istore_n (lv' := [(0, .ref (d0 0)), (1, .int (zI x1)), (2, .int (zI (v2 + 0))), (3, .int (zI v3)), (4, .int (zI v4))]) gC d_Mo_overhang_57 rfl (by decide) [1, 2, 0, 3, 4] rfl ?_
          refine v_iinc (lv' := [(0, .ref (d0 0)), (1, .int (zI x1)), (2, .int (zI (v2 + 0))), (3, .int (zI v3)), (4, .int (zI (v4 + 1)))]) gC d_Mo_overhang_58 4 rfl (by decide) (v4 + 1) rfl [1, 2, 3, 4, 0] rfl ?_
          refine v_goto (tgt := 18) gC d_Mo_overhang_61 (by decide) ?_
          refine v_loc (lv' := [(0, .ref (d0 0)), (1, .int (zI x1)), (2, .int (zI (v2 + 0))), (3, .int (zI v3)), (4, .int (zI (v4 + 1)))]) [0, 1, 2, 3, 4] rfl ?_
          exact h
        · replace h := h.2 hc
          refine v_aload_n gC d_Mo_overhang_40 rfl 0 rfl ?_
          refine v_iload_n gC d_Mo_overhang_41 rfl 1 rfl ?_
          refine v_iload_n gC d_Mo_overhang_42 rfl 3 rfl ?_
          refine v_iload gC d_Mo_overhang_43 4 rfl ?_
          refine v_callV (rest := [.int (zI v2)]) gC (k_Mo_hangs l D K d0 x1 v3 v4 s0 _ h) wV_Mo_164 rfl ⟨by omega, by omega, Nat.zero_le _, Nat.zero_le _⟩ 0 rfl rfl [0, 1, 2, 3, 4, 5, 6, 7, 8, 9, 10, 11] [] rfl (by decide) rfl (by decide) (by decide) rfl (Nat.le_of_ble_eq_true rfl) d_Mo_overhang_45 (fun v w1 hp => ?_)
          obtain ⟨r5, rfl, rfl, h⟩ := hp
          refine v_after (ws' := (w_Mo K d0 s0)) (st' := [.int (zI r5), .int (zI v2)]) [0, 1, 2, 3, 4, 5, 6, 7, 8, 9, 10, 11] (by decide) rfl rfl ?_
          obtain ⟨hg6, h⟩ := h
          refine v_if_eq (tgt := 55) gC d_Mo_overhang_48 (by decide) hg6 (fun hc => ?_) (fun hc => ?_)
          · replace h := h.1 hc
            refine v_iconst gC d_Mo_overhang_55 ?_
            refine v_iadd gC d_Mo_overhang_56 (v2 + 0) rfl ?_
            refine v_istore_n (lv' := [(0, .ref (d0 0)), (1, .int (zI x1)), (2, .int (zI (v2 + 0))), (3, .int (zI v3)), (4, .int (zI v4))]) gC d_Mo_overhang_57 rfl (by decide) [1, 2, 0, 3, 4] rfl ?_
            refine v_iinc (lv' := [(0, .ref (d0 0)), (1, .int (zI x1)), (2, .int (zI (v2 + 0))), (3, .int (zI v3)), (4, .int (zI (v4 + 1)))]) gC d_Mo_overhang_58 4 rfl (by decide) (v4 + 1) rfl [1, 2, 3, 4, 0] rfl ?_
            refine v_goto (tgt := 18) gC d_Mo_overhang_61 (by decide) ?_
            refine v_loc (lv' := [(0, .ref (d0 0)), (1, .int (zI x1)), (2, .int (zI (v2 + 0))), (3, .int (zI v3)), (4, .int (zI (v4 + 1)))]) [0, 1, 2, 3, 4] rfl ?_
            exact h
          · replace h := h.2 hc
            refine v_iconst gC d_Mo_overhang_51 ?_
            refine v_goto (tgt := 56) gC d_Mo_overhang_52 (by decide) ?_
            refine v_iadd gC d_Mo_overhang_56 (v2 + 1) rfl ?_
            refine v_istore_n (lv' := [(0, .ref (d0 0)), (1, .int (zI x1)), (2, .int (zI (v2 + 1))), (3, .int (zI v3)), (4, .int (zI v4))]) gC d_Mo_overhang_57 rfl (by decide) [1, 2, 0, 3, 4] rfl ?_
            refine v_iinc (lv' := [(0, .ref (d0 0)), (1, .int (zI x1)), (2, .int (zI (v2 + 1))), (3, .int (zI v3)), (4, .int (zI (v4 + 1)))]) gC d_Mo_overhang_58 4 rfl (by decide) (v4 + 1) rfl [1, 2, 3, 4, 0] rfl ?_
            refine v_goto (tgt := 18) gC d_Mo_overhang_61 (by decide) ?_
            refine v_loc (lv' := [(0, .ref (d0 0)), (1, .int (zI x1)), (2, .int (zI (v2 + 1))), (3, .int (zI v3)), (4, .int (zI (v4 + 1)))]) [0, 1, 2, 3, 4] rfl ?_
            exact h)
  refine v_aload_n gC d_Mo_overhang_0 rfl 0 rfl ?_
  refine v_iconst gC d_Mo_overhang_1 ?_
  refine v_puti (ws' := (w_Mo K d0 (mkMo 0 (gMo_corners s0) (gMo_px s0) (gMo_py s0) (gMo_pz s0) (gMo_triangles s0) (gMo_named s0) (gMo_joined s0) (gMo_dropped s0) (gMo_closed s0) (gMo_layers s0) (gMo_thickness s0) (gMo_cuts s0) (gMo_cx s0) (gMo_cy s0) (gMo_cz s0) (gMo_solids s0) (gMo_shell s0) (gMo_skin s0) (gMo_period s0) (gMo_reach s0) (gMo_gap s0) (gMo_bytes s0) (gMo_played s0) (gMo_at s0) (gMo_program s0) (gMo_beads s0) (gMo_ring s0)))) gC in_Mo t_Mo ok_Mo n_Mo 0 rfl rfl 0 (by decide) fl_Mo_60 rfl (by decide +kernel) (Nat.le_of_ble_eq_true rfl) rfl d_Mo_overhang_2 ?_
  refine v_iconst gC d_Mo_overhang_5 ?_
  refine v_istore_n (lv' := [(0, .ref (d0 0)), (1, .int (zI x1)), (2, .int (zI 0))]) gC d_Mo_overhang_6 rfl (by decide) [1, 2, 0] rfl ?_
  refine v_iconst gC d_Mo_overhang_7 ?_
  refine v_istore_n (lv' := [(0, .ref (d0 0)), (1, .int (zI x1)), (2, .int (zI 0)), (3, .int (zI 0))]) gC d_Mo_overhang_8 rfl (by decide) [1, 2, 3, 0] rfl ?_
  refine v_loc (lv' := [(0, .ref (d0 0)), (1, .int (zI x1)), (2, .int (zI 0)), (3, .int (zI 0))]) [0, 1, 2, 3] rfl ?_
  exact h

set_option maxHeartbeats 4000000 in
set_option maxRecDepth 100000 in
theorem k_Mo_volume (l : Launch) (D : va_G) (K : Nat → ClassId) (d0 : Nat → Nat) (x1 : Int) (s0 : s_Mo) (Q : Int → s_Mo → Prop) (h : wp_Mo_volume x1 s0 Q) : Kt l D K y_Mo_volume b_Mo_volume 6 (some .int) 5 120 [.ref (d0 0), .int (zI x1)] (w_Mo K d0 s0) (fun v w1 => ∃ (r : Int), ∃ (u0 : s_Mo), v = some (.int (zI r)) ∧ w1 = (w_Mo K d0 u0) ∧ Q r u0) := by
  refine Kt.ofI (by decide +kernel) (Nat.le_of_ble_eq_true rfl) (lv0 := [(0, .ref (d0 0)), (1, .int (zI x1))]) rfl ?_
  intro gp ge gR gs gm ga gb gh gc gA gQ gRf gRl gC gret
  unfold wp_Mo_volume at h
  replace h := h
    (fun (v2 : Int) (v3 : Int) (s0 : s_Mo) => V gp l ge gR gs gm ga gb gh gc D gA 6 0 0 gQ (w_Mo K d0 s0) 21 [(0, .ref (d0 0)), (1, .int (zI x1)), (2, .int (zI v2)), (3, .int (zI v3))] [])
    (fun (v2 : Int) (v3 : Int) (v4 : Int) (s0 : s_Mo) => V gp l ge gR gs gm ga gb gh gc D gA 6 0 0 gQ (w_Mo K d0 s0) 32 [(0, .ref (d0 0)), (1, .int (zI x1)), (2, .int (zI v2)), (3, .int (zI v3)), (4, .int (zI v4))] [])
    (fun (v2 : Int) (v3 : Int) (v4 : Int) (v5 : Int) (s0 : s_Mo) => V gp l ge gR gs gm ga gb gh gc D gA 6 0 0 gQ (w_Mo K d0 s0) 42 [(0, .ref (d0 0)), (1, .int (zI x1)), (2, .int (zI v2)), (3, .int (zI v3)), (4, .int (zI v4)), (5, .int (zI v5))] [])
    (by
      intro v2 v3 s0 h
      refine v_iload_n gC d_Mo_volume_21 rfl 3 rfl ?_
      refine v_aload_n gC d_Mo_volume_22 rfl 0 rfl ?_
      refine v_get (v := .int (zI (gMo_layers s0))) gC in_Mo 0 rfl rfl 10 (by decide) fl_Mo_116 rfl d_Mo_volume_23 ?_
      obtain ⟨hg3, hg4, h⟩ := h
      refine v_icmp_ge (tgt := 88) gC d_Mo_volume_26 (by decide) hg3 hg4 (fun hc => ?_) (fun hc => ?_)
      · replace h := h.1 hc
        refine v_iload_n gC d_Mo_volume_88 rfl 2 rfl ?_
        exact gret _ _ _ _ d_Mo_volume_89 ⟨v2, s0, rfl, rfl, h⟩
      · replace h := h.2 hc
        refine v_iconst gC d_Mo_volume_29 ?_
        refine v_istore (lv' := [(0, .ref (d0 0)), (1, .int (zI x1)), (2, .int (zI v2)), (3, .int (zI v3)), (4, .int (zI 0))]) gC d_Mo_volume_30 (by decide) [1, 2, 3, 4, 0] rfl ?_
        refine v_loc (lv' := [(0, .ref (d0 0)), (1, .int (zI x1)), (2, .int (zI v2)), (3, .int (zI v3)), (4, .int (zI 0))]) [0, 1, 2, 3, 4] rfl ?_
        exact h)
    (by
      intro v2 v3 v4 s0 h
      refine v_iload gC d_Mo_volume_32 4 rfl ?_
      refine v_bipush gC d_Mo_volume_34 (by decide) ?_
      obtain ⟨hg5, h⟩ := h
      refine v_icmp_ge (tgt := 82) gC d_Mo_volume_36 (by decide) hg5 (by decide) (fun hc => ?_) (fun hc => ?_)
      · replace h := h.1 hc
        refine v_iinc (lv' := [(0, .ref (d0 0)), (1, .int (zI x1)), (2, .int (zI v2)), (3, .int (zI (v3 + 1))), (4, .int (zI v4))]) gC d_Mo_volume_82 3 rfl (by decide) (v3 + 1) rfl [1, 2, 3, 0, 4] rfl ?_
        refine v_goto (tgt := 21) gC d_Mo_volume_85 (by decide) ?_
        refine v_loc (lv' := [(0, .ref (d0 0)), (1, .int (zI x1)), (2, .int (zI v2)), (3, .int (zI (v3 + 1)))]) [0, 1, 2, 3] rfl ?_
        exact h
      · replace h := h.2 hc
        refine v_iconst gC d_Mo_volume_39 ?_
        refine v_istore (lv' := [(0, .ref (d0 0)), (1, .int (zI x1)), (2, .int (zI v2)), (3, .int (zI v3)), (4, .int (zI v4)), (5, .int (zI 0))]) gC d_Mo_volume_40 (by decide) [1, 2, 3, 4, 5, 0] rfl ?_
        refine v_loc (lv' := [(0, .ref (d0 0)), (1, .int (zI x1)), (2, .int (zI v2)), (3, .int (zI v3)), (4, .int (zI v4)), (5, .int (zI 0))]) [0, 1, 2, 3, 4, 5] rfl ?_
        exact h)
    (by
      intro v2 v3 v4 v5 s0 h
      refine v_iload gC d_Mo_volume_42 5 rfl ?_
      refine v_bipush gC d_Mo_volume_44 (by decide) ?_
      obtain ⟨hg6, h⟩ := h
      refine v_icmp_ge (tgt := 76) gC d_Mo_volume_46 (by decide) hg6 (by decide) (fun hc => ?_) (fun hc => ?_)
      · replace h := h.1 hc
        refine v_iinc (lv' := [(0, .ref (d0 0)), (1, .int (zI x1)), (2, .int (zI v2)), (3, .int (zI v3)), (4, .int (zI (v4 + 1))), (5, .int (zI v5))]) gC d_Mo_volume_76 4 rfl (by decide) (v4 + 1) rfl [1, 2, 3, 4, 0, 5] rfl ?_
        refine v_goto (tgt := 32) gC d_Mo_volume_79 (by decide) ?_
        refine v_loc (lv' := [(0, .ref (d0 0)), (1, .int (zI x1)), (2, .int (zI v2)), (3, .int (zI v3)), (4, .int (zI (v4 + 1)))]) [0, 1, 2, 3, 4] rfl ?_
        exact h
      · replace h := h.2 hc
        refine v_iload_n gC d_Mo_volume_49 rfl 2 rfl ?_
        refine v_aload_n gC d_Mo_volume_50 rfl 0 rfl ?_
        refine v_iload_n gC d_Mo_volume_51 rfl 3 rfl ?_
        refine v_iload gC d_Mo_volume_52 4 rfl ?_
        refine v_iload gC d_Mo_volume_54 5 rfl ?_
        refine v_callV (rest := [.int (zI v2)]) gC (k_Mo_kindOf l D K d0 v3 v4 v5 s0 _ h) wV_Mo_167 rfl ⟨by omega, by omega, Nat.zero_le _, Nat.zero_le _⟩ 0 rfl rfl [0, 1, 2, 3, 4, 5, 6, 7, 8, 9, 10, 11] [] rfl (by decide) rfl (by decide) (by decide) rfl (Nat.le_of_ble_eq_true rfl) d_Mo_volume_56 (fun v w1 hp => ?_)
        obtain ⟨r7, rfl, rfl, h⟩ := hp
        refine v_after (ws' := (w_Mo K d0 s0)) (st' := [.int (zI r7), .int (zI v2)]) [0, 1, 2, 3, 4, 5, 6, 7, 8, 9, 10, 11] (by decide) rfl rfl ?_
        refine v_iload_n gC d_Mo_volume_59 rfl 1 rfl ?_
        obtain ⟨hg8, hg9, h⟩ := h
        refine v_icmp_ne (tgt := 67) gC d_Mo_volume_60 (by decide) hg8 hg9 (fun hc => ?_) (fun hc => ?_)
        · replace h := h.1 hc
          refine v_iconst gC d_Mo_volume_67 ?_
          refine v_iadd gC d_Mo_volume_68 (v2 + 0) rfl ?_
          refine v_istore_n (lv' := [(0, .ref (d0 0)), (1, .int (zI x1)), (2, .int (zI (v2 + 0))), (3, .int (zI v3)), (4, .int (zI v4)), (5, .int (zI v5))]) gC d_Mo_volume_69 rfl (by decide) [1, 2, 0, 3, 4, 5] rfl ?_
          refine v_iinc (lv' := [(0, .ref (d0 0)), (1, .int (zI x1)), (2, .int (zI (v2 + 0))), (3, .int (zI v3)), (4, .int (zI v4)), (5, .int (zI (v5 + 1)))]) gC d_Mo_volume_70 5 rfl (by decide) (v5 + 1) rfl [1, 2, 3, 4, 5, 0] rfl ?_
          refine v_goto (tgt := 42) gC d_Mo_volume_73 (by decide) ?_
          refine v_loc (lv' := [(0, .ref (d0 0)), (1, .int (zI x1)), (2, .int (zI (v2 + 0))), (3, .int (zI v3)), (4, .int (zI v4)), (5, .int (zI (v5 + 1)))]) [0, 1, 2, 3, 4, 5] rfl ?_
          exact h
        · replace h := h.2 hc
          refine v_iconst gC d_Mo_volume_63 ?_
          refine v_goto (tgt := 68) gC d_Mo_volume_64 (by decide) ?_
          refine v_iadd gC d_Mo_volume_68 (v2 + 1) rfl ?_
          refine v_istore_n (lv' := [(0, .ref (d0 0)), (1, .int (zI x1)), (2, .int (zI (v2 + 1))), (3, .int (zI v3)), (4, .int (zI v4)), (5, .int (zI v5))]) gC d_Mo_volume_69 rfl (by decide) [1, 2, 0, 3, 4, 5] rfl ?_
          refine v_iinc (lv' := [(0, .ref (d0 0)), (1, .int (zI x1)), (2, .int (zI (v2 + 1))), (3, .int (zI v3)), (4, .int (zI v4)), (5, .int (zI (v5 + 1)))]) gC d_Mo_volume_70 5 rfl (by decide) (v5 + 1) rfl [1, 2, 3, 4, 5, 0] rfl ?_
          refine v_goto (tgt := 42) gC d_Mo_volume_73 (by decide) ?_
          refine v_loc (lv' := [(0, .ref (d0 0)), (1, .int (zI x1)), (2, .int (zI (v2 + 1))), (3, .int (zI v3)), (4, .int (zI v4)), (5, .int (zI (v5 + 1)))]) [0, 1, 2, 3, 4, 5] rfl ?_
          exact h)
  refine v_aload_n gC d_Mo_volume_0 rfl 0 rfl ?_
  refine v_iconst gC d_Mo_volume_1 ?_
  refine v_puti (ws' := (w_Mo K d0 (mkMo 0 (gMo_corners s0) (gMo_px s0) (gMo_py s0) (gMo_pz s0) (gMo_triangles s0) (gMo_named s0) (gMo_joined s0) (gMo_dropped s0) (gMo_closed s0) (gMo_layers s0) (gMo_thickness s0) (gMo_cuts s0) (gMo_cx s0) (gMo_cy s0) (gMo_cz s0) (gMo_solids s0) (gMo_shell s0) (gMo_skin s0) (gMo_period s0) (gMo_reach s0) (gMo_gap s0) (gMo_bytes s0) (gMo_played s0) (gMo_at s0) (gMo_program s0) (gMo_beads s0) (gMo_ring s0)))) gC in_Mo t_Mo ok_Mo n_Mo 0 rfl rfl 0 (by decide) fl_Mo_60 rfl (by decide +kernel) (Nat.le_of_ble_eq_true rfl) rfl d_Mo_volume_2 ?_
  refine v_iload_n gC d_Mo_volume_5 rfl 1 rfl ?_
  refine v_iconst gC d_Mo_volume_6 ?_
  refine v_bipush gC d_Mo_volume_7 (by decide) ?_
  refine v_callS (rest := []) gC (k_Mo_in l D K x1 0 6 _ h) wS_Mo_66 rfl ⟨by omega, by omega, Nat.zero_le _, Nat.zero_le _⟩ [] [0, 1, 2, 3, 4, 5, 6, 7, 8, 9, 10, 11] rfl (by decide) rfl (by decide) (by decide) rfl (Nat.le_of_ble_eq_true rfl) d_Mo_volume_9 (fun v w1 hp => ?_)
  obtain ⟨r1, rfl, rfl, h⟩ := hp
  refine v_after (ws' := (w_Mo K d0 (mkMo 0 (gMo_corners s0) (gMo_px s0) (gMo_py s0) (gMo_pz s0) (gMo_triangles s0) (gMo_named s0) (gMo_joined s0) (gMo_dropped s0) (gMo_closed s0) (gMo_layers s0) (gMo_thickness s0) (gMo_cuts s0) (gMo_cx s0) (gMo_cy s0) (gMo_cz s0) (gMo_solids s0) (gMo_shell s0) (gMo_skin s0) (gMo_period s0) (gMo_reach s0) (gMo_gap s0) (gMo_bytes s0) (gMo_played s0) (gMo_at s0) (gMo_program s0) (gMo_beads s0) (gMo_ring s0)))) (st' := [.int (zI r1)]) [0, 1, 2, 3, 4, 5, 6, 7, 8, 9, 10, 11] (by decide) rfl rfl ?_
  obtain ⟨hg2, h⟩ := h
  refine v_if_ne (tgt := 17) gC d_Mo_volume_12 (by decide) hg2 (fun hc => ?_) (fun hc => ?_)
  · replace h := h.1 hc
    refine v_iconst gC d_Mo_volume_17 ?_
    refine v_istore_n (lv' := [(0, .ref (d0 0)), (1, .int (zI x1)), (2, .int (zI 0))]) gC d_Mo_volume_18 rfl (by decide) [1, 2, 0] rfl ?_
    refine v_iconst gC d_Mo_volume_19 ?_
    refine v_istore_n (lv' := [(0, .ref (d0 0)), (1, .int (zI x1)), (2, .int (zI 0)), (3, .int (zI 0))]) gC d_Mo_volume_20 rfl (by decide) [1, 2, 3, 0] rfl ?_
    refine v_loc (lv' := [(0, .ref (d0 0)), (1, .int (zI x1)), (2, .int (zI 0)), (3, .int (zI 0))]) [0, 1, 2, 3] rfl ?_
    exact h
  · replace h := h.2 hc
    refine v_iconst gC d_Mo_volume_15 ?_
    exact gret _ _ _ _ d_Mo_volume_16 ⟨(-1), (mkMo 0 (gMo_corners s0) (gMo_px s0) (gMo_py s0) (gMo_pz s0) (gMo_triangles s0) (gMo_named s0) (gMo_joined s0) (gMo_dropped s0) (gMo_closed s0) (gMo_layers s0) (gMo_thickness s0) (gMo_cuts s0) (gMo_cx s0) (gMo_cy s0) (gMo_cz s0) (gMo_solids s0) (gMo_shell s0) (gMo_skin s0) (gMo_period s0) (gMo_reach s0) (gMo_gap s0) (gMo_bytes s0) (gMo_played s0) (gMo_at s0) (gMo_program s0) (gMo_beads s0) (gMo_ring s0)), rfl, rfl, h⟩

set_option maxHeartbeats 4000000 in
set_option maxRecDepth 100000 in
theorem k_Mo_isLaid (l : Launch) (D : va_G) (K : Nat → ClassId) (x0 : Int) (Q : Int → Prop) (h : wp_Mo_isLaid x0 Q) : Kt l D K y_Mo_isLaid b_Mo_isLaid 1 (some .boolean) 0 0 [.int (zI x0)] [] (fun v w1 => ∃ (r : Int), v = some (.int (zI r)) ∧ w1 = [] ∧ Q r) := by
  refine Kt.ofZ (by decide +kernel) (Nat.le_of_ble_eq_true rfl) (lv0 := [(0, .int (zI x0))]) rfl ?_
  intro gp ge gR gs gm ga gb gh gc gA gQ gRf gRl gC gret
  unfold wp_Mo_isLaid at h
  refine v_iload_n gC d_Mo_isLaid_0 rfl 0 rfl ?_
  refine v_iconst gC d_Mo_isLaid_1 ?_
  obtain ⟨hg1, h⟩ := h
  refine v_icmp_eq (tgt := 20) gC d_Mo_isLaid_2 (by decide) hg1 (by decide) (fun hc => ?_) (fun hc => ?_)
  · replace h := h.1 hc
    refine v_iconst gC d_Mo_isLaid_20 ?_
    refine v_goto (tgt := 25) gC d_Mo_isLaid_21 (by decide) ?_
    exact gret _ _ _ _ d_Mo_isLaid_25 rfl ⟨1, rfl, rfl, h⟩
  · replace h := h.2 hc
    refine v_iload_n gC d_Mo_isLaid_5 rfl 0 rfl ?_
    refine v_iconst gC d_Mo_isLaid_6 ?_
    refine v_icmp_eq (tgt := 20) gC d_Mo_isLaid_7 (by decide) hg1 (by decide) (fun hc => ?_) (fun hc => ?_)
    · replace h := h.1 hc
      refine v_iconst gC d_Mo_isLaid_20 ?_
      refine v_goto (tgt := 25) gC d_Mo_isLaid_21 (by decide) ?_
      exact gret _ _ _ _ d_Mo_isLaid_25 rfl ⟨1, rfl, rfl, h⟩
    · replace h := h.2 hc
      refine v_iload_n gC d_Mo_isLaid_10 rfl 0 rfl ?_
      refine v_iconst gC d_Mo_isLaid_11 ?_
      refine v_icmp_eq (tgt := 20) gC d_Mo_isLaid_12 (by decide) hg1 (by decide) (fun hc => ?_) (fun hc => ?_)
      · replace h := h.1 hc
        refine v_iconst gC d_Mo_isLaid_20 ?_
        refine v_goto (tgt := 25) gC d_Mo_isLaid_21 (by decide) ?_
        exact gret _ _ _ _ d_Mo_isLaid_25 rfl ⟨1, rfl, rfl, h⟩
      · replace h := h.2 hc
        refine v_iload_n gC d_Mo_isLaid_15 rfl 0 rfl ?_
        refine v_iconst gC d_Mo_isLaid_16 ?_
        refine v_icmp_ne (tgt := 24) gC d_Mo_isLaid_17 (by decide) hg1 (by decide) (fun hc => ?_) (fun hc => ?_)
        · replace h := h.1 hc
          refine v_iconst gC d_Mo_isLaid_24 ?_
          exact gret _ _ _ _ d_Mo_isLaid_25 rfl ⟨0, rfl, rfl, h⟩
        · replace h := h.2 hc
          refine v_iconst gC d_Mo_isLaid_20 ?_
          refine v_goto (tgt := 25) gC d_Mo_isLaid_21 (by decide) ?_
          exact gret _ _ _ _ d_Mo_isLaid_25 rfl ⟨1, rfl, rfl, h⟩

set_option maxHeartbeats 4000000 in
set_option maxRecDepth 100000 in
theorem k_Mo_begins (l : Launch) (D : va_G) (K : Nat → ClassId) (d0 : Nat → Nat) (x1 : Int) (x2 : Int) (s0 : s_Mo) (Q : Int → Prop) (h : wp_Mo_begins x1 x2 s0 Q) : Kt l D K y_Mo_begins b_Mo_begins 6 (some .int) 5 120 [.ref (d0 0), .int (zI x1), .int (zI x2)] (w_Mo K d0 s0) (fun v w1 => ∃ (r : Int), v = some (.int (zI r)) ∧ w1 = (w_Mo K d0 s0) ∧ Q r) := by
  refine Kt.ofI (by decide +kernel) (Nat.le_of_ble_eq_true rfl) (lv0 := [(0, .ref (d0 0)), (1, .int (zI x1)), (2, .int (zI x2))]) rfl ?_
  intro gp ge gR gs gm ga gb gh gc gA gQ gRf gRl gC gret
  unfold wp_Mo_begins at h
  replace h := h
    (fun (v3 : Int) (v4 : Int) => V gp l ge gR gs gm ga gb gh gc D gA 6 0 0 gQ (w_Mo K d0 s0) 5 [(0, .ref (d0 0)), (1, .int (zI x1)), (3, .int (zI v3)), (4, .int (zI v4))] [])
    (by
      intro v3 v4 h
      refine v_iload gC d_Mo_begins_5 3 rfl ?_
      refine v_sipush gC d_Mo_begins_7 (by decide) ?_
      obtain ⟨hg1, h⟩ := h
      refine v_icmp_ge (tgt := 87) gC d_Mo_begins_10 (by decide) hg1 (by decide) (fun hc => ?_) (fun hc => ?_)
      · replace h := h.1 hc
        refine v_iconst gC d_Mo_begins_87 ?_
        exact gret _ _ _ _ d_Mo_begins_88 ⟨(-1), rfl, rfl, h⟩
      · replace h := h.2 hc
        refine v_aload_n gC d_Mo_begins_13 rfl 0 rfl ?_
        refine v_iload_n gC d_Mo_begins_14 rfl 1 rfl ?_
        refine v_iload gC d_Mo_begins_15 3 rfl ?_
        refine v_bipush gC d_Mo_begins_17 (by decide) ?_
        refine v_irem gC d_Mo_begins_19 hg1 (by decide) (by decide) ?_
        refine v_iload gC d_Mo_begins_20 3 rfl ?_
        refine v_bipush gC d_Mo_begins_22 (by decide) ?_
        refine v_idiv gC d_Mo_begins_24 hg1 (by decide) (by decide) ?_
        refine v_callV (rest := []) gC (k_Mo_kindOf l D K d0 x1 (Int.tmod v4 12) (Int.tdiv v4 12) s0 _ h) wV_Mo_167 rfl ⟨by omega, by omega, Nat.zero_le _, Nat.zero_le _⟩ 0 rfl rfl [0, 1, 2, 3, 4, 5, 6, 7, 8, 9, 10, 11] [] rfl (by decide) rfl (by decide) (by decide) rfl (Nat.le_of_ble_eq_true rfl) d_Mo_begins_25 (fun v w1 hp => ?_)
        obtain ⟨r2, rfl, rfl, h⟩ := hp
        refine v_after (ws' := (w_Mo K d0 s0)) (st' := [.int (zI r2)]) [0, 1, 2, 3, 4, 5, 6, 7, 8, 9, 10, 11] (by decide) rfl rfl ?_
        refine v_istore (lv' := [(0, .ref (d0 0)), (1, .int (zI x1)), (3, .int (zI v3)), (4, .int (zI v4)), (5, .int (zI r2))]) gC d_Mo_begins_28 (by decide) [1, 2, 3, 4, 0] rfl ?_
        refine v_iload gC d_Mo_begins_30 4 rfl ?_
        refine v_callS (rest := []) gC (k_Mo_isLaid l D K r2 _ h) wS_Mo_170 rfl ⟨by omega, by omega, Nat.zero_le _, Nat.zero_le _⟩ [] [0, 1, 2, 3, 4, 5, 6, 7, 8, 9, 10, 11] rfl (by decide) rfl (by decide) (by decide) rfl (Nat.le_of_ble_eq_true rfl) d_Mo_begins_32 (fun v w1 hp => ?_)
        obtain ⟨r3, rfl, rfl, h⟩ := hp
        refine v_after (ws' := (w_Mo K d0 s0)) (st' := [.int (zI r3)]) [0, 1, 2, 3, 4, 5, 6, 7, 8, 9, 10, 11] (by decide) rfl rfl ?_
        obtain ⟨hg4, h⟩ := h
        refine v_if_eq (tgt := 81) gC d_Mo_begins_35 (by decide) hg4 (fun hc => ?_) (fun hc => ?_)
        · replace h := h.1 hc
          refine v_iinc (lv' := [(0, .ref (d0 0)), (1, .int (zI x1)), (3, .int (zI v3)), (4, .int (zI (v4 + 1))), (5, .int (zI r2))]) gC d_Mo_begins_81 3 rfl (by decide) (v4 + 1) rfl [1, 2, 3, 0, 4] rfl ?_
          refine v_goto (tgt := 5) gC d_Mo_begins_84 (by decide) ?_
          refine v_loc (lv' := [(0, .ref (d0 0)), (1, .int (zI x1)), (3, .int (zI v3)), (4, .int (zI (v4 + 1)))]) [0, 1, 2, 3] rfl ?_
          exact h
        · replace h := h.2 hc
          refine v_iload gC d_Mo_begins_38 3 rfl ?_
          refine v_bipush gC d_Mo_begins_40 (by decide) ?_
          refine v_irem gC d_Mo_begins_42 hg1 (by decide) (by decide) ?_
          obtain ⟨hg5, h⟩ := h
          refine v_if_le (tgt := 71) gC d_Mo_begins_43 (by decide) hg5 (fun hc => ?_) (fun hc => ?_)
          · replace h := h.1 hc
            refine v_iload_n gC d_Mo_begins_71 rfl 2 rfl ?_
            obtain ⟨hg6, h⟩ := h
            refine v_if_ne (tgt := 78) gC d_Mo_begins_72 (by decide) hg6 (fun hc => ?_) (fun hc => ?_)
            · replace h := h.1 hc
              refine v_iinc (lv' := [(0, .ref (d0 0)), (1, .int (zI x1)), (3, .int (zI (v3 + (-1)))), (4, .int (zI v4)), (5, .int (zI r2))]) gC d_Mo_begins_78 2 rfl (by decide) (v3 + (-1)) rfl [1, 2, 0, 3, 4] rfl ?_
              refine v_iinc (lv' := [(0, .ref (d0 0)), (1, .int (zI x1)), (3, .int (zI (v3 + (-1)))), (4, .int (zI (v4 + 1))), (5, .int (zI r2))]) gC d_Mo_begins_81 3 rfl (by decide) (v4 + 1) rfl [1, 2, 3, 0, 4] rfl ?_
              refine v_goto (tgt := 5) gC d_Mo_begins_84 (by decide) ?_
              refine v_loc (lv' := [(0, .ref (d0 0)), (1, .int (zI x1)), (3, .int (zI (v3 + (-1)))), (4, .int (zI (v4 + 1)))]) [0, 1, 2, 3] rfl ?_
              exact h
            · replace h := h.2 hc
              refine v_iload gC d_Mo_begins_75 3 rfl ?_
              exact gret _ _ _ _ d_Mo_begins_77 ⟨v4, rfl, rfl, h⟩
          · replace h := h.2 hc
            refine v_aload_n gC d_Mo_begins_46 rfl 0 rfl ?_
            refine v_iload_n gC d_Mo_begins_47 rfl 1 rfl ?_
            refine v_iload gC d_Mo_begins_48 3 rfl ?_
            refine v_bipush gC d_Mo_begins_50 (by decide) ?_
            refine v_irem gC d_Mo_begins_52 hg1 (by decide) (by decide) ?_
            refine v_iconst gC d_Mo_begins_53 ?_
            refine v_isub gC d_Mo_begins_54 ((Int.tmod v4 12) - 1) rfl ?_
            refine v_iload gC d_Mo_begins_55 3 rfl ?_
            refine v_bipush gC d_Mo_begins_57 (by decide) ?_
            refine v_idiv gC d_Mo_begins_59 hg1 (by decide) (by decide) ?_
            refine v_callV (rest := []) gC (k_Mo_kindOf l D K d0 x1 ((Int.tmod v4 12) - 1) (Int.tdiv v4 12) s0 _ h) wV_Mo_167 rfl ⟨by omega, by omega, Nat.zero_le _, Nat.zero_le _⟩ 0 rfl rfl [0, 1, 2, 3, 4, 5, 6, 7, 8, 9, 10, 11] [] rfl (by decide) rfl (by decide) (by decide) rfl (Nat.le_of_ble_eq_true rfl) d_Mo_begins_60 (fun v w1 hp => ?_)
            obtain ⟨r7, rfl, rfl, h⟩ := hp
            refine v_after (ws' := (w_Mo K d0 s0)) (st' := [.int (zI r7)]) [0, 1, 2, 3, 4, 5, 6, 7, 8, 9, 10, 11] (by decide) rfl rfl ?_
            refine v_iload gC d_Mo_begins_63 4 rfl ?_
            obtain ⟨hg8, hg9, h⟩ := h
            refine v_icmp_ne (tgt := 71) gC d_Mo_begins_65 (by decide) hg8 hg9 (fun hc => ?_) (fun hc => ?_)
            · replace h := h.1 hc
              refine v_iload_n gC d_Mo_begins_71 rfl 2 rfl ?_
              obtain ⟨hg10, h⟩ := h
              refine v_if_ne (tgt := 78) gC d_Mo_begins_72 (by decide) hg10 (fun hc => ?_) (fun hc => ?_)
              · replace h := h.1 hc
                refine v_iinc (lv' := [(0, .ref (d0 0)), (1, .int (zI x1)), (3, .int (zI (v3 + (-1)))), (4, .int (zI v4)), (5, .int (zI r2))]) gC d_Mo_begins_78 2 rfl (by decide) (v3 + (-1)) rfl [1, 2, 0, 3, 4] rfl ?_
                refine v_iinc (lv' := [(0, .ref (d0 0)), (1, .int (zI x1)), (3, .int (zI (v3 + (-1)))), (4, .int (zI (v4 + 1))), (5, .int (zI r2))]) gC d_Mo_begins_81 3 rfl (by decide) (v4 + 1) rfl [1, 2, 3, 0, 4] rfl ?_
                refine v_goto (tgt := 5) gC d_Mo_begins_84 (by decide) ?_
                refine v_loc (lv' := [(0, .ref (d0 0)), (1, .int (zI x1)), (3, .int (zI (v3 + (-1)))), (4, .int (zI (v4 + 1)))]) [0, 1, 2, 3] rfl ?_
                exact h
              · replace h := h.2 hc
                refine v_iload gC d_Mo_begins_75 3 rfl ?_
                exact gret _ _ _ _ d_Mo_begins_77 ⟨v4, rfl, rfl, h⟩
            · replace h := h.2 hc
              refine v_goto (tgt := 81) gC d_Mo_begins_68 (by decide) ?_
              refine v_iinc (lv' := [(0, .ref (d0 0)), (1, .int (zI x1)), (3, .int (zI v3)), (4, .int (zI (v4 + 1))), (5, .int (zI r2))]) gC d_Mo_begins_81 3 rfl (by decide) (v4 + 1) rfl [1, 2, 3, 0, 4] rfl ?_
              refine v_goto (tgt := 5) gC d_Mo_begins_84 (by decide) ?_
              refine v_loc (lv' := [(0, .ref (d0 0)), (1, .int (zI x1)), (3, .int (zI v3)), (4, .int (zI (v4 + 1)))]) [0, 1, 2, 3] rfl ?_
              exact h)
  refine v_iload_n gC d_Mo_begins_0 rfl 2 rfl ?_
  refine v_istore_n (lv' := [(0, .ref (d0 0)), (1, .int (zI x1)), (2, .int (zI x2)), (3, .int (zI x2))]) gC d_Mo_begins_1 rfl (by decide) [1, 2, 3, 0] rfl ?_
  refine v_iconst gC d_Mo_begins_2 ?_
  refine v_istore (lv' := [(0, .ref (d0 0)), (1, .int (zI x1)), (2, .int (zI x2)), (3, .int (zI x2)), (4, .int (zI 0))]) gC d_Mo_begins_3 (by decide) [1, 2, 3, 4, 0] rfl ?_
  refine v_loc (lv' := [(0, .ref (d0 0)), (1, .int (zI x1)), (3, .int (zI x2)), (4, .int (zI 0))]) [0, 1, 3, 4] rfl ?_
  exact h
