set_option maxHeartbeats 400000 in
set_option maxRecDepth 100000 in
theorem law_0 {l : Launch} (htr : l.stackTraces = false) {p : Program} {e : Env} {s : State} {m : MethodId} {below : List Frame} {meth : Method} {c : Code} {D : va_G} {K : Nat → ClassId} {b L : Nat} {xs : Nat → Int32} (hL : L ≤ 3072) (gC : Cx p s m #[Value.ref b] c code 7 R_law D K (fun q : Nat => s.heap.size ≤ q)) (hX : va_X b L xs s s.heap) (hbl : b < s.heap.size) (hbA : ¬ s.heap.size ≤ b) (hTW : TW s) (hns : ∀ (q : Nat) (cell : Cell), s.heap.size ≤ q → s.heap[q]? = some cell → cell.vm.isStatics = false) {Q : s_LS → s_Mo → Prop} (i : Int) (hi : 0 ≤ i ∧ i + 6 ≤ (L : Int)) (dx dm : Nat → Nat) (oa : Nat) (sx : s_LS) (sm : s_Mo) (f : Nat → Int64)
    (ih : ∀ (dx dm : Nat → Nat) (oa : Nat) (sx : s_LS) (sm : s_Mo) (f : Nat → Int64), Q sx sm → V p l e room_1 s m #[Value.ref b] below meth c D (fun q : Nat => s.heap.size ≤ q) 7 (48 + (i + 6).toNat) (57879 + (i + 6).toNat) (lw_Z below #[Value.ref b] s) (w_LS K dx sx ++ (w_Mo K dm sm ++ [(oa, .inl (K 2, 1, .inr (.inl f)))])) 23 [(0, .ref b), (1, .ref (dx 0)), (2, .ref (dm 0)), (3, .ref oa), (4, .int (zI (i + 6)))] []) (h : wp_LS_corner (zX xs (i + 1)) (zX xs (i + 2)) (zX xs (i + 3)) sx (fun r1 u2 => wp_Mo_corner (zX xs (i + 1)) (zX xs (i + 2)) (zX xs (i + 3)) sm (fun r3 u4 => r1 = r3 ∧ (Q u2 u4)))) : V p l e room_1 s m #[Value.ref b] below meth c D (fun q : Nat => s.heap.size ≤ q) 7 (48 + i.toNat) (57879 + i.toNat) (lw_Z below #[Value.ref b] s) (w_LS K dx sx ++ (w_Mo K dm sm ++ [(oa, .inl (K 2, 1, .inr (.inl f)))])) 132 [(0, .ref b), (1, .ref (dx 0)), (2, .ref (dm 0)), (3, .ref oa), (4, .int (zI i))] [] := by
  have hrc : room_1.cells = 601024 := rfl
  have hrs : room_1.slots = 7293034 := rfl
  refine v_aload_n gC d_law_law_132 rfl 1 rfl ?_
  refine v_aload_n gC d_law_law_133 rfl 0 rfl ?_
  refine v_iload gC d_law_law_134 4 rfl ?_
  refine v_iconst gC d_law_law_136 ?_
  refine v_iadd gC d_law_law_137 (i + 1) rfl ?_
  refine v_sld gC hX hbl hbA ⟨by omega, by omega⟩ hL d_law_law_138 ?_
  refine v_aload_n gC d_law_law_139 rfl 0 rfl ?_
  refine v_iload gC d_law_law_140 4 rfl ?_
  refine v_iconst gC d_law_law_142 ?_
  refine v_iadd gC d_law_law_143 (i + 2) rfl ?_
  refine v_sld gC hX hbl hbA ⟨by omega, by omega⟩ hL d_law_law_144 ?_
  refine v_aload_n gC d_law_law_145 rfl 0 rfl ?_
  refine v_iload gC d_law_law_146 4 rfl ?_
  refine v_iconst gC d_law_law_148 ?_
  refine v_iadd gC d_law_law_149 (i + 3) rfl ?_
  refine v_sld gC hX hbl hbA ⟨by omega, by omega⟩ hL d_law_law_150 ?_
  refine v_preV (R := room_1) (k := 48 + i.toNat) (n := 57879 + i.toNat) (rest := [])  (wb := (w_Mo K dm sm ++ [(oa, .inl (K 2, 1, .inr (.inl f)))])) gC (k_LS_corner l D K dx (zX xs (i + 1)) (zX xs (i + 2)) (zX xs (i + 3)) sx _ h) wV_law_23 rfl ⟨Nat.le_of_ble_eq_true rfl, Nat.le_of_ble_eq_true rfl, by omega, by omega⟩ rfl rfl rfl (Nat.le_of_ble_eq_true rfl) d_law_law_151 (fun v w1 hp => ?_)
  obtain ⟨r1, u2, rfl, rfl, h⟩ := hp
  refine v_norm (ws' := (w_LS K dx u2 ++ (w_Mo K dm sm ++ [(oa, .inl (K 2, 1, .inr (.inl f)))]))) (st' := [.int (zI r1)]) rfl rfl ?_
  refine v_aload_n gC d_law_law_154 rfl 2 rfl ?_
  refine v_aload_n gC d_law_law_155 rfl 0 rfl ?_
  refine v_iload gC d_law_law_156 4 rfl ?_
  refine v_iconst gC d_law_law_158 ?_
  refine v_iadd gC d_law_law_159 (i + 1) rfl ?_
  refine v_sld gC hX hbl hbA ⟨by omega, by omega⟩ hL d_law_law_160 ?_
  refine v_aload_n gC d_law_law_161 rfl 0 rfl ?_
  refine v_iload gC d_law_law_162 4 rfl ?_
  refine v_iconst gC d_law_law_164 ?_
  refine v_iadd gC d_law_law_165 (i + 2) rfl ?_
  refine v_sld gC hX hbl hbA ⟨by omega, by omega⟩ hL d_law_law_166 ?_
  refine v_aload_n gC d_law_law_167 rfl 0 rfl ?_
  refine v_iload gC d_law_law_168 4 rfl ?_
  refine v_iconst gC d_law_law_170 ?_
  refine v_iadd gC d_law_law_171 (i + 3) rfl ?_
  refine v_sld gC hX hbl hbA ⟨by omega, by omega⟩ hL d_law_law_172 ?_
  refine v_midV (R := room_1) (k := 48 + i.toNat) (n := 57879 + i.toNat) (rest := [.int (zI r1)]) (wa := (w_LS K dx u2)) (wb := [(oa, .inl (K 2, 1, .inr (.inl f)))]) gC (k_Mo_corner l D K dm (zX xs (i + 1)) (zX xs (i + 2)) (zX xs (i + 3)) sm _ h) wV_law_26 rfl ⟨Nat.le_of_ble_eq_true rfl, Nat.le_of_ble_eq_true rfl, by omega, by omega⟩ rfl rfl rfl (Nat.le_of_ble_eq_true rfl) d_law_law_173 (fun v w1 hp => ?_)
  obtain ⟨r3, u4, rfl, rfl, h⟩ := hp
  refine v_norm (ws' := (w_LS K dx u2 ++ (w_Mo K dm u4 ++ [(oa, .inl (K 2, 1, .inr (.inl f)))]))) (st' := [.int (zI r3), .int (zI r1)]) rfl rfl ?_
  obtain ⟨he, h⟩ := h
  refine v_jeq (tgt := 897) gC d_law_law_176 (by decide) he ?_
  refine v_iinc (lv' := [(0, .ref b), (1, .ref (dx 0)), (2, .ref (dm 0)), (3, .ref oa), (4, .int (zI (i + 6)))]) gC d_law_law_897 4 rfl (by decide) (i + 6) rfl [1, 2, 3, 4, 0] rfl ?_
  refine v_goto (tgt := 23) gC d_law_law_900 (by decide) ?_
  refine v_widen (k' := 48 + (i + 6).toNat) (n' := 57879 + (i + 6).toNat) (by omega) (by omega) ?_
  exact ih dx dm oa u2 u4 f h
set_option maxHeartbeats 400000 in
set_option maxRecDepth 100000 in
theorem law_1 {l : Launch} (htr : l.stackTraces = false) {p : Program} {e : Env} {s : State} {m : MethodId} {below : List Frame} {meth : Method} {c : Code} {D : va_G} {K : Nat → ClassId} {b L : Nat} {xs : Nat → Int32} (hL : L ≤ 3072) (gC : Cx p s m #[Value.ref b] c code 7 R_law D K (fun q : Nat => s.heap.size ≤ q)) (hX : va_X b L xs s s.heap) (hbl : b < s.heap.size) (hbA : ¬ s.heap.size ≤ b) (hTW : TW s) (hns : ∀ (q : Nat) (cell : Cell), s.heap.size ≤ q → s.heap[q]? = some cell → cell.vm.isStatics = false) {Q : s_LS → s_Mo → Prop} (i : Int) (hi : 0 ≤ i ∧ i + 6 ≤ (L : Int)) (dx dm : Nat → Nat) (oa : Nat) (sx : s_LS) (sm : s_Mo) (f : Nat → Int64)
    (ih : ∀ (dx dm : Nat → Nat) (oa : Nat) (sx : s_LS) (sm : s_Mo) (f : Nat → Int64), Q sx sm → V p l e room_1 s m #[Value.ref b] below meth c D (fun q : Nat => s.heap.size ≤ q) 7 (48 + (i + 6).toNat) (57879 + (i + 6).toNat) (lw_Z below #[Value.ref b] s) (w_LS K dx sx ++ (w_Mo K dm sm ++ [(oa, .inl (K 2, 1, .inr (.inl f)))])) 23 [(0, .ref b), (1, .ref (dx 0)), (2, .ref (dm 0)), (3, .ref oa), (4, .int (zI (i + 6)))] []) (h : wp_LS_tri (zX xs (i + 1)) (zX xs (i + 2)) (zX xs (i + 3)) sx (fun r1 u2 => wp_Mo_tri (zX xs (i + 1)) (zX xs (i + 2)) (zX xs (i + 3)) sm (fun r3 u4 => r1 = r3 ∧ (Q u2 u4)))) : V p l e room_1 s m #[Value.ref b] below meth c D (fun q : Nat => s.heap.size ≤ q) 7 (48 + i.toNat) (57879 + i.toNat) (lw_Z below #[Value.ref b] s) (w_LS K dx sx ++ (w_Mo K dm sm ++ [(oa, .inl (K 2, 1, .inr (.inl f)))])) 181 [(0, .ref b), (1, .ref (dx 0)), (2, .ref (dm 0)), (3, .ref oa), (4, .int (zI i))] [] := by
  have hrc : room_1.cells = 601024 := rfl
  have hrs : room_1.slots = 7293034 := rfl
  refine v_aload_n gC d_law_law_181 rfl 1 rfl ?_
  refine v_aload_n gC d_law_law_182 rfl 0 rfl ?_
  refine v_iload gC d_law_law_183 4 rfl ?_
  refine v_iconst gC d_law_law_185 ?_
  refine v_iadd gC d_law_law_186 (i + 1) rfl ?_
  refine v_sld gC hX hbl hbA ⟨by omega, by omega⟩ hL d_law_law_187 ?_
  refine v_aload_n gC d_law_law_188 rfl 0 rfl ?_
  refine v_iload gC d_law_law_189 4 rfl ?_
  refine v_iconst gC d_law_law_191 ?_
  refine v_iadd gC d_law_law_192 (i + 2) rfl ?_
  refine v_sld gC hX hbl hbA ⟨by omega, by omega⟩ hL d_law_law_193 ?_
  refine v_aload_n gC d_law_law_194 rfl 0 rfl ?_
  refine v_iload gC d_law_law_195 4 rfl ?_
  refine v_iconst gC d_law_law_197 ?_
  refine v_iadd gC d_law_law_198 (i + 3) rfl ?_
  refine v_sld gC hX hbl hbA ⟨by omega, by omega⟩ hL d_law_law_199 ?_
  refine v_preV (R := room_1) (k := 48 + i.toNat) (n := 57879 + i.toNat) (rest := [])  (wb := (w_Mo K dm sm ++ [(oa, .inl (K 2, 1, .inr (.inl f)))])) gC (k_LS_tri l D K dx (zX xs (i + 1)) (zX xs (i + 2)) (zX xs (i + 3)) sx _ h) wV_law_27 rfl ⟨Nat.le_of_ble_eq_true rfl, Nat.le_of_ble_eq_true rfl, by omega, by omega⟩ rfl rfl rfl (Nat.le_of_ble_eq_true rfl) d_law_law_200 (fun v w1 hp => ?_)
  obtain ⟨r1, u2, rfl, rfl, h⟩ := hp
  refine v_norm (ws' := (w_LS K dx u2 ++ (w_Mo K dm sm ++ [(oa, .inl (K 2, 1, .inr (.inl f)))]))) (st' := [.int (zI r1)]) rfl rfl ?_
  refine v_aload_n gC d_law_law_203 rfl 2 rfl ?_
  refine v_aload_n gC d_law_law_204 rfl 0 rfl ?_
  refine v_iload gC d_law_law_205 4 rfl ?_
  refine v_iconst gC d_law_law_207 ?_
  refine v_iadd gC d_law_law_208 (i + 1) rfl ?_
  refine v_sld gC hX hbl hbA ⟨by omega, by omega⟩ hL d_law_law_209 ?_
  refine v_aload_n gC d_law_law_210 rfl 0 rfl ?_
  refine v_iload gC d_law_law_211 4 rfl ?_
  refine v_iconst gC d_law_law_213 ?_
  refine v_iadd gC d_law_law_214 (i + 2) rfl ?_
  refine v_sld gC hX hbl hbA ⟨by omega, by omega⟩ hL d_law_law_215 ?_
  refine v_aload_n gC d_law_law_216 rfl 0 rfl ?_
  refine v_iload gC d_law_law_217 4 rfl ?_
  refine v_iconst gC d_law_law_219 ?_
  refine v_iadd gC d_law_law_220 (i + 3) rfl ?_
  refine v_sld gC hX hbl hbA ⟨by omega, by omega⟩ hL d_law_law_221 ?_
  refine v_midV (R := room_1) (k := 48 + i.toNat) (n := 57879 + i.toNat) (rest := [.int (zI r1)]) (wa := (w_LS K dx u2)) (wb := [(oa, .inl (K 2, 1, .inr (.inl f)))]) gC (k_Mo_tri l D K dm (zX xs (i + 1)) (zX xs (i + 2)) (zX xs (i + 3)) sm _ h) wV_law_30 rfl ⟨Nat.le_of_ble_eq_true rfl, Nat.le_of_ble_eq_true rfl, by omega, by omega⟩ rfl rfl rfl (Nat.le_of_ble_eq_true rfl) d_law_law_222 (fun v w1 hp => ?_)
  obtain ⟨r3, u4, rfl, rfl, h⟩ := hp
  refine v_norm (ws' := (w_LS K dx u2 ++ (w_Mo K dm u4 ++ [(oa, .inl (K 2, 1, .inr (.inl f)))]))) (st' := [.int (zI r3), .int (zI r1)]) rfl rfl ?_
  obtain ⟨he, h⟩ := h
  refine v_jeq (tgt := 897) gC d_law_law_225 (by decide) he ?_
  refine v_iinc (lv' := [(0, .ref b), (1, .ref (dx 0)), (2, .ref (dm 0)), (3, .ref oa), (4, .int (zI (i + 6)))]) gC d_law_law_897 4 rfl (by decide) (i + 6) rfl [1, 2, 3, 4, 0] rfl ?_
  refine v_goto (tgt := 23) gC d_law_law_900 (by decide) ?_
  refine v_widen (k' := 48 + (i + 6).toNat) (n' := 57879 + (i + 6).toNat) (by omega) (by omega) ?_
  exact ih dx dm oa u2 u4 f h
set_option maxHeartbeats 400000 in
set_option maxRecDepth 100000 in
theorem law_2 {l : Launch} (htr : l.stackTraces = false) {p : Program} {e : Env} {s : State} {m : MethodId} {below : List Frame} {meth : Method} {c : Code} {D : va_G} {K : Nat → ClassId} {b L : Nat} {xs : Nat → Int32} (hL : L ≤ 3072) (gC : Cx p s m #[Value.ref b] c code 7 R_law D K (fun q : Nat => s.heap.size ≤ q)) (hX : va_X b L xs s s.heap) (hbl : b < s.heap.size) (hbA : ¬ s.heap.size ≤ b) (hTW : TW s) (hns : ∀ (q : Nat) (cell : Cell), s.heap.size ≤ q → s.heap[q]? = some cell → cell.vm.isStatics = false) {Q : s_LS → s_Mo → Prop} (i : Int) (hi : 0 ≤ i ∧ i + 6 ≤ (L : Int)) (dx dm : Nat → Nat) (oa : Nat) (sx : s_LS) (sm : s_Mo) (f : Nat → Int64)
    (ih : ∀ (dx dm : Nat → Nat) (oa : Nat) (sx : s_LS) (sm : s_Mo) (f : Nat → Int64), Q sx sm → V p l e room_1 s m #[Value.ref b] below meth c D (fun q : Nat => s.heap.size ≤ q) 7 (48 + (i + 6).toNat) (57879 + (i + 6).toNat) (lw_Z below #[Value.ref b] s) (w_LS K dx sx ++ (w_Mo K dm sm ++ [(oa, .inl (K 2, 1, .inr (.inl f)))])) 23 [(0, .ref b), (1, .ref (dx 0)), (2, .ref (dm 0)), (3, .ref oa), (4, .int (zI (i + 6)))] []) (h : wp_LS_mend sx (fun r1 u2 => wp_Mo_mend sm (fun r3 u4 => r1 = r3 ∧ (Q u2 u4)))) : V p l e room_1 s m #[Value.ref b] below meth c D (fun q : Nat => s.heap.size ≤ q) 7 (48 + i.toNat) (57879 + i.toNat) (lw_Z below #[Value.ref b] s) (w_LS K dx sx ++ (w_Mo K dm sm ++ [(oa, .inl (K 2, 1, .inr (.inl f)))])) 230 [(0, .ref b), (1, .ref (dx 0)), (2, .ref (dm 0)), (3, .ref oa), (4, .int (zI i))] [] := by
  have hrc : room_1.cells = 601024 := rfl
  have hrs : room_1.slots = 7293034 := rfl
  refine v_aload_n gC d_law_law_230 rfl 1 rfl ?_
  refine v_preV (R := room_1) (k := 48 + i.toNat) (n := 57879 + i.toNat) (rest := [])  (wb := (w_Mo K dm sm ++ [(oa, .inl (K 2, 1, .inr (.inl f)))])) gC (k_LS_mend l D K dx sx _ h) wV_law_31 rfl ⟨Nat.le_of_ble_eq_true rfl, Nat.le_of_ble_eq_true rfl, by omega, by omega⟩ rfl rfl rfl (Nat.le_of_ble_eq_true rfl) d_law_law_231 (fun v w1 hp => ?_)
  obtain ⟨r1, u2, rfl, rfl, h⟩ := hp
  refine v_norm (ws' := (w_LS K dx u2 ++ (w_Mo K dm sm ++ [(oa, .inl (K 2, 1, .inr (.inl f)))]))) (st' := [.int (zI r1)]) rfl rfl ?_
  refine v_aload_n gC d_law_law_234 rfl 2 rfl ?_
  refine v_midV (R := room_1) (k := 48 + i.toNat) (n := 57879 + i.toNat) (rest := [.int (zI r1)]) (wa := (w_LS K dx u2)) (wb := [(oa, .inl (K 2, 1, .inr (.inl f)))]) gC (k_Mo_mend l D K dm sm _ h) wV_law_35 rfl ⟨Nat.le_of_ble_eq_true rfl, Nat.le_of_ble_eq_true rfl, by omega, by omega⟩ rfl rfl rfl (Nat.le_of_ble_eq_true rfl) d_law_law_235 (fun v w1 hp => ?_)
  obtain ⟨r3, u4, rfl, rfl, h⟩ := hp
  refine v_norm (ws' := (w_LS K dx u2 ++ (w_Mo K dm u4 ++ [(oa, .inl (K 2, 1, .inr (.inl f)))]))) (st' := [.int (zI r3), .int (zI r1)]) rfl rfl ?_
  obtain ⟨he, h⟩ := h
  refine v_jeq (tgt := 897) gC d_law_law_238 (by decide) he ?_
  refine v_iinc (lv' := [(0, .ref b), (1, .ref (dx 0)), (2, .ref (dm 0)), (3, .ref oa), (4, .int (zI (i + 6)))]) gC d_law_law_897 4 rfl (by decide) (i + 6) rfl [1, 2, 3, 4, 0] rfl ?_
  refine v_goto (tgt := 23) gC d_law_law_900 (by decide) ?_
  refine v_widen (k' := 48 + (i + 6).toNat) (n' := 57879 + (i + 6).toNat) (by omega) (by omega) ?_
  exact ih dx dm oa u2 u4 f h
set_option maxHeartbeats 400000 in
set_option maxRecDepth 100000 in
theorem law_3 {l : Launch} (htr : l.stackTraces = false) {p : Program} {e : Env} {s : State} {m : MethodId} {below : List Frame} {meth : Method} {c : Code} {D : va_G} {K : Nat → ClassId} {b L : Nat} {xs : Nat → Int32} (hL : L ≤ 3072) (gC : Cx p s m #[Value.ref b] c code 7 R_law D K (fun q : Nat => s.heap.size ≤ q)) (hX : va_X b L xs s s.heap) (hbl : b < s.heap.size) (hbA : ¬ s.heap.size ≤ b) (hTW : TW s) (hns : ∀ (q : Nat) (cell : Cell), s.heap.size ≤ q → s.heap[q]? = some cell → cell.vm.isStatics = false) {Q : s_LS → s_Mo → Prop} (i : Int) (hi : 0 ≤ i ∧ i + 6 ≤ (L : Int)) (dx dm : Nat → Nat) (oa : Nat) (sx : s_LS) (sm : s_Mo) (f : Nat → Int64)
    (ih : ∀ (dx dm : Nat → Nat) (oa : Nat) (sx : s_LS) (sm : s_Mo) (f : Nat → Int64), Q sx sm → V p l e room_1 s m #[Value.ref b] below meth c D (fun q : Nat => s.heap.size ≤ q) 7 (48 + (i + 6).toNat) (57879 + (i + 6).toNat) (lw_Z below #[Value.ref b] s) (w_LS K dx sx ++ (w_Mo K dm sm ++ [(oa, .inl (K 2, 1, .inr (.inl f)))])) 23 [(0, .ref b), (1, .ref (dx 0)), (2, .ref (dm 0)), (3, .ref oa), (4, .int (zI (i + 6)))] []) (h : wp_LS_mended (zX xs (i + 1)) sx (fun r1 => wp_Mo_mended (zX xs (i + 1)) sm (fun r2 u3 => r1 = r2 ∧ (Q sx u3)))) : V p l e room_1 s m #[Value.ref b] below meth c D (fun q : Nat => s.heap.size ≤ q) 7 (48 + i.toNat) (57879 + i.toNat) (lw_Z below #[Value.ref b] s) (w_LS K dx sx ++ (w_Mo K dm sm ++ [(oa, .inl (K 2, 1, .inr (.inl f)))])) 243 [(0, .ref b), (1, .ref (dx 0)), (2, .ref (dm 0)), (3, .ref oa), (4, .int (zI i))] [] := by
  have hrc : room_1.cells = 601024 := rfl
  have hrs : room_1.slots = 7293034 := rfl
  refine v_aload_n gC d_law_law_243 rfl 1 rfl ?_
  refine v_aload_n gC d_law_law_244 rfl 0 rfl ?_
  refine v_iload gC d_law_law_245 4 rfl ?_
  refine v_iconst gC d_law_law_247 ?_
  refine v_iadd gC d_law_law_248 (i + 1) rfl ?_
  refine v_sld gC hX hbl hbA ⟨by omega, by omega⟩ hL d_law_law_249 ?_
  refine v_preV (R := room_1) (k := 48 + i.toNat) (n := 57879 + i.toNat) (rest := [])  (wb := (w_Mo K dm sm ++ [(oa, .inl (K 2, 1, .inr (.inl f)))])) gC (k_LS_mended l D K dx (zX xs (i + 1)) sx _ h) wV_law_36 rfl ⟨Nat.le_of_ble_eq_true rfl, Nat.le_of_ble_eq_true rfl, by omega, by omega⟩ rfl rfl rfl (Nat.le_of_ble_eq_true rfl) d_law_law_250 (fun v w1 hp => ?_)
  obtain ⟨r1, rfl, rfl, h⟩ := hp
  refine v_norm (ws' := (w_LS K dx sx ++ (w_Mo K dm sm ++ [(oa, .inl (K 2, 1, .inr (.inl f)))]))) (st' := [.int (zI r1)]) rfl rfl ?_
  refine v_aload_n gC d_law_law_253 rfl 2 rfl ?_
  refine v_aload_n gC d_law_law_254 rfl 0 rfl ?_
  refine v_iload gC d_law_law_255 4 rfl ?_
  refine v_iconst gC d_law_law_257 ?_
  refine v_iadd gC d_law_law_258 (i + 1) rfl ?_
  refine v_sld gC hX hbl hbA ⟨by omega, by omega⟩ hL d_law_law_259 ?_
  refine v_midV (R := room_1) (k := 48 + i.toNat) (n := 57879 + i.toNat) (rest := [.int (zI r1)]) (wa := (w_LS K dx sx)) (wb := [(oa, .inl (K 2, 1, .inr (.inl f)))]) gC (k_Mo_mended l D K dm (zX xs (i + 1)) sm _ h) wV_law_40 rfl ⟨Nat.le_of_ble_eq_true rfl, Nat.le_of_ble_eq_true rfl, by omega, by omega⟩ rfl rfl rfl (Nat.le_of_ble_eq_true rfl) d_law_law_260 (fun v w1 hp => ?_)
  obtain ⟨r2, u3, rfl, rfl, h⟩ := hp
  refine v_norm (ws' := (w_LS K dx sx ++ (w_Mo K dm u3 ++ [(oa, .inl (K 2, 1, .inr (.inl f)))]))) (st' := [.int (zI r2), .int (zI r1)]) rfl rfl ?_
  obtain ⟨he, h⟩ := h
  refine v_jeq (tgt := 897) gC d_law_law_263 (by decide) he ?_
  refine v_iinc (lv' := [(0, .ref b), (1, .ref (dx 0)), (2, .ref (dm 0)), (3, .ref oa), (4, .int (zI (i + 6)))]) gC d_law_law_897 4 rfl (by decide) (i + 6) rfl [1, 2, 3, 4, 0] rfl ?_
  refine v_goto (tgt := 23) gC d_law_law_900 (by decide) ?_
  refine v_widen (k' := 48 + (i + 6).toNat) (n' := 57879 + (i + 6).toNat) (by omega) (by omega) ?_
  exact ih dx dm oa sx u3 f h
set_option maxHeartbeats 400000 in
set_option maxRecDepth 100000 in
theorem law_4 {l : Launch} (htr : l.stackTraces = false) {p : Program} {e : Env} {s : State} {m : MethodId} {below : List Frame} {meth : Method} {c : Code} {D : va_G} {K : Nat → ClassId} {b L : Nat} {xs : Nat → Int32} (hL : L ≤ 3072) (gC : Cx p s m #[Value.ref b] c code 7 R_law D K (fun q : Nat => s.heap.size ≤ q)) (hX : va_X b L xs s s.heap) (hbl : b < s.heap.size) (hbA : ¬ s.heap.size ≤ b) (hTW : TW s) (hns : ∀ (q : Nat) (cell : Cell), s.heap.size ≤ q → s.heap[q]? = some cell → cell.vm.isStatics = false) {Q : s_LS → s_Mo → Prop} (i : Int) (hi : 0 ≤ i ∧ i + 6 ≤ (L : Int)) (dx dm : Nat → Nat) (oa : Nat) (sx : s_LS) (sm : s_Mo) (f : Nat → Int64)
    (ih : ∀ (dx dm : Nat → Nat) (oa : Nat) (sx : s_LS) (sm : s_Mo) (f : Nat → Int64), Q sx sm → V p l e room_1 s m #[Value.ref b] below meth c D (fun q : Nat => s.heap.size ≤ q) 7 (48 + (i + 6).toNat) (57879 + (i + 6).toNat) (lw_Z below #[Value.ref b] s) (w_LS K dx sx ++ (w_Mo K dm sm ++ [(oa, .inl (K 2, 1, .inr (.inl f)))])) 23 [(0, .ref b), (1, .ref (dx 0)), (2, .ref (dm 0)), (3, .ref oa), (4, .int (zI (i + 6)))] []) (h : wp_LS_triangle (zX xs (i + 1)) (zX xs (i + 2)) sx (fun r1 => wp_Mo_triangle (zX xs (i + 1)) (zX xs (i + 2)) sm (fun r2 u3 => r1 = r2 ∧ (Q sx u3)))) : V p l e room_1 s m #[Value.ref b] below meth c D (fun q : Nat => s.heap.size ≤ q) 7 (48 + i.toNat) (57879 + i.toNat) (lw_Z below #[Value.ref b] s) (w_LS K dx sx ++ (w_Mo K dm sm ++ [(oa, .inl (K 2, 1, .inr (.inl f)))])) 268 [(0, .ref b), (1, .ref (dx 0)), (2, .ref (dm 0)), (3, .ref oa), (4, .int (zI i))] [] := by
  have hrc : room_1.cells = 601024 := rfl
  have hrs : room_1.slots = 7293034 := rfl
  refine v_aload_n gC d_law_law_268 rfl 1 rfl ?_
  refine v_aload_n gC d_law_law_269 rfl 0 rfl ?_
  refine v_iload gC d_law_law_270 4 rfl ?_
  refine v_iconst gC d_law_law_272 ?_
  refine v_iadd gC d_law_law_273 (i + 1) rfl ?_
  refine v_sld gC hX hbl hbA ⟨by omega, by omega⟩ hL d_law_law_274 ?_
  refine v_aload_n gC d_law_law_275 rfl 0 rfl ?_
  refine v_iload gC d_law_law_276 4 rfl ?_
  refine v_iconst gC d_law_law_278 ?_
  refine v_iadd gC d_law_law_279 (i + 2) rfl ?_
  refine v_sld gC hX hbl hbA ⟨by omega, by omega⟩ hL d_law_law_280 ?_
  refine v_preV (R := room_1) (k := 48 + i.toNat) (n := 57879 + i.toNat) (rest := [])  (wb := (w_Mo K dm sm ++ [(oa, .inl (K 2, 1, .inr (.inl f)))])) gC (k_LS_triangle l D K dx (zX xs (i + 1)) (zX xs (i + 2)) sx _ h) wV_law_41 rfl ⟨Nat.le_of_ble_eq_true rfl, Nat.le_of_ble_eq_true rfl, by omega, by omega⟩ rfl rfl rfl (Nat.le_of_ble_eq_true rfl) d_law_law_281 (fun v w1 hp => ?_)
  obtain ⟨r1, rfl, rfl, h⟩ := hp
  refine v_norm (ws' := (w_LS K dx sx ++ (w_Mo K dm sm ++ [(oa, .inl (K 2, 1, .inr (.inl f)))]))) (st' := [.int (zI r1)]) rfl rfl ?_
  refine v_aload_n gC d_law_law_284 rfl 2 rfl ?_
  refine v_aload_n gC d_law_law_285 rfl 0 rfl ?_
  refine v_iload gC d_law_law_286 4 rfl ?_
  refine v_iconst gC d_law_law_288 ?_
  refine v_iadd gC d_law_law_289 (i + 1) rfl ?_
  refine v_sld gC hX hbl hbA ⟨by omega, by omega⟩ hL d_law_law_290 ?_
  refine v_aload_n gC d_law_law_291 rfl 0 rfl ?_
  refine v_iload gC d_law_law_292 4 rfl ?_
  refine v_iconst gC d_law_law_294 ?_
  refine v_iadd gC d_law_law_295 (i + 2) rfl ?_
  refine v_sld gC hX hbl hbA ⟨by omega, by omega⟩ hL d_law_law_296 ?_
  refine v_midV (R := room_1) (k := 48 + i.toNat) (n := 57879 + i.toNat) (rest := [.int (zI r1)]) (wa := (w_LS K dx sx)) (wb := [(oa, .inl (K 2, 1, .inr (.inl f)))]) gC (k_Mo_triangle l D K dm (zX xs (i + 1)) (zX xs (i + 2)) sm _ h) wV_law_45 rfl ⟨Nat.le_of_ble_eq_true rfl, Nat.le_of_ble_eq_true rfl, by omega, by omega⟩ rfl rfl rfl (Nat.le_of_ble_eq_true rfl) d_law_law_297 (fun v w1 hp => ?_)
  obtain ⟨r2, u3, rfl, rfl, h⟩ := hp
  refine v_norm (ws' := (w_LS K dx sx ++ (w_Mo K dm u3 ++ [(oa, .inl (K 2, 1, .inr (.inl f)))]))) (st' := [.int (zI r2), .int (zI r1)]) rfl rfl ?_
  obtain ⟨he, h⟩ := h
  refine v_jeq (tgt := 897) gC d_law_law_300 (by decide) he ?_
  refine v_iinc (lv' := [(0, .ref b), (1, .ref (dx 0)), (2, .ref (dm 0)), (3, .ref oa), (4, .int (zI (i + 6)))]) gC d_law_law_897 4 rfl (by decide) (i + 6) rfl [1, 2, 3, 4, 0] rfl ?_
  refine v_goto (tgt := 23) gC d_law_law_900 (by decide) ?_
  refine v_widen (k' := 48 + (i + 6).toNat) (n' := 57879 + (i + 6).toNat) (by omega) (by omega) ?_
  exact ih dx dm oa sx u3 f h
set_option maxHeartbeats 400000 in
set_option maxRecDepth 100000 in
theorem law_5 {l : Launch} (htr : l.stackTraces = false) {p : Program} {e : Env} {s : State} {m : MethodId} {below : List Frame} {meth : Method} {c : Code} {D : va_G} {K : Nat → ClassId} {b L : Nat} {xs : Nat → Int32} (hL : L ≤ 3072) (gC : Cx p s m #[Value.ref b] c code 7 R_law D K (fun q : Nat => s.heap.size ≤ q)) (hX : va_X b L xs s s.heap) (hbl : b < s.heap.size) (hbA : ¬ s.heap.size ≤ b) (hTW : TW s) (hns : ∀ (q : Nat) (cell : Cell), s.heap.size ≤ q → s.heap[q]? = some cell → cell.vm.isStatics = false) {Q : s_LS → s_Mo → Prop} (i : Int) (hi : 0 ≤ i ∧ i + 6 ≤ (L : Int)) (dx dm : Nat → Nat) (oa : Nat) (sx : s_LS) (sm : s_Mo) (f : Nat → Int64)
    (ih : ∀ (dx dm : Nat → Nat) (oa : Nat) (sx : s_LS) (sm : s_Mo) (f : Nat → Int64), Q sx sm → V p l e room_1 s m #[Value.ref b] below meth c D (fun q : Nat => s.heap.size ≤ q) 7 (48 + (i + 6).toNat) (57879 + (i + 6).toNat) (lw_Z below #[Value.ref b] s) (w_LS K dx sx ++ (w_Mo K dm sm ++ [(oa, .inl (K 2, 1, .inr (.inl f)))])) 23 [(0, .ref b), (1, .ref (dx 0)), (2, .ref (dm 0)), (3, .ref oa), (4, .int (zI (i + 6)))] []) (h : wp_LS_turn (zX xs (i + 1)) (zX xs (i + 2)) sx (fun r1 u2 => wp_Mo_turn (zX xs (i + 1)) (zX xs (i + 2)) sm (fun r3 u4 => r1 = r3 ∧ (Q u2 u4)))) : V p l e room_1 s m #[Value.ref b] below meth c D (fun q : Nat => s.heap.size ≤ q) 7 (48 + i.toNat) (57879 + i.toNat) (lw_Z below #[Value.ref b] s) (w_LS K dx sx ++ (w_Mo K dm sm ++ [(oa, .inl (K 2, 1, .inr (.inl f)))])) 305 [(0, .ref b), (1, .ref (dx 0)), (2, .ref (dm 0)), (3, .ref oa), (4, .int (zI i))] [] := by
  have hrc : room_1.cells = 601024 := rfl
  have hrs : room_1.slots = 7293034 := rfl
  refine v_aload_n gC d_law_law_305 rfl 1 rfl ?_
  refine v_aload_n gC d_law_law_306 rfl 0 rfl ?_
  refine v_iload gC d_law_law_307 4 rfl ?_
  refine v_iconst gC d_law_law_309 ?_
  refine v_iadd gC d_law_law_310 (i + 1) rfl ?_
  refine v_sld gC hX hbl hbA ⟨by omega, by omega⟩ hL d_law_law_311 ?_
  refine v_aload_n gC d_law_law_312 rfl 0 rfl ?_
  refine v_iload gC d_law_law_313 4 rfl ?_
  refine v_iconst gC d_law_law_315 ?_
  refine v_iadd gC d_law_law_316 (i + 2) rfl ?_
  refine v_sld gC hX hbl hbA ⟨by omega, by omega⟩ hL d_law_law_317 ?_
  refine v_preV (R := room_1) (k := 48 + i.toNat) (n := 57879 + i.toNat) (rest := [])  (wb := (w_Mo K dm sm ++ [(oa, .inl (K 2, 1, .inr (.inl f)))])) gC (k_LS_turn l D K dx (zX xs (i + 1)) (zX xs (i + 2)) sx _ h) wV_law_46 rfl ⟨Nat.le_of_ble_eq_true rfl, Nat.le_of_ble_eq_true rfl, by omega, by omega⟩ rfl rfl rfl (Nat.le_of_ble_eq_true rfl) d_law_law_318 (fun v w1 hp => ?_)
  obtain ⟨r1, u2, rfl, rfl, h⟩ := hp
  refine v_norm (ws' := (w_LS K dx u2 ++ (w_Mo K dm sm ++ [(oa, .inl (K 2, 1, .inr (.inl f)))]))) (st' := [.int (zI r1)]) rfl rfl ?_
  refine v_aload_n gC d_law_law_321 rfl 2 rfl ?_
  refine v_aload_n gC d_law_law_322 rfl 0 rfl ?_
  refine v_iload gC d_law_law_323 4 rfl ?_
  refine v_iconst gC d_law_law_325 ?_
  refine v_iadd gC d_law_law_326 (i + 1) rfl ?_
  refine v_sld gC hX hbl hbA ⟨by omega, by omega⟩ hL d_law_law_327 ?_
  refine v_aload_n gC d_law_law_328 rfl 0 rfl ?_
  refine v_iload gC d_law_law_329 4 rfl ?_
  refine v_iconst gC d_law_law_331 ?_
  refine v_iadd gC d_law_law_332 (i + 2) rfl ?_
  refine v_sld gC hX hbl hbA ⟨by omega, by omega⟩ hL d_law_law_333 ?_
  refine v_midV (R := room_1) (k := 48 + i.toNat) (n := 57879 + i.toNat) (rest := [.int (zI r1)]) (wa := (w_LS K dx u2)) (wb := [(oa, .inl (K 2, 1, .inr (.inl f)))]) gC (k_Mo_turn l D K dm (zX xs (i + 1)) (zX xs (i + 2)) sm _ h) wV_law_50 rfl ⟨Nat.le_of_ble_eq_true rfl, Nat.le_of_ble_eq_true rfl, by omega, by omega⟩ rfl rfl rfl (Nat.le_of_ble_eq_true rfl) d_law_law_334 (fun v w1 hp => ?_)
  obtain ⟨r3, u4, rfl, rfl, h⟩ := hp
  refine v_norm (ws' := (w_LS K dx u2 ++ (w_Mo K dm u4 ++ [(oa, .inl (K 2, 1, .inr (.inl f)))]))) (st' := [.int (zI r3), .int (zI r1)]) rfl rfl ?_
  obtain ⟨he, h⟩ := h
  refine v_jeq (tgt := 897) gC d_law_law_337 (by decide) he ?_
  refine v_iinc (lv' := [(0, .ref b), (1, .ref (dx 0)), (2, .ref (dm 0)), (3, .ref oa), (4, .int (zI (i + 6)))]) gC d_law_law_897 4 rfl (by decide) (i + 6) rfl [1, 2, 3, 4, 0] rfl ?_
  refine v_goto (tgt := 23) gC d_law_law_900 (by decide) ?_
  refine v_widen (k' := 48 + (i + 6).toNat) (n' := 57879 + (i + 6).toNat) (by omega) (by omega) ?_
  exact ih dx dm oa u2 u4 f h
set_option maxHeartbeats 400000 in
set_option maxRecDepth 100000 in
theorem law_6 {l : Launch} (htr : l.stackTraces = false) {p : Program} {e : Env} {s : State} {m : MethodId} {below : List Frame} {meth : Method} {c : Code} {D : va_G} {K : Nat → ClassId} {b L : Nat} {xs : Nat → Int32} (hL : L ≤ 3072) (gC : Cx p s m #[Value.ref b] c code 7 R_law D K (fun q : Nat => s.heap.size ≤ q)) (hX : va_X b L xs s s.heap) (hbl : b < s.heap.size) (hbA : ¬ s.heap.size ≤ b) (hTW : TW s) (hns : ∀ (q : Nat) (cell : Cell), s.heap.size ≤ q → s.heap[q]? = some cell → cell.vm.isStatics = false) {Q : s_LS → s_Mo → Prop} (i : Int) (hi : 0 ≤ i ∧ i + 6 ≤ (L : Int)) (dx dm : Nat → Nat) (oa : Nat) (sx : s_LS) (sm : s_Mo) (f : Nat → Int64)
    (ih : ∀ (dx dm : Nat → Nat) (oa : Nat) (sx : s_LS) (sm : s_Mo) (f : Nat → Int64), Q sx sm → V p l e room_1 s m #[Value.ref b] below meth c D (fun q : Nat => s.heap.size ≤ q) 7 (48 + (i + 6).toNat) (57879 + (i + 6).toNat) (lw_Z below #[Value.ref b] s) (w_LS K dx sx ++ (w_Mo K dm sm ++ [(oa, .inl (K 2, 1, .inr (.inl f)))])) 23 [(0, .ref b), (1, .ref (dx 0)), (2, .ref (dm 0)), (3, .ref oa), (4, .int (zI (i + 6)))] []) (h : wp_LS_layers (zX xs (i + 1)) sx (fun r1 u2 => wp_Mo_layers (zX xs (i + 1)) sm (fun r3 u4 => r1 = r3 ∧ (Q u2 u4)))) : V p l e room_1 s m #[Value.ref b] below meth c D (fun q : Nat => s.heap.size ≤ q) 7 (48 + i.toNat) (57879 + i.toNat) (lw_Z below #[Value.ref b] s) (w_LS K dx sx ++ (w_Mo K dm sm ++ [(oa, .inl (K 2, 1, .inr (.inl f)))])) 342 [(0, .ref b), (1, .ref (dx 0)), (2, .ref (dm 0)), (3, .ref oa), (4, .int (zI i))] [] := by
  have hrc : room_1.cells = 601024 := rfl
  have hrs : room_1.slots = 7293034 := rfl
  refine v_aload_n gC d_law_law_342 rfl 1 rfl ?_
  refine v_aload_n gC d_law_law_343 rfl 0 rfl ?_
  refine v_iload gC d_law_law_344 4 rfl ?_
  refine v_iconst gC d_law_law_346 ?_
  refine v_iadd gC d_law_law_347 (i + 1) rfl ?_
  refine v_sld gC hX hbl hbA ⟨by omega, by omega⟩ hL d_law_law_348 ?_
  refine v_preV (R := room_1) (k := 48 + i.toNat) (n := 57879 + i.toNat) (rest := [])  (wb := (w_Mo K dm sm ++ [(oa, .inl (K 2, 1, .inr (.inl f)))])) gC (k_LS_layers l D K dx (zX xs (i + 1)) sx _ h) wV_law_51 rfl ⟨Nat.le_of_ble_eq_true rfl, Nat.le_of_ble_eq_true rfl, by omega, by omega⟩ rfl rfl rfl (Nat.le_of_ble_eq_true rfl) d_law_law_349 (fun v w1 hp => ?_)
  obtain ⟨r1, u2, rfl, rfl, h⟩ := hp
  refine v_norm (ws' := (w_LS K dx u2 ++ (w_Mo K dm sm ++ [(oa, .inl (K 2, 1, .inr (.inl f)))]))) (st' := [.int (zI r1)]) rfl rfl ?_
  refine v_aload_n gC d_law_law_352 rfl 2 rfl ?_
  refine v_aload_n gC d_law_law_353 rfl 0 rfl ?_
  refine v_iload gC d_law_law_354 4 rfl ?_
  refine v_iconst gC d_law_law_356 ?_
  refine v_iadd gC d_law_law_357 (i + 1) rfl ?_
  refine v_sld gC hX hbl hbA ⟨by omega, by omega⟩ hL d_law_law_358 ?_
  refine v_midV (R := room_1) (k := 48 + i.toNat) (n := 57879 + i.toNat) (rest := [.int (zI r1)]) (wa := (w_LS K dx u2)) (wb := [(oa, .inl (K 2, 1, .inr (.inl f)))]) gC (k_Mo_layers l D K dm (zX xs (i + 1)) sm _ h) wV_law_54 rfl ⟨Nat.le_of_ble_eq_true rfl, Nat.le_of_ble_eq_true rfl, by omega, by omega⟩ rfl rfl rfl (Nat.le_of_ble_eq_true rfl) d_law_law_359 (fun v w1 hp => ?_)
  obtain ⟨r3, u4, rfl, rfl, h⟩ := hp
  refine v_norm (ws' := (w_LS K dx u2 ++ (w_Mo K dm u4 ++ [(oa, .inl (K 2, 1, .inr (.inl f)))]))) (st' := [.int (zI r3), .int (zI r1)]) rfl rfl ?_
  obtain ⟨he, h⟩ := h
  refine v_jeq (tgt := 897) gC d_law_law_362 (by decide) he ?_
  refine v_iinc (lv' := [(0, .ref b), (1, .ref (dx 0)), (2, .ref (dm 0)), (3, .ref oa), (4, .int (zI (i + 6)))]) gC d_law_law_897 4 rfl (by decide) (i + 6) rfl [1, 2, 3, 4, 0] rfl ?_
  refine v_goto (tgt := 23) gC d_law_law_900 (by decide) ?_
  refine v_widen (k' := 48 + (i + 6).toNat) (n' := 57879 + (i + 6).toNat) (by omega) (by omega) ?_
  exact ih dx dm oa u2 u4 f h
set_option maxHeartbeats 400000 in
set_option maxRecDepth 100000 in
theorem law_7 {l : Launch} (htr : l.stackTraces = false) {p : Program} {e : Env} {s : State} {m : MethodId} {below : List Frame} {meth : Method} {c : Code} {D : va_G} {K : Nat → ClassId} {b L : Nat} {xs : Nat → Int32} (hL : L ≤ 3072) (gC : Cx p s m #[Value.ref b] c code 7 R_law D K (fun q : Nat => s.heap.size ≤ q)) (hX : va_X b L xs s s.heap) (hbl : b < s.heap.size) (hbA : ¬ s.heap.size ≤ b) (hTW : TW s) (hns : ∀ (q : Nat) (cell : Cell), s.heap.size ≤ q → s.heap[q]? = some cell → cell.vm.isStatics = false) {Q : s_LS → s_Mo → Prop} (i : Int) (hi : 0 ≤ i ∧ i + 6 ≤ (L : Int)) (dx dm : Nat → Nat) (oa : Nat) (sx : s_LS) (sm : s_Mo) (f : Nat → Int64)
    (ih : ∀ (dx dm : Nat → Nat) (oa : Nat) (sx : s_LS) (sm : s_Mo) (f : Nat → Int64), Q sx sm → V p l e room_1 s m #[Value.ref b] below meth c D (fun q : Nat => s.heap.size ≤ q) 7 (48 + (i + 6).toNat) (57879 + (i + 6).toNat) (lw_Z below #[Value.ref b] s) (w_LS K dx sx ++ (w_Mo K dm sm ++ [(oa, .inl (K 2, 1, .inr (.inl f)))])) 23 [(0, .ref b), (1, .ref (dx 0)), (2, .ref (dm 0)), (3, .ref oa), (4, .int (zI (i + 6)))] []) (h : (wp_LS_cut (zX xs (i + 1)) (zX xs (i + 2)) (zX xs (i + 3)) (zX xs (i + 4)) sx (fun r1 u2 => rg r1 ∧ (rg r1 ∧ (wp_Mo_cut (zX xs (i + 1)) (zX xs (i + 2)) (zX xs (i + 3)) (zX xs (i + 4)) sm (fun r3 u4 => wp_Mo_thrown u4 (fun r5 => r5 = 0 ∧ (r1 = r3 ∧ (Q u2 u4)))))))) ∨ (wt_LS_cut (zX xs (i + 1)) (zX xs (i + 2)) (zX xs (i + 3)) (zX xs (i + 4)) sx (fun u2 => wp_Mo_cut (zX xs (i + 1)) (zX xs (i + 2)) (zX xs (i + 3)) (zX xs (i + 4)) sm (fun r6 u7 => wp_Mo_thrown u7 (fun r8 => r8 = 1 ∧ (Q u2 u7)))))) : V p l e room_1 s m #[Value.ref b] below meth c D (fun q : Nat => s.heap.size ≤ q) 7 (48 + i.toNat) (57879 + i.toNat) (lw_Z below #[Value.ref b] s) (w_LS K dx sx ++ (w_Mo K dm sm ++ [(oa, .inl (K 2, 1, .inr (.inl f)))])) 367 [(0, .ref b), (1, .ref (dx 0)), (2, .ref (dm 0)), (3, .ref oa), (4, .int (zI i))] [] := by
  have hrc : room_1.cells = 601024 := rfl
  have hrs : room_1.slots = 7293034 := rfl
  refine v_aload_n gC d_law_law_367 rfl 1 rfl ?_
  refine v_aload_n gC d_law_law_368 rfl 0 rfl ?_
  refine v_iload gC d_law_law_369 4 rfl ?_
  refine v_iconst gC d_law_law_371 ?_
  refine v_iadd gC d_law_law_372 (i + 1) rfl ?_
  refine v_sld gC hX hbl hbA ⟨by omega, by omega⟩ hL d_law_law_373 ?_
  refine v_aload_n gC d_law_law_374 rfl 0 rfl ?_
  refine v_iload gC d_law_law_375 4 rfl ?_
  refine v_iconst gC d_law_law_377 ?_
  refine v_iadd gC d_law_law_378 (i + 2) rfl ?_
  refine v_sld gC hX hbl hbA ⟨by omega, by omega⟩ hL d_law_law_379 ?_
  refine v_aload_n gC d_law_law_380 rfl 0 rfl ?_
  refine v_iload gC d_law_law_381 4 rfl ?_
  refine v_iconst gC d_law_law_383 ?_
  refine v_iadd gC d_law_law_384 (i + 3) rfl ?_
  refine v_sld gC hX hbl hbA ⟨by omega, by omega⟩ hL d_law_law_385 ?_
  refine v_aload_n gC d_law_law_386 rfl 0 rfl ?_
  refine v_iload gC d_law_law_387 4 rfl ?_
  refine v_iconst gC d_law_law_389 ?_
  refine v_iadd gC d_law_law_390 (i + 4) rfl ?_
  refine v_sld gC hX hbl hbA ⟨by omega, by omega⟩ hL d_law_law_391 ?_
  refine v_aload_n gC d_law_law_392 rfl 3 rfl ?_
  rcases h with h | h
  · replace h := h
    refine v_sw ?_
    refine v_eqw (List.append_assoc (w_LS K dx sx) [(oa, .inl (K 2, 1, .inr (.inl f)))] (w_Mo K dm sm)).symm ?_
    refine v_preW (R := room_1) (k := 48 + i.toNat) (n := 57879 + i.toNat) (rest := []) (wb := w_Mo K dm sm) gC (kr_law_cut l D K dx oa f (zX xs (i + 1)) (zX xs (i + 2)) (zX xs (i + 3)) (zX xs (i + 4)) sx _ h) wW_law_55 rfl ⟨Nat.le_of_ble_eq_true rfl, Nat.le_of_ble_eq_true rfl, by omega, by omega⟩ hTW hns rfl (Nat.le_of_ble_eq_true rfl) d_law_law_393 (fun v w1 hp => ?_)
    obtain ⟨r1, u2, rfl, rfl, hr, h⟩ := hp
    refine v_norm (ws' := (w_LS K dx u2 ++ [(oa, .inl (K 2, 1, .inr (.inl (vp_updL f 0 (lI r1)))))]) ++ w_Mo K dm sm) (st' := [.int (zI 0)]) rfl rfl ?_
    refine v_eqw (List.append_assoc (w_LS K dx u2) [(oa, .inl (K 2, 1, .inr (.inl (vp_updL f 0 (lI r1)))))] (w_Mo K dm sm)) ?_
    refine v_sw ?_
    refine v_istore (lv' := [(0, .ref b), (1, .ref (dx 0)), (2, .ref (dm 0)), (3, .ref oa), (4, .int (zI i)), (5, .int (zI 0))]) gC d_law_law_396 (by decide) [1, 2, 3, 4, 5, 0] rfl ?_
    refine v_aload_n gC d_law_law_398 rfl 2 rfl ?_
    refine v_aload_n gC d_law_law_399 rfl 0 rfl ?_
    refine v_iload gC d_law_law_400 4 rfl ?_
    refine v_iconst gC d_law_law_402 ?_
    refine v_iadd gC d_law_law_403 (i + 1) rfl ?_
    refine v_sld gC hX hbl hbA ⟨by omega, by omega⟩ hL d_law_law_404 ?_
    refine v_aload_n gC d_law_law_405 rfl 0 rfl ?_
    refine v_iload gC d_law_law_406 4 rfl ?_
    refine v_iconst gC d_law_law_408 ?_
    refine v_iadd gC d_law_law_409 (i + 2) rfl ?_
    refine v_sld gC hX hbl hbA ⟨by omega, by omega⟩ hL d_law_law_410 ?_
    refine v_aload_n gC d_law_law_411 rfl 0 rfl ?_
    refine v_iload gC d_law_law_412 4 rfl ?_
    refine v_iconst gC d_law_law_414 ?_
    refine v_iadd gC d_law_law_415 (i + 3) rfl ?_
    refine v_sld gC hX hbl hbA ⟨by omega, by omega⟩ hL d_law_law_416 ?_
    refine v_aload_n gC d_law_law_417 rfl 0 rfl ?_
    refine v_iload gC d_law_law_418 4 rfl ?_
    refine v_iconst gC d_law_law_420 ?_
    refine v_iadd gC d_law_law_421 (i + 4) rfl ?_
    refine v_sld gC hX hbl hbA ⟨by omega, by omega⟩ hL d_law_law_422 ?_
    refine v_midV (R := room_1) (k := 48 + i.toNat + 1) (n := 57879 + i.toNat + 6) (rest := []) (wa := (w_LS K dx u2)) (wb := [(oa, .inl (K 2, 1, .inr (.inl (vp_updL f 0 (lI r1)))))]) gC (k_Mo_cut l D K dm (zX xs (i + 1)) (zX xs (i + 2)) (zX xs (i + 3)) (zX xs (i + 4)) sm _ h) wV_law_60 rfl ⟨Nat.le_of_ble_eq_true rfl, Nat.le_of_ble_eq_true rfl, by omega, by omega⟩ rfl rfl rfl (Nat.le_of_ble_eq_true rfl) d_law_law_423 (fun v w1 hp => ?_)
    obtain ⟨r3, u4, rfl, rfl, h⟩ := hp
    refine v_norm (ws' := (w_LS K dx u2 ++ (w_Mo K dm u4 ++ [(oa, .inl (K 2, 1, .inr (.inl (vp_updL f 0 (lI r1)))))]))) (st' := [.int (zI r3)]) rfl rfl ?_
    refine v_istore (lv' := [(0, .ref b), (1, .ref (dx 0)), (2, .ref (dm 0)), (3, .ref oa), (4, .int (zI i)), (5, .int (zI 0)), (6, .int (zI r3))]) gC d_law_law_426 (by decide) [1, 2, 3, 4, 5, 6, 0] rfl ?_
    refine v_aload_n gC d_law_law_428 rfl 2 rfl ?_
    refine v_midV (R := room_1) (k := 48 + i.toNat + 1) (n := 57879 + i.toNat + 6) (rest := []) (wa := (w_LS K dx u2)) (wb := [(oa, .inl (K 2, 1, .inr (.inl (vp_updL f 0 (lI r1)))))]) gC (k_Mo_thrown l D K dm u4 _ h) wV_law_61 rfl ⟨Nat.le_of_ble_eq_true rfl, Nat.le_of_ble_eq_true rfl, by omega, by omega⟩ rfl rfl rfl (Nat.le_of_ble_eq_true rfl) d_law_law_429 (fun v w1 hp => ?_)
    obtain ⟨r5, rfl, rfl, h⟩ := hp
    refine v_norm (ws' := (w_LS K dx u2 ++ (w_Mo K dm u4 ++ [(oa, .inl (K 2, 1, .inr (.inl (vp_updL f 0 (lI r1)))))]))) (st' := [.int (zI r5)]) rfl rfl ?_
    refine v_iload gC d_law_law_432 5 rfl ?_
    obtain ⟨he, h⟩ := h
    refine v_jeq (tgt := 439) gC d_law_law_434 (by decide) he ?_
    refine v_iload gC d_law_law_439 5 rfl ?_
    refine v_if_ne (tgt := 456) gC d_law_law_441 (by decide) (by decide) (fun hc => ?_) (fun hc => ?_)
    · exact absurd rfl hc
    · skip
      refine v_aload_n gC d_law_law_444 rfl 3 rfl ?_
      refine v_iconst gC d_law_law_445 ?_
      refine v_lald (x := lI r1) gC 47 rfl rfl d_law_law_446 ?_
      refine v_iload gC d_law_law_447 6 rfl ?_
      obtain ⟨he2, h⟩ := h
      refine v_i2l gC d_law_law_449 (he2 ▸ hr) ?_
      refine v_lcmp gC d_law_law_450 (rgl_rg hr) (rgl_rg (he2 ▸ hr)) ?_
      refine v_if_eq (tgt := 456) gC d_law_law_451 (by decide) (cmpZ_rg _ _) (fun hc => ?_) (fun hc => ?_)
      · skip
        refine v_goto (tgt := 897) gC d_law_law_456 (by decide) ?_
        refine v_iinc (lv' := [(0, .ref b), (1, .ref (dx 0)), (2, .ref (dm 0)), (3, .ref oa), (4, .int (zI (i + 6)))]) gC d_law_law_897 4 rfl (by decide) (i + 6) rfl [1, 2, 3, 4, 0] rfl ?_
        refine v_goto (tgt := 23) gC d_law_law_900 (by decide) ?_
        refine v_widen (k' := 48 + (i + 6).toNat) (n' := 57879 + (i + 6).toNat) (by omega) (by omega) ?_
        exact ih dx dm oa u2 u4 (vp_updL f 0 (lI r1)) h
      · exact absurd (cmpZ_eq.mpr he2) hc
  · replace h := h
    refine v_sw ?_
    refine v_eqw (List.append_assoc (w_LS K dx sx) [(oa, .inl (K 2, 1, .inr (.inl f)))] (w_Mo K dm sm)).symm ?_
    refine v_preW (R := room_1) (k := 48 + i.toNat) (n := 57879 + i.toNat) (rest := []) (wb := w_Mo K dm sm) gC (kt_law_cut l htr D K dx oa f (zX xs (i + 1)) (zX xs (i + 2)) (zX xs (i + 3)) (zX xs (i + 4)) sx _ h) wW_law_55 rfl ⟨Nat.le_of_ble_eq_true rfl, Nat.le_of_ble_eq_true rfl, by omega, by omega⟩ hTW hns rfl (Nat.le_of_ble_eq_true rfl) d_law_law_393 (fun v w1 hp => ?_)
    obtain ⟨u2, rfl, rfl, h⟩ := hp
    refine v_norm (ws' := (w_LS K dx u2 ++ [(oa, .inl (K 2, 1, .inr (.inl f)))]) ++ w_Mo K dm sm) (st' := [.int (zI 1)]) rfl rfl ?_
    refine v_eqw (List.append_assoc (w_LS K dx u2) [(oa, .inl (K 2, 1, .inr (.inl f)))] (w_Mo K dm sm)) ?_
    refine v_sw ?_
    refine v_istore (lv' := [(0, .ref b), (1, .ref (dx 0)), (2, .ref (dm 0)), (3, .ref oa), (4, .int (zI i)), (5, .int (zI 1))]) gC d_law_law_396 (by decide) [1, 2, 3, 4, 5, 0] rfl ?_
    refine v_aload_n gC d_law_law_398 rfl 2 rfl ?_
    refine v_aload_n gC d_law_law_399 rfl 0 rfl ?_
    refine v_iload gC d_law_law_400 4 rfl ?_
    refine v_iconst gC d_law_law_402 ?_
    refine v_iadd gC d_law_law_403 (i + 1) rfl ?_
    refine v_sld gC hX hbl hbA ⟨by omega, by omega⟩ hL d_law_law_404 ?_
    refine v_aload_n gC d_law_law_405 rfl 0 rfl ?_
    refine v_iload gC d_law_law_406 4 rfl ?_
    refine v_iconst gC d_law_law_408 ?_
    refine v_iadd gC d_law_law_409 (i + 2) rfl ?_
    refine v_sld gC hX hbl hbA ⟨by omega, by omega⟩ hL d_law_law_410 ?_
    refine v_aload_n gC d_law_law_411 rfl 0 rfl ?_
    refine v_iload gC d_law_law_412 4 rfl ?_
    refine v_iconst gC d_law_law_414 ?_
    refine v_iadd gC d_law_law_415 (i + 3) rfl ?_
    refine v_sld gC hX hbl hbA ⟨by omega, by omega⟩ hL d_law_law_416 ?_
    refine v_aload_n gC d_law_law_417 rfl 0 rfl ?_
    refine v_iload gC d_law_law_418 4 rfl ?_
    refine v_iconst gC d_law_law_420 ?_
    refine v_iadd gC d_law_law_421 (i + 4) rfl ?_
    refine v_sld gC hX hbl hbA ⟨by omega, by omega⟩ hL d_law_law_422 ?_
    refine v_midV (R := room_1) (k := 48 + i.toNat + 1) (n := 57879 + i.toNat + 6) (rest := []) (wa := (w_LS K dx u2)) (wb := [(oa, .inl (K 2, 1, .inr (.inl f)))]) gC (k_Mo_cut l D K dm (zX xs (i + 1)) (zX xs (i + 2)) (zX xs (i + 3)) (zX xs (i + 4)) sm _ h) wV_law_60 rfl ⟨Nat.le_of_ble_eq_true rfl, Nat.le_of_ble_eq_true rfl, by omega, by omega⟩ rfl rfl rfl (Nat.le_of_ble_eq_true rfl) d_law_law_423 (fun v w1 hp => ?_)
    obtain ⟨r6, u7, rfl, rfl, h⟩ := hp
    refine v_norm (ws' := (w_LS K dx u2 ++ (w_Mo K dm u7 ++ [(oa, .inl (K 2, 1, .inr (.inl f)))]))) (st' := [.int (zI r6)]) rfl rfl ?_
    refine v_istore (lv' := [(0, .ref b), (1, .ref (dx 0)), (2, .ref (dm 0)), (3, .ref oa), (4, .int (zI i)), (5, .int (zI 1)), (6, .int (zI r6))]) gC d_law_law_426 (by decide) [1, 2, 3, 4, 5, 6, 0] rfl ?_
    refine v_aload_n gC d_law_law_428 rfl 2 rfl ?_
    refine v_midV (R := room_1) (k := 48 + i.toNat + 1) (n := 57879 + i.toNat + 6) (rest := []) (wa := (w_LS K dx u2)) (wb := [(oa, .inl (K 2, 1, .inr (.inl f)))]) gC (k_Mo_thrown l D K dm u7 _ h) wV_law_61 rfl ⟨Nat.le_of_ble_eq_true rfl, Nat.le_of_ble_eq_true rfl, by omega, by omega⟩ rfl rfl rfl (Nat.le_of_ble_eq_true rfl) d_law_law_429 (fun v w1 hp => ?_)
    obtain ⟨r8, rfl, rfl, h⟩ := hp
    refine v_norm (ws' := (w_LS K dx u2 ++ (w_Mo K dm u7 ++ [(oa, .inl (K 2, 1, .inr (.inl f)))]))) (st' := [.int (zI r8)]) rfl rfl ?_
    refine v_iload gC d_law_law_432 5 rfl ?_
    obtain ⟨he, h⟩ := h
    refine v_jeq (tgt := 439) gC d_law_law_434 (by decide) he ?_
    refine v_iload gC d_law_law_439 5 rfl ?_
    refine v_if_ne (tgt := 456) gC d_law_law_441 (by decide) (by decide) (fun hc => ?_) (fun hc => ?_)
    · skip
      refine v_goto (tgt := 897) gC d_law_law_456 (by decide) ?_
      refine v_iinc (lv' := [(0, .ref b), (1, .ref (dx 0)), (2, .ref (dm 0)), (3, .ref oa), (4, .int (zI (i + 6)))]) gC d_law_law_897 4 rfl (by decide) (i + 6) rfl [1, 2, 3, 4, 0] rfl ?_
      refine v_goto (tgt := 23) gC d_law_law_900 (by decide) ?_
      refine v_widen (k' := 48 + (i + 6).toNat) (n' := 57879 + (i + 6).toNat) (by omega) (by omega) ?_
      exact ih dx dm oa u2 u7 f h
    · exact absurd hc (by decide)
set_option maxHeartbeats 400000 in
set_option maxRecDepth 100000 in
theorem law_8 {l : Launch} (htr : l.stackTraces = false) {p : Program} {e : Env} {s : State} {m : MethodId} {below : List Frame} {meth : Method} {c : Code} {D : va_G} {K : Nat → ClassId} {b L : Nat} {xs : Nat → Int32} (hL : L ≤ 3072) (gC : Cx p s m #[Value.ref b] c code 7 R_law D K (fun q : Nat => s.heap.size ≤ q)) (hX : va_X b L xs s s.heap) (hbl : b < s.heap.size) (hbA : ¬ s.heap.size ≤ b) (hTW : TW s) (hns : ∀ (q : Nat) (cell : Cell), s.heap.size ≤ q → s.heap[q]? = some cell → cell.vm.isStatics = false) {Q : s_LS → s_Mo → Prop} (i : Int) (hi : 0 ≤ i ∧ i + 6 ≤ (L : Int)) (dx dm : Nat → Nat) (oa : Nat) (sx : s_LS) (sm : s_Mo) (f : Nat → Int64)
    (ih : ∀ (dx dm : Nat → Nat) (oa : Nat) (sx : s_LS) (sm : s_Mo) (f : Nat → Int64), Q sx sm → V p l e room_1 s m #[Value.ref b] below meth c D (fun q : Nat => s.heap.size ≤ q) 7 (48 + (i + 6).toNat) (57879 + (i + 6).toNat) (lw_Z below #[Value.ref b] s) (w_LS K dx sx ++ (w_Mo K dm sm ++ [(oa, .inl (K 2, 1, .inr (.inl f)))])) 23 [(0, .ref b), (1, .ref (dx 0)), (2, .ref (dm 0)), (3, .ref oa), (4, .int (zI (i + 6)))] []) (h : wp_LS_solid (zX xs (i + 1)) (zX xs (i + 2)) (zX xs (i + 3)) sx (fun r1 => wp_Mo_solid (zX xs (i + 1)) (zX xs (i + 2)) (zX xs (i + 3)) sm (fun r2 u3 => r1 = r2 ∧ (Q sx u3)))) : V p l e room_1 s m #[Value.ref b] below meth c D (fun q : Nat => s.heap.size ≤ q) 7 (48 + i.toNat) (57879 + i.toNat) (lw_Z below #[Value.ref b] s) (w_LS K dx sx ++ (w_Mo K dm sm ++ [(oa, .inl (K 2, 1, .inr (.inl f)))])) 459 [(0, .ref b), (1, .ref (dx 0)), (2, .ref (dm 0)), (3, .ref oa), (4, .int (zI i))] [] := by
  have hrc : room_1.cells = 601024 := rfl
  have hrs : room_1.slots = 7293034 := rfl
  refine v_aload_n gC d_law_law_459 rfl 1 rfl ?_
  refine v_aload_n gC d_law_law_460 rfl 0 rfl ?_
  refine v_iload gC d_law_law_461 4 rfl ?_
  refine v_iconst gC d_law_law_463 ?_
  refine v_iadd gC d_law_law_464 (i + 1) rfl ?_
  refine v_sld gC hX hbl hbA ⟨by omega, by omega⟩ hL d_law_law_465 ?_
  refine v_aload_n gC d_law_law_466 rfl 0 rfl ?_
  refine v_iload gC d_law_law_467 4 rfl ?_
  refine v_iconst gC d_law_law_469 ?_
  refine v_iadd gC d_law_law_470 (i + 2) rfl ?_
  refine v_sld gC hX hbl hbA ⟨by omega, by omega⟩ hL d_law_law_471 ?_
  refine v_aload_n gC d_law_law_472 rfl 0 rfl ?_
  refine v_iload gC d_law_law_473 4 rfl ?_
  refine v_iconst gC d_law_law_475 ?_
  refine v_iadd gC d_law_law_476 (i + 3) rfl ?_
  refine v_sld gC hX hbl hbA ⟨by omega, by omega⟩ hL d_law_law_477 ?_
  refine v_preV (R := room_1) (k := 48 + i.toNat) (n := 57879 + i.toNat) (rest := [])  (wb := (w_Mo K dm sm ++ [(oa, .inl (K 2, 1, .inr (.inl f)))])) gC (k_LS_solid l D K dx (zX xs (i + 1)) (zX xs (i + 2)) (zX xs (i + 3)) sx _ h) wV_law_64 rfl ⟨Nat.le_of_ble_eq_true rfl, Nat.le_of_ble_eq_true rfl, by omega, by omega⟩ rfl rfl rfl (Nat.le_of_ble_eq_true rfl) d_law_law_478 (fun v w1 hp => ?_)
  obtain ⟨r1, rfl, rfl, h⟩ := hp
  refine v_norm (ws' := (w_LS K dx sx ++ (w_Mo K dm sm ++ [(oa, .inl (K 2, 1, .inr (.inl f)))]))) (st' := [.int (zI r1)]) rfl rfl ?_
  refine v_aload_n gC d_law_law_481 rfl 2 rfl ?_
  refine v_aload_n gC d_law_law_482 rfl 0 rfl ?_
  refine v_iload gC d_law_law_483 4 rfl ?_
  refine v_iconst gC d_law_law_485 ?_
  refine v_iadd gC d_law_law_486 (i + 1) rfl ?_
  refine v_sld gC hX hbl hbA ⟨by omega, by omega⟩ hL d_law_law_487 ?_
  refine v_aload_n gC d_law_law_488 rfl 0 rfl ?_
  refine v_iload gC d_law_law_489 4 rfl ?_
  refine v_iconst gC d_law_law_491 ?_
  refine v_iadd gC d_law_law_492 (i + 2) rfl ?_
  refine v_sld gC hX hbl hbA ⟨by omega, by omega⟩ hL d_law_law_493 ?_
  refine v_aload_n gC d_law_law_494 rfl 0 rfl ?_
  refine v_iload gC d_law_law_495 4 rfl ?_
  refine v_iconst gC d_law_law_497 ?_
  refine v_iadd gC d_law_law_498 (i + 3) rfl ?_
  refine v_sld gC hX hbl hbA ⟨by omega, by omega⟩ hL d_law_law_499 ?_
  refine v_midV (R := room_1) (k := 48 + i.toNat) (n := 57879 + i.toNat) (rest := [.int (zI r1)]) (wa := (w_LS K dx sx)) (wb := [(oa, .inl (K 2, 1, .inr (.inl f)))]) gC (k_Mo_solid l D K dm (zX xs (i + 1)) (zX xs (i + 2)) (zX xs (i + 3)) sm _ h) wV_law_67 rfl ⟨Nat.le_of_ble_eq_true rfl, Nat.le_of_ble_eq_true rfl, by omega, by omega⟩ rfl rfl rfl (Nat.le_of_ble_eq_true rfl) d_law_law_500 (fun v w1 hp => ?_)
  obtain ⟨r2, u3, rfl, rfl, h⟩ := hp
  refine v_norm (ws' := (w_LS K dx sx ++ (w_Mo K dm u3 ++ [(oa, .inl (K 2, 1, .inr (.inl f)))]))) (st' := [.int (zI r2), .int (zI r1)]) rfl rfl ?_
  obtain ⟨he, h⟩ := h
  refine v_jeq (tgt := 897) gC d_law_law_503 (by decide) he ?_
  refine v_iinc (lv' := [(0, .ref b), (1, .ref (dx 0)), (2, .ref (dm 0)), (3, .ref oa), (4, .int (zI (i + 6)))]) gC d_law_law_897 4 rfl (by decide) (i + 6) rfl [1, 2, 3, 4, 0] rfl ?_
  refine v_goto (tgt := 23) gC d_law_law_900 (by decide) ?_
  refine v_widen (k' := 48 + (i + 6).toNat) (n' := 57879 + (i + 6).toNat) (by omega) (by omega) ?_
  exact ih dx dm oa sx u3 f h
set_option maxHeartbeats 400000 in
set_option maxRecDepth 100000 in
theorem law_9 {l : Launch} (htr : l.stackTraces = false) {p : Program} {e : Env} {s : State} {m : MethodId} {below : List Frame} {meth : Method} {c : Code} {D : va_G} {K : Nat → ClassId} {b L : Nat} {xs : Nat → Int32} (hL : L ≤ 3072) (gC : Cx p s m #[Value.ref b] c code 7 R_law D K (fun q : Nat => s.heap.size ≤ q)) (hX : va_X b L xs s s.heap) (hbl : b < s.heap.size) (hbA : ¬ s.heap.size ≤ b) (hTW : TW s) (hns : ∀ (q : Nat) (cell : Cell), s.heap.size ≤ q → s.heap[q]? = some cell → cell.vm.isStatics = false) {Q : s_LS → s_Mo → Prop} (i : Int) (hi : 0 ≤ i ∧ i + 6 ≤ (L : Int)) (dx dm : Nat → Nat) (oa : Nat) (sx : s_LS) (sm : s_Mo) (f : Nat → Int64)
    (ih : ∀ (dx dm : Nat → Nat) (oa : Nat) (sx : s_LS) (sm : s_Mo) (f : Nat → Int64), Q sx sm → V p l e room_1 s m #[Value.ref b] below meth c D (fun q : Nat => s.heap.size ≤ q) 7 (48 + (i + 6).toNat) (57879 + (i + 6).toNat) (lw_Z below #[Value.ref b] s) (w_LS K dx sx ++ (w_Mo K dm sm ++ [(oa, .inl (K 2, 1, .inr (.inl f)))])) 23 [(0, .ref b), (1, .ref (dx 0)), (2, .ref (dm 0)), (3, .ref oa), (4, .int (zI (i + 6)))] []) (h : wp_LS_settings (zX xs (i + 1)) (zX xs (i + 2)) (zX xs (i + 3)) (zX xs (i + 4)) (zX xs (i + 5)) sx (fun r1 u2 => wp_Mo_settings (zX xs (i + 1)) (zX xs (i + 2)) (zX xs (i + 3)) (zX xs (i + 4)) (zX xs (i + 5)) sm (fun r3 u4 => r1 = r3 ∧ (Q u2 u4)))) : V p l e room_1 s m #[Value.ref b] below meth c D (fun q : Nat => s.heap.size ≤ q) 7 (48 + i.toNat) (57879 + i.toNat) (lw_Z below #[Value.ref b] s) (w_LS K dx sx ++ (w_Mo K dm sm ++ [(oa, .inl (K 2, 1, .inr (.inl f)))])) 508 [(0, .ref b), (1, .ref (dx 0)), (2, .ref (dm 0)), (3, .ref oa), (4, .int (zI i))] [] := by
  have hrc : room_1.cells = 601024 := rfl
  have hrs : room_1.slots = 7293034 := rfl
  refine v_aload_n gC d_law_law_508 rfl 1 rfl ?_
  refine v_aload_n gC d_law_law_509 rfl 0 rfl ?_
  refine v_iload gC d_law_law_510 4 rfl ?_
  refine v_iconst gC d_law_law_512 ?_
  refine v_iadd gC d_law_law_513 (i + 1) rfl ?_
  refine v_sld gC hX hbl hbA ⟨by omega, by omega⟩ hL d_law_law_514 ?_
  refine v_aload_n gC d_law_law_515 rfl 0 rfl ?_
  refine v_iload gC d_law_law_516 4 rfl ?_
  refine v_iconst gC d_law_law_518 ?_
  refine v_iadd gC d_law_law_519 (i + 2) rfl ?_
  refine v_sld gC hX hbl hbA ⟨by omega, by omega⟩ hL d_law_law_520 ?_
  refine v_aload_n gC d_law_law_521 rfl 0 rfl ?_
  refine v_iload gC d_law_law_522 4 rfl ?_
  refine v_iconst gC d_law_law_524 ?_
  refine v_iadd gC d_law_law_525 (i + 3) rfl ?_
  refine v_sld gC hX hbl hbA ⟨by omega, by omega⟩ hL d_law_law_526 ?_
  refine v_aload_n gC d_law_law_527 rfl 0 rfl ?_
  refine v_iload gC d_law_law_528 4 rfl ?_
  refine v_iconst gC d_law_law_530 ?_
  refine v_iadd gC d_law_law_531 (i + 4) rfl ?_
  refine v_sld gC hX hbl hbA ⟨by omega, by omega⟩ hL d_law_law_532 ?_
  refine v_aload_n gC d_law_law_533 rfl 0 rfl ?_
  refine v_iload gC d_law_law_534 4 rfl ?_
  refine v_iconst gC d_law_law_536 ?_
  refine v_iadd gC d_law_law_537 (i + 5) rfl ?_
  refine v_sld gC hX hbl hbA ⟨by omega, by omega⟩ hL d_law_law_538 ?_
  refine v_preV (R := room_1) (k := 48 + i.toNat) (n := 57879 + i.toNat) (rest := [])  (wb := (w_Mo K dm sm ++ [(oa, .inl (K 2, 1, .inr (.inl f)))])) gC (k_LS_settings l D K dx (zX xs (i + 1)) (zX xs (i + 2)) (zX xs (i + 3)) (zX xs (i + 4)) (zX xs (i + 5)) sx _ h) wV_law_68 rfl ⟨Nat.le_of_ble_eq_true rfl, Nat.le_of_ble_eq_true rfl, by omega, by omega⟩ rfl rfl rfl (Nat.le_of_ble_eq_true rfl) d_law_law_539 (fun v w1 hp => ?_)
  obtain ⟨r1, u2, rfl, rfl, h⟩ := hp
  refine v_norm (ws' := (w_LS K dx u2 ++ (w_Mo K dm sm ++ [(oa, .inl (K 2, 1, .inr (.inl f)))]))) (st' := [.int (zI r1)]) rfl rfl ?_
  refine v_aload_n gC d_law_law_542 rfl 2 rfl ?_
  refine v_aload_n gC d_law_law_543 rfl 0 rfl ?_
  refine v_iload gC d_law_law_544 4 rfl ?_
  refine v_iconst gC d_law_law_546 ?_
  refine v_iadd gC d_law_law_547 (i + 1) rfl ?_
  refine v_sld gC hX hbl hbA ⟨by omega, by omega⟩ hL d_law_law_548 ?_
  refine v_aload_n gC d_law_law_549 rfl 0 rfl ?_
  refine v_iload gC d_law_law_550 4 rfl ?_
  refine v_iconst gC d_law_law_552 ?_
  refine v_iadd gC d_law_law_553 (i + 2) rfl ?_
  refine v_sld gC hX hbl hbA ⟨by omega, by omega⟩ hL d_law_law_554 ?_
  refine v_aload_n gC d_law_law_555 rfl 0 rfl ?_
  refine v_iload gC d_law_law_556 4 rfl ?_
  refine v_iconst gC d_law_law_558 ?_
  refine v_iadd gC d_law_law_559 (i + 3) rfl ?_
  refine v_sld gC hX hbl hbA ⟨by omega, by omega⟩ hL d_law_law_560 ?_
  refine v_aload_n gC d_law_law_561 rfl 0 rfl ?_
  refine v_iload gC d_law_law_562 4 rfl ?_
  refine v_iconst gC d_law_law_564 ?_
  refine v_iadd gC d_law_law_565 (i + 4) rfl ?_
  refine v_sld gC hX hbl hbA ⟨by omega, by omega⟩ hL d_law_law_566 ?_
  refine v_aload_n gC d_law_law_567 rfl 0 rfl ?_
  refine v_iload gC d_law_law_568 4 rfl ?_
  refine v_iconst gC d_law_law_570 ?_
  refine v_iadd gC d_law_law_571 (i + 5) rfl ?_
  refine v_sld gC hX hbl hbA ⟨by omega, by omega⟩ hL d_law_law_572 ?_
  refine v_midV (R := room_1) (k := 48 + i.toNat) (n := 57879 + i.toNat) (rest := [.int (zI r1)]) (wa := (w_LS K dx u2)) (wb := [(oa, .inl (K 2, 1, .inr (.inl f)))]) gC (k_Mo_settings l D K dm (zX xs (i + 1)) (zX xs (i + 2)) (zX xs (i + 3)) (zX xs (i + 4)) (zX xs (i + 5)) sm _ h) wV_law_72 rfl ⟨Nat.le_of_ble_eq_true rfl, Nat.le_of_ble_eq_true rfl, by omega, by omega⟩ rfl rfl rfl (Nat.le_of_ble_eq_true rfl) d_law_law_573 (fun v w1 hp => ?_)
  obtain ⟨r3, u4, rfl, rfl, h⟩ := hp
  refine v_norm (ws' := (w_LS K dx u2 ++ (w_Mo K dm u4 ++ [(oa, .inl (K 2, 1, .inr (.inl f)))]))) (st' := [.int (zI r3), .int (zI r1)]) rfl rfl ?_
  obtain ⟨he, h⟩ := h
  refine v_jeq (tgt := 897) gC d_law_law_576 (by decide) he ?_
  refine v_iinc (lv' := [(0, .ref b), (1, .ref (dx 0)), (2, .ref (dm 0)), (3, .ref oa), (4, .int (zI (i + 6)))]) gC d_law_law_897 4 rfl (by decide) (i + 6) rfl [1, 2, 3, 4, 0] rfl ?_
  refine v_goto (tgt := 23) gC d_law_law_900 (by decide) ?_
  refine v_widen (k' := 48 + (i + 6).toNat) (n' := 57879 + (i + 6).toNat) (by omega) (by omega) ?_
  exact ih dx dm oa u2 u4 f h
set_option maxHeartbeats 400000 in
set_option maxRecDepth 100000 in
theorem law_10 {l : Launch} (htr : l.stackTraces = false) {p : Program} {e : Env} {s : State} {m : MethodId} {below : List Frame} {meth : Method} {c : Code} {D : va_G} {K : Nat → ClassId} {b L : Nat} {xs : Nat → Int32} (hL : L ≤ 3072) (gC : Cx p s m #[Value.ref b] c code 7 R_law D K (fun q : Nat => s.heap.size ≤ q)) (hX : va_X b L xs s s.heap) (hbl : b < s.heap.size) (hbA : ¬ s.heap.size ≤ b) (hTW : TW s) (hns : ∀ (q : Nat) (cell : Cell), s.heap.size ≤ q → s.heap[q]? = some cell → cell.vm.isStatics = false) {Q : s_LS → s_Mo → Prop} (i : Int) (hi : 0 ≤ i ∧ i + 6 ≤ (L : Int)) (dx dm : Nat → Nat) (oa : Nat) (sx : s_LS) (sm : s_Mo) (f : Nat → Int64)
    (ih : ∀ (dx dm : Nat → Nat) (oa : Nat) (sx : s_LS) (sm : s_Mo) (f : Nat → Int64), Q sx sm → V p l e room_1 s m #[Value.ref b] below meth c D (fun q : Nat => s.heap.size ≤ q) 7 (48 + (i + 6).toNat) (57879 + (i + 6).toNat) (lw_Z below #[Value.ref b] s) (w_LS K dx sx ++ (w_Mo K dm sm ++ [(oa, .inl (K 2, 1, .inr (.inl f)))])) 23 [(0, .ref b), (1, .ref (dx 0)), (2, .ref (dm 0)), (3, .ref oa), (4, .int (zI (i + 6)))] []) (h : wp_LS_kind (zX xs (i + 1)) (zX xs (i + 2)) (zX xs (i + 3)) sx (fun r1 => wp_Mo_kind (zX xs (i + 1)) (zX xs (i + 2)) (zX xs (i + 3)) sm (fun r2 u3 => r1 = r2 ∧ (Q sx u3)))) : V p l e room_1 s m #[Value.ref b] below meth c D (fun q : Nat => s.heap.size ≤ q) 7 (48 + i.toNat) (57879 + i.toNat) (lw_Z below #[Value.ref b] s) (w_LS K dx sx ++ (w_Mo K dm sm ++ [(oa, .inl (K 2, 1, .inr (.inl f)))])) 581 [(0, .ref b), (1, .ref (dx 0)), (2, .ref (dm 0)), (3, .ref oa), (4, .int (zI i))] [] := by
  have hrc : room_1.cells = 601024 := rfl
  have hrs : room_1.slots = 7293034 := rfl
  refine v_aload_n gC d_law_law_581 rfl 1 rfl ?_
  refine v_aload_n gC d_law_law_582 rfl 0 rfl ?_
  refine v_iload gC d_law_law_583 4 rfl ?_
  refine v_iconst gC d_law_law_585 ?_
  refine v_iadd gC d_law_law_586 (i + 1) rfl ?_
  refine v_sld gC hX hbl hbA ⟨by omega, by omega⟩ hL d_law_law_587 ?_
  refine v_aload_n gC d_law_law_588 rfl 0 rfl ?_
  refine v_iload gC d_law_law_589 4 rfl ?_
  refine v_iconst gC d_law_law_591 ?_
  refine v_iadd gC d_law_law_592 (i + 2) rfl ?_
  refine v_sld gC hX hbl hbA ⟨by omega, by omega⟩ hL d_law_law_593 ?_
  refine v_aload_n gC d_law_law_594 rfl 0 rfl ?_
  refine v_iload gC d_law_law_595 4 rfl ?_
  refine v_iconst gC d_law_law_597 ?_
  refine v_iadd gC d_law_law_598 (i + 3) rfl ?_
  refine v_sld gC hX hbl hbA ⟨by omega, by omega⟩ hL d_law_law_599 ?_
  refine v_preV (R := room_1) (k := 48 + i.toNat) (n := 57879 + i.toNat) (rest := [])  (wb := (w_Mo K dm sm ++ [(oa, .inl (K 2, 1, .inr (.inl f)))])) gC (k_LS_kind l D K dx (zX xs (i + 1)) (zX xs (i + 2)) (zX xs (i + 3)) sx _ h) wV_law_73 rfl ⟨Nat.le_of_ble_eq_true rfl, Nat.le_of_ble_eq_true rfl, by omega, by omega⟩ rfl rfl rfl (Nat.le_of_ble_eq_true rfl) d_law_law_600 (fun v w1 hp => ?_)
  obtain ⟨r1, rfl, rfl, h⟩ := hp
  refine v_norm (ws' := (w_LS K dx sx ++ (w_Mo K dm sm ++ [(oa, .inl (K 2, 1, .inr (.inl f)))]))) (st' := [.int (zI r1)]) rfl rfl ?_
  refine v_aload_n gC d_law_law_603 rfl 2 rfl ?_
  refine v_aload_n gC d_law_law_604 rfl 0 rfl ?_
  refine v_iload gC d_law_law_605 4 rfl ?_
  refine v_iconst gC d_law_law_607 ?_
  refine v_iadd gC d_law_law_608 (i + 1) rfl ?_
  refine v_sld gC hX hbl hbA ⟨by omega, by omega⟩ hL d_law_law_609 ?_
  refine v_aload_n gC d_law_law_610 rfl 0 rfl ?_
  refine v_iload gC d_law_law_611 4 rfl ?_
  refine v_iconst gC d_law_law_613 ?_
  refine v_iadd gC d_law_law_614 (i + 2) rfl ?_
  refine v_sld gC hX hbl hbA ⟨by omega, by omega⟩ hL d_law_law_615 ?_
  refine v_aload_n gC d_law_law_616 rfl 0 rfl ?_
  refine v_iload gC d_law_law_617 4 rfl ?_
  refine v_iconst gC d_law_law_619 ?_
  refine v_iadd gC d_law_law_620 (i + 3) rfl ?_
  refine v_sld gC hX hbl hbA ⟨by omega, by omega⟩ hL d_law_law_621 ?_
  refine v_midV (R := room_1) (k := 48 + i.toNat) (n := 57879 + i.toNat) (rest := [.int (zI r1)]) (wa := (w_LS K dx sx)) (wb := [(oa, .inl (K 2, 1, .inr (.inl f)))]) gC (k_Mo_kind l D K dm (zX xs (i + 1)) (zX xs (i + 2)) (zX xs (i + 3)) sm _ h) wV_law_76 rfl ⟨Nat.le_of_ble_eq_true rfl, Nat.le_of_ble_eq_true rfl, by omega, by omega⟩ rfl rfl rfl (Nat.le_of_ble_eq_true rfl) d_law_law_622 (fun v w1 hp => ?_)
  obtain ⟨r2, u3, rfl, rfl, h⟩ := hp
  refine v_norm (ws' := (w_LS K dx sx ++ (w_Mo K dm u3 ++ [(oa, .inl (K 2, 1, .inr (.inl f)))]))) (st' := [.int (zI r2), .int (zI r1)]) rfl rfl ?_
  obtain ⟨he, h⟩ := h
  refine v_jeq (tgt := 897) gC d_law_law_625 (by decide) he ?_
  refine v_iinc (lv' := [(0, .ref b), (1, .ref (dx 0)), (2, .ref (dm 0)), (3, .ref oa), (4, .int (zI (i + 6)))]) gC d_law_law_897 4 rfl (by decide) (i + 6) rfl [1, 2, 3, 4, 0] rfl ?_
  refine v_goto (tgt := 23) gC d_law_law_900 (by decide) ?_
  refine v_widen (k' := 48 + (i + 6).toNat) (n' := 57879 + (i + 6).toNat) (by omega) (by omega) ?_
  exact ih dx dm oa sx u3 f h
set_option maxHeartbeats 400000 in
set_option maxRecDepth 100000 in
theorem law_11 {l : Launch} (htr : l.stackTraces = false) {p : Program} {e : Env} {s : State} {m : MethodId} {below : List Frame} {meth : Method} {c : Code} {D : va_G} {K : Nat → ClassId} {b L : Nat} {xs : Nat → Int32} (hL : L ≤ 3072) (gC : Cx p s m #[Value.ref b] c code 7 R_law D K (fun q : Nat => s.heap.size ≤ q)) (hX : va_X b L xs s s.heap) (hbl : b < s.heap.size) (hbA : ¬ s.heap.size ≤ b) (hTW : TW s) (hns : ∀ (q : Nat) (cell : Cell), s.heap.size ≤ q → s.heap[q]? = some cell → cell.vm.isStatics = false) {Q : s_LS → s_Mo → Prop} (i : Int) (hi : 0 ≤ i ∧ i + 6 ≤ (L : Int)) (dx dm : Nat → Nat) (oa : Nat) (sx : s_LS) (sm : s_Mo) (f : Nat → Int64)
    (ih : ∀ (dx dm : Nat → Nat) (oa : Nat) (sx : s_LS) (sm : s_Mo) (f : Nat → Int64), Q sx sm → V p l e room_1 s m #[Value.ref b] below meth c D (fun q : Nat => s.heap.size ≤ q) 7 (48 + (i + 6).toNat) (57879 + (i + 6).toNat) (lw_Z below #[Value.ref b] s) (w_LS K dx sx ++ (w_Mo K dm sm ++ [(oa, .inl (K 2, 1, .inr (.inl f)))])) 23 [(0, .ref b), (1, .ref (dx 0)), (2, .ref (dm 0)), (3, .ref oa), (4, .int (zI (i + 6)))] []) (h : wp_LS_paths (zX xs (i + 1)) sx (fun r1 u2 => wp_Mo_paths (zX xs (i + 1)) sm (fun r3 u4 => r1 = r3 ∧ (Q u2 u4)))) : V p l e room_1 s m #[Value.ref b] below meth c D (fun q : Nat => s.heap.size ≤ q) 7 (48 + i.toNat) (57879 + i.toNat) (lw_Z below #[Value.ref b] s) (w_LS K dx sx ++ (w_Mo K dm sm ++ [(oa, .inl (K 2, 1, .inr (.inl f)))])) 630 [(0, .ref b), (1, .ref (dx 0)), (2, .ref (dm 0)), (3, .ref oa), (4, .int (zI i))] [] := by
  have hrc : room_1.cells = 601024 := rfl
  have hrs : room_1.slots = 7293034 := rfl
  refine v_aload_n gC d_law_law_630 rfl 1 rfl ?_
  refine v_aload_n gC d_law_law_631 rfl 0 rfl ?_
  refine v_iload gC d_law_law_632 4 rfl ?_
  refine v_iconst gC d_law_law_634 ?_
  refine v_iadd gC d_law_law_635 (i + 1) rfl ?_
  refine v_sld gC hX hbl hbA ⟨by omega, by omega⟩ hL d_law_law_636 ?_
  refine v_preV (R := room_1) (k := 48 + i.toNat) (n := 57879 + i.toNat) (rest := [])  (wb := (w_Mo K dm sm ++ [(oa, .inl (K 2, 1, .inr (.inl f)))])) gC (k_LS_paths l D K dx (zX xs (i + 1)) sx _ h) wV_law_77 rfl ⟨Nat.le_of_ble_eq_true rfl, Nat.le_of_ble_eq_true rfl, by omega, by omega⟩ rfl rfl rfl (Nat.le_of_ble_eq_true rfl) d_law_law_637 (fun v w1 hp => ?_)
  obtain ⟨r1, u2, rfl, rfl, h⟩ := hp
  refine v_norm (ws' := (w_LS K dx u2 ++ (w_Mo K dm sm ++ [(oa, .inl (K 2, 1, .inr (.inl f)))]))) (st' := [.int (zI r1)]) rfl rfl ?_
  refine v_aload_n gC d_law_law_640 rfl 2 rfl ?_
  refine v_aload_n gC d_law_law_641 rfl 0 rfl ?_
  refine v_iload gC d_law_law_642 4 rfl ?_
  refine v_iconst gC d_law_law_644 ?_
  refine v_iadd gC d_law_law_645 (i + 1) rfl ?_
  refine v_sld gC hX hbl hbA ⟨by omega, by omega⟩ hL d_law_law_646 ?_
  refine v_midV (R := room_1) (k := 48 + i.toNat) (n := 57879 + i.toNat) (rest := [.int (zI r1)]) (wa := (w_LS K dx u2)) (wb := [(oa, .inl (K 2, 1, .inr (.inl f)))]) gC (k_Mo_paths l D K dm (zX xs (i + 1)) sm _ h) wV_law_80 rfl ⟨Nat.le_of_ble_eq_true rfl, Nat.le_of_ble_eq_true rfl, by omega, by omega⟩ rfl rfl rfl (Nat.le_of_ble_eq_true rfl) d_law_law_647 (fun v w1 hp => ?_)
  obtain ⟨r3, u4, rfl, rfl, h⟩ := hp
  refine v_norm (ws' := (w_LS K dx u2 ++ (w_Mo K dm u4 ++ [(oa, .inl (K 2, 1, .inr (.inl f)))]))) (st' := [.int (zI r3), .int (zI r1)]) rfl rfl ?_
  obtain ⟨he, h⟩ := h
  refine v_jeq (tgt := 897) gC d_law_law_650 (by decide) he ?_
  refine v_iinc (lv' := [(0, .ref b), (1, .ref (dx 0)), (2, .ref (dm 0)), (3, .ref oa), (4, .int (zI (i + 6)))]) gC d_law_law_897 4 rfl (by decide) (i + 6) rfl [1, 2, 3, 4, 0] rfl ?_
  refine v_goto (tgt := 23) gC d_law_law_900 (by decide) ?_
  refine v_widen (k' := 48 + (i + 6).toNat) (n' := 57879 + (i + 6).toNat) (by omega) (by omega) ?_
  exact ih dx dm oa u2 u4 f h
set_option maxHeartbeats 400000 in
set_option maxRecDepth 100000 in
theorem law_12 {l : Launch} (htr : l.stackTraces = false) {p : Program} {e : Env} {s : State} {m : MethodId} {below : List Frame} {meth : Method} {c : Code} {D : va_G} {K : Nat → ClassId} {b L : Nat} {xs : Nat → Int32} (hL : L ≤ 3072) (gC : Cx p s m #[Value.ref b] c code 7 R_law D K (fun q : Nat => s.heap.size ≤ q)) (hX : va_X b L xs s s.heap) (hbl : b < s.heap.size) (hbA : ¬ s.heap.size ≤ b) (hTW : TW s) (hns : ∀ (q : Nat) (cell : Cell), s.heap.size ≤ q → s.heap[q]? = some cell → cell.vm.isStatics = false) {Q : s_LS → s_Mo → Prop} (i : Int) (hi : 0 ≤ i ∧ i + 6 ≤ (L : Int)) (dx dm : Nat → Nat) (oa : Nat) (sx : s_LS) (sm : s_Mo) (f : Nat → Int64)
    (ih : ∀ (dx dm : Nat → Nat) (oa : Nat) (sx : s_LS) (sm : s_Mo) (f : Nat → Int64), Q sx sm → V p l e room_1 s m #[Value.ref b] below meth c D (fun q : Nat => s.heap.size ≤ q) 7 (48 + (i + 6).toNat) (57879 + (i + 6).toNat) (lw_Z below #[Value.ref b] s) (w_LS K dx sx ++ (w_Mo K dm sm ++ [(oa, .inl (K 2, 1, .inr (.inl f)))])) 23 [(0, .ref b), (1, .ref (dx 0)), (2, .ref (dm 0)), (3, .ref oa), (4, .int (zI (i + 6)))] []) (h : (wp_LS_path (zX xs (i + 1)) (zX xs (i + 2)) (zX xs (i + 3)) sx (fun r1 u2 => rg r1 ∧ (rg r1 ∧ (wp_Mo_path (zX xs (i + 1)) (zX xs (i + 2)) (zX xs (i + 3)) sm (fun r3 u4 => wp_Mo_thrown u4 (fun r5 => r5 = 0 ∧ (r1 = r3 ∧ (Q u2 u4)))))))) ∨ (wt_LS_path (zX xs (i + 1)) (zX xs (i + 2)) (zX xs (i + 3)) sx (fun u2 => wp_Mo_path (zX xs (i + 1)) (zX xs (i + 2)) (zX xs (i + 3)) sm (fun r6 u7 => wp_Mo_thrown u7 (fun r8 => r8 = 1 ∧ (Q u2 u7)))))) : V p l e room_1 s m #[Value.ref b] below meth c D (fun q : Nat => s.heap.size ≤ q) 7 (48 + i.toNat) (57879 + i.toNat) (lw_Z below #[Value.ref b] s) (w_LS K dx sx ++ (w_Mo K dm sm ++ [(oa, .inl (K 2, 1, .inr (.inl f)))])) 655 [(0, .ref b), (1, .ref (dx 0)), (2, .ref (dm 0)), (3, .ref oa), (4, .int (zI i))] [] := by
  have hrc : room_1.cells = 601024 := rfl
  have hrs : room_1.slots = 7293034 := rfl
  refine v_aload_n gC d_law_law_655 rfl 1 rfl ?_
  refine v_aload_n gC d_law_law_656 rfl 0 rfl ?_
  refine v_iload gC d_law_law_657 4 rfl ?_
  refine v_iconst gC d_law_law_659 ?_
  refine v_iadd gC d_law_law_660 (i + 1) rfl ?_
  refine v_sld gC hX hbl hbA ⟨by omega, by omega⟩ hL d_law_law_661 ?_
  refine v_aload_n gC d_law_law_662 rfl 0 rfl ?_
  refine v_iload gC d_law_law_663 4 rfl ?_
  refine v_iconst gC d_law_law_665 ?_
  refine v_iadd gC d_law_law_666 (i + 2) rfl ?_
  refine v_sld gC hX hbl hbA ⟨by omega, by omega⟩ hL d_law_law_667 ?_
  refine v_aload_n gC d_law_law_668 rfl 0 rfl ?_
  refine v_iload gC d_law_law_669 4 rfl ?_
  refine v_iconst gC d_law_law_671 ?_
  refine v_iadd gC d_law_law_672 (i + 3) rfl ?_
  refine v_sld gC hX hbl hbA ⟨by omega, by omega⟩ hL d_law_law_673 ?_
  refine v_aload_n gC d_law_law_674 rfl 3 rfl ?_
  rcases h with h | h
  · replace h := h
    refine v_sw ?_
    refine v_eqw (List.append_assoc (w_LS K dx sx) [(oa, .inl (K 2, 1, .inr (.inl f)))] (w_Mo K dm sm)).symm ?_
    refine v_preW (R := room_1) (k := 48 + i.toNat) (n := 57879 + i.toNat) (rest := []) (wb := w_Mo K dm sm) gC (kr_law_path l D K dx oa f (zX xs (i + 1)) (zX xs (i + 2)) (zX xs (i + 3)) sx _ h) wW_law_81 rfl ⟨Nat.le_of_ble_eq_true rfl, Nat.le_of_ble_eq_true rfl, by omega, by omega⟩ hTW hns rfl (Nat.le_of_ble_eq_true rfl) d_law_law_675 (fun v w1 hp => ?_)
    obtain ⟨r1, u2, rfl, rfl, hr, h⟩ := hp
    refine v_norm (ws' := (w_LS K dx u2 ++ [(oa, .inl (K 2, 1, .inr (.inl (vp_updL f 0 (lI r1)))))]) ++ w_Mo K dm sm) (st' := [.int (zI 0)]) rfl rfl ?_
    refine v_eqw (List.append_assoc (w_LS K dx u2) [(oa, .inl (K 2, 1, .inr (.inl (vp_updL f 0 (lI r1)))))] (w_Mo K dm sm)) ?_
    refine v_sw ?_
    refine v_istore (lv' := [(0, .ref b), (1, .ref (dx 0)), (2, .ref (dm 0)), (3, .ref oa), (4, .int (zI i)), (5, .int (zI 0))]) gC d_law_law_678 (by decide) [1, 2, 3, 4, 5, 0] rfl ?_
    refine v_aload_n gC d_law_law_680 rfl 2 rfl ?_
    refine v_aload_n gC d_law_law_681 rfl 0 rfl ?_
    refine v_iload gC d_law_law_682 4 rfl ?_
    refine v_iconst gC d_law_law_684 ?_
    refine v_iadd gC d_law_law_685 (i + 1) rfl ?_
    refine v_sld gC hX hbl hbA ⟨by omega, by omega⟩ hL d_law_law_686 ?_
    refine v_aload_n gC d_law_law_687 rfl 0 rfl ?_
    refine v_iload gC d_law_law_688 4 rfl ?_
    refine v_iconst gC d_law_law_690 ?_
    refine v_iadd gC d_law_law_691 (i + 2) rfl ?_
    refine v_sld gC hX hbl hbA ⟨by omega, by omega⟩ hL d_law_law_692 ?_
    refine v_aload_n gC d_law_law_693 rfl 0 rfl ?_
    refine v_iload gC d_law_law_694 4 rfl ?_
    refine v_iconst gC d_law_law_696 ?_
    refine v_iadd gC d_law_law_697 (i + 3) rfl ?_
    refine v_sld gC hX hbl hbA ⟨by omega, by omega⟩ hL d_law_law_698 ?_
    refine v_midV (R := room_1) (k := 48 + i.toNat + 1) (n := 57879 + i.toNat + 6) (rest := []) (wa := (w_LS K dx u2)) (wb := [(oa, .inl (K 2, 1, .inr (.inl (vp_updL f 0 (lI r1)))))]) gC (k_Mo_path l D K dm (zX xs (i + 1)) (zX xs (i + 2)) (zX xs (i + 3)) sm _ h) wV_law_84 rfl ⟨Nat.le_of_ble_eq_true rfl, Nat.le_of_ble_eq_true rfl, by omega, by omega⟩ rfl rfl rfl (Nat.le_of_ble_eq_true rfl) d_law_law_699 (fun v w1 hp => ?_)
    obtain ⟨r3, u4, rfl, rfl, h⟩ := hp
    refine v_norm (ws' := (w_LS K dx u2 ++ (w_Mo K dm u4 ++ [(oa, .inl (K 2, 1, .inr (.inl (vp_updL f 0 (lI r1)))))]))) (st' := [.int (zI r3)]) rfl rfl ?_
    refine v_istore (lv' := [(0, .ref b), (1, .ref (dx 0)), (2, .ref (dm 0)), (3, .ref oa), (4, .int (zI i)), (5, .int (zI 0)), (6, .int (zI r3))]) gC d_law_law_702 (by decide) [1, 2, 3, 4, 5, 6, 0] rfl ?_
    refine v_aload_n gC d_law_law_704 rfl 2 rfl ?_
    refine v_midV (R := room_1) (k := 48 + i.toNat + 1) (n := 57879 + i.toNat + 6) (rest := []) (wa := (w_LS K dx u2)) (wb := [(oa, .inl (K 2, 1, .inr (.inl (vp_updL f 0 (lI r1)))))]) gC (k_Mo_thrown l D K dm u4 _ h) wV_law_61 rfl ⟨Nat.le_of_ble_eq_true rfl, Nat.le_of_ble_eq_true rfl, by omega, by omega⟩ rfl rfl rfl (Nat.le_of_ble_eq_true rfl) d_law_law_705 (fun v w1 hp => ?_)
    obtain ⟨r5, rfl, rfl, h⟩ := hp
    refine v_norm (ws' := (w_LS K dx u2 ++ (w_Mo K dm u4 ++ [(oa, .inl (K 2, 1, .inr (.inl (vp_updL f 0 (lI r1)))))]))) (st' := [.int (zI r5)]) rfl rfl ?_
    refine v_iload gC d_law_law_708 5 rfl ?_
    obtain ⟨he, h⟩ := h
    refine v_jeq (tgt := 715) gC d_law_law_710 (by decide) he ?_
    refine v_iload gC d_law_law_715 5 rfl ?_
    refine v_if_ne (tgt := 732) gC d_law_law_717 (by decide) (by decide) (fun hc => ?_) (fun hc => ?_)
    · exact absurd rfl hc
    · skip
      refine v_aload_n gC d_law_law_720 rfl 3 rfl ?_
      refine v_iconst gC d_law_law_721 ?_
      refine v_lald (x := lI r1) gC 47 rfl rfl d_law_law_722 ?_
      refine v_iload gC d_law_law_723 6 rfl ?_
      obtain ⟨he2, h⟩ := h
      refine v_i2l gC d_law_law_725 (he2 ▸ hr) ?_
      refine v_lcmp gC d_law_law_726 (rgl_rg hr) (rgl_rg (he2 ▸ hr)) ?_
      refine v_if_eq (tgt := 732) gC d_law_law_727 (by decide) (cmpZ_rg _ _) (fun hc => ?_) (fun hc => ?_)
      · skip
        refine v_goto (tgt := 897) gC d_law_law_732 (by decide) ?_
        refine v_iinc (lv' := [(0, .ref b), (1, .ref (dx 0)), (2, .ref (dm 0)), (3, .ref oa), (4, .int (zI (i + 6)))]) gC d_law_law_897 4 rfl (by decide) (i + 6) rfl [1, 2, 3, 4, 0] rfl ?_
        refine v_goto (tgt := 23) gC d_law_law_900 (by decide) ?_
        refine v_widen (k' := 48 + (i + 6).toNat) (n' := 57879 + (i + 6).toNat) (by omega) (by omega) ?_
        exact ih dx dm oa u2 u4 (vp_updL f 0 (lI r1)) h
      · exact absurd (cmpZ_eq.mpr he2) hc
  · replace h := h
    refine v_sw ?_
    refine v_eqw (List.append_assoc (w_LS K dx sx) [(oa, .inl (K 2, 1, .inr (.inl f)))] (w_Mo K dm sm)).symm ?_
    refine v_preW (R := room_1) (k := 48 + i.toNat) (n := 57879 + i.toNat) (rest := []) (wb := w_Mo K dm sm) gC (kt_law_path l htr D K dx oa f (zX xs (i + 1)) (zX xs (i + 2)) (zX xs (i + 3)) sx _ h) wW_law_81 rfl ⟨Nat.le_of_ble_eq_true rfl, Nat.le_of_ble_eq_true rfl, by omega, by omega⟩ hTW hns rfl (Nat.le_of_ble_eq_true rfl) d_law_law_675 (fun v w1 hp => ?_)
    obtain ⟨u2, rfl, rfl, h⟩ := hp
    refine v_norm (ws' := (w_LS K dx u2 ++ [(oa, .inl (K 2, 1, .inr (.inl f)))]) ++ w_Mo K dm sm) (st' := [.int (zI 1)]) rfl rfl ?_
    refine v_eqw (List.append_assoc (w_LS K dx u2) [(oa, .inl (K 2, 1, .inr (.inl f)))] (w_Mo K dm sm)) ?_
    refine v_sw ?_
    refine v_istore (lv' := [(0, .ref b), (1, .ref (dx 0)), (2, .ref (dm 0)), (3, .ref oa), (4, .int (zI i)), (5, .int (zI 1))]) gC d_law_law_678 (by decide) [1, 2, 3, 4, 5, 0] rfl ?_
    refine v_aload_n gC d_law_law_680 rfl 2 rfl ?_
    refine v_aload_n gC d_law_law_681 rfl 0 rfl ?_
    refine v_iload gC d_law_law_682 4 rfl ?_
    refine v_iconst gC d_law_law_684 ?_
    refine v_iadd gC d_law_law_685 (i + 1) rfl ?_
    refine v_sld gC hX hbl hbA ⟨by omega, by omega⟩ hL d_law_law_686 ?_
    refine v_aload_n gC d_law_law_687 rfl 0 rfl ?_
    refine v_iload gC d_law_law_688 4 rfl ?_
    refine v_iconst gC d_law_law_690 ?_
    refine v_iadd gC d_law_law_691 (i + 2) rfl ?_
    refine v_sld gC hX hbl hbA ⟨by omega, by omega⟩ hL d_law_law_692 ?_
    refine v_aload_n gC d_law_law_693 rfl 0 rfl ?_
    refine v_iload gC d_law_law_694 4 rfl ?_
    refine v_iconst gC d_law_law_696 ?_
    refine v_iadd gC d_law_law_697 (i + 3) rfl ?_
    refine v_sld gC hX hbl hbA ⟨by omega, by omega⟩ hL d_law_law_698 ?_
    refine v_midV (R := room_1) (k := 48 + i.toNat + 1) (n := 57879 + i.toNat + 6) (rest := []) (wa := (w_LS K dx u2)) (wb := [(oa, .inl (K 2, 1, .inr (.inl f)))]) gC (k_Mo_path l D K dm (zX xs (i + 1)) (zX xs (i + 2)) (zX xs (i + 3)) sm _ h) wV_law_84 rfl ⟨Nat.le_of_ble_eq_true rfl, Nat.le_of_ble_eq_true rfl, by omega, by omega⟩ rfl rfl rfl (Nat.le_of_ble_eq_true rfl) d_law_law_699 (fun v w1 hp => ?_)
    obtain ⟨r6, u7, rfl, rfl, h⟩ := hp
    refine v_norm (ws' := (w_LS K dx u2 ++ (w_Mo K dm u7 ++ [(oa, .inl (K 2, 1, .inr (.inl f)))]))) (st' := [.int (zI r6)]) rfl rfl ?_
    refine v_istore (lv' := [(0, .ref b), (1, .ref (dx 0)), (2, .ref (dm 0)), (3, .ref oa), (4, .int (zI i)), (5, .int (zI 1)), (6, .int (zI r6))]) gC d_law_law_702 (by decide) [1, 2, 3, 4, 5, 6, 0] rfl ?_
    refine v_aload_n gC d_law_law_704 rfl 2 rfl ?_
    refine v_midV (R := room_1) (k := 48 + i.toNat + 1) (n := 57879 + i.toNat + 6) (rest := []) (wa := (w_LS K dx u2)) (wb := [(oa, .inl (K 2, 1, .inr (.inl f)))]) gC (k_Mo_thrown l D K dm u7 _ h) wV_law_61 rfl ⟨Nat.le_of_ble_eq_true rfl, Nat.le_of_ble_eq_true rfl, by omega, by omega⟩ rfl rfl rfl (Nat.le_of_ble_eq_true rfl) d_law_law_705 (fun v w1 hp => ?_)
    obtain ⟨r8, rfl, rfl, h⟩ := hp
    refine v_norm (ws' := (w_LS K dx u2 ++ (w_Mo K dm u7 ++ [(oa, .inl (K 2, 1, .inr (.inl f)))]))) (st' := [.int (zI r8)]) rfl rfl ?_
    refine v_iload gC d_law_law_708 5 rfl ?_
    obtain ⟨he, h⟩ := h
    refine v_jeq (tgt := 715) gC d_law_law_710 (by decide) he ?_
    refine v_iload gC d_law_law_715 5 rfl ?_
    refine v_if_ne (tgt := 732) gC d_law_law_717 (by decide) (by decide) (fun hc => ?_) (fun hc => ?_)
    · skip
      refine v_goto (tgt := 897) gC d_law_law_732 (by decide) ?_
      refine v_iinc (lv' := [(0, .ref b), (1, .ref (dx 0)), (2, .ref (dm 0)), (3, .ref oa), (4, .int (zI (i + 6)))]) gC d_law_law_897 4 rfl (by decide) (i + 6) rfl [1, 2, 3, 4, 0] rfl ?_
      refine v_goto (tgt := 23) gC d_law_law_900 (by decide) ?_
      refine v_widen (k' := 48 + (i + 6).toNat) (n' := 57879 + (i + 6).toNat) (by omega) (by omega) ?_
      exact ih dx dm oa u2 u7 f h
    · exact absurd hc (by decide)
set_option maxHeartbeats 400000 in
set_option maxRecDepth 100000 in
theorem law_13 {l : Launch} (htr : l.stackTraces = false) {p : Program} {e : Env} {s : State} {m : MethodId} {below : List Frame} {meth : Method} {c : Code} {D : va_G} {K : Nat → ClassId} {b L : Nat} {xs : Nat → Int32} (hL : L ≤ 3072) (gC : Cx p s m #[Value.ref b] c code 7 R_law D K (fun q : Nat => s.heap.size ≤ q)) (hX : va_X b L xs s s.heap) (hbl : b < s.heap.size) (hbA : ¬ s.heap.size ≤ b) (hTW : TW s) (hns : ∀ (q : Nat) (cell : Cell), s.heap.size ≤ q → s.heap[q]? = some cell → cell.vm.isStatics = false) {Q : s_LS → s_Mo → Prop} (i : Int) (hi : 0 ≤ i ∧ i + 6 ≤ (L : Int)) (dx dm : Nat → Nat) (oa : Nat) (sx : s_LS) (sm : s_Mo) (f : Nat → Int64)
    (ih : ∀ (dx dm : Nat → Nat) (oa : Nat) (sx : s_LS) (sm : s_Mo) (f : Nat → Int64), Q sx sm → V p l e room_1 s m #[Value.ref b] below meth c D (fun q : Nat => s.heap.size ≤ q) 7 (48 + (i + 6).toNat) (57879 + (i + 6).toNat) (lw_Z below #[Value.ref b] s) (w_LS K dx sx ++ (w_Mo K dm sm ++ [(oa, .inl (K 2, 1, .inr (.inl f)))])) 23 [(0, .ref b), (1, .ref (dx 0)), (2, .ref (dm 0)), (3, .ref oa), (4, .int (zI (i + 6)))] []) (h : wp_LS_emit sx (fun r1 u2 => wp_Mo_emit sm (fun r3 u4 => r1 = r3 ∧ (Q u2 u4)))) : V p l e room_1 s m #[Value.ref b] below meth c D (fun q : Nat => s.heap.size ≤ q) 7 (48 + i.toNat) (57879 + i.toNat) (lw_Z below #[Value.ref b] s) (w_LS K dx sx ++ (w_Mo K dm sm ++ [(oa, .inl (K 2, 1, .inr (.inl f)))])) 735 [(0, .ref b), (1, .ref (dx 0)), (2, .ref (dm 0)), (3, .ref oa), (4, .int (zI i))] [] := by
  have hrc : room_1.cells = 601024 := rfl
  have hrs : room_1.slots = 7293034 := rfl
  refine v_aload_n gC d_law_law_735 rfl 1 rfl ?_
  refine v_preV (R := room_1) (k := 48 + i.toNat) (n := 57879 + i.toNat) (rest := [])  (wb := (w_Mo K dm sm ++ [(oa, .inl (K 2, 1, .inr (.inl f)))])) gC (k_LS_emit l D K dx sx _ h) wV_law_85 rfl ⟨Nat.le_of_ble_eq_true rfl, Nat.le_of_ble_eq_true rfl, by omega, by omega⟩ rfl rfl rfl (Nat.le_of_ble_eq_true rfl) d_law_law_736 (fun v w1 hp => ?_)
  obtain ⟨r1, u2, rfl, rfl, h⟩ := hp
  refine v_norm (ws' := (w_LS K dx u2 ++ (w_Mo K dm sm ++ [(oa, .inl (K 2, 1, .inr (.inl f)))]))) (st' := [.int (zI r1)]) rfl rfl ?_
  refine v_aload_n gC d_law_law_739 rfl 2 rfl ?_
  refine v_midV (R := room_1) (k := 48 + i.toNat) (n := 57879 + i.toNat) (rest := [.int (zI r1)]) (wa := (w_LS K dx u2)) (wb := [(oa, .inl (K 2, 1, .inr (.inl f)))]) gC (k_Mo_emit l D K dm sm _ h) wV_law_88 rfl ⟨Nat.le_of_ble_eq_true rfl, Nat.le_of_ble_eq_true rfl, by omega, by omega⟩ rfl rfl rfl (Nat.le_of_ble_eq_true rfl) d_law_law_740 (fun v w1 hp => ?_)
  obtain ⟨r3, u4, rfl, rfl, h⟩ := hp
  refine v_norm (ws' := (w_LS K dx u2 ++ (w_Mo K dm u4 ++ [(oa, .inl (K 2, 1, .inr (.inl f)))]))) (st' := [.int (zI r3), .int (zI r1)]) rfl rfl ?_
  obtain ⟨he, h⟩ := h
  refine v_jeq (tgt := 897) gC d_law_law_743 (by decide) he ?_
  refine v_iinc (lv' := [(0, .ref b), (1, .ref (dx 0)), (2, .ref (dm 0)), (3, .ref oa), (4, .int (zI (i + 6)))]) gC d_law_law_897 4 rfl (by decide) (i + 6) rfl [1, 2, 3, 4, 0] rfl ?_
  refine v_goto (tgt := 23) gC d_law_law_900 (by decide) ?_
  refine v_widen (k' := 48 + (i + 6).toNat) (n' := 57879 + (i + 6).toNat) (by omega) (by omega) ?_
  exact ih dx dm oa u2 u4 f h
set_option maxHeartbeats 400000 in
set_option maxRecDepth 100000 in
theorem law_14 {l : Launch} (htr : l.stackTraces = false) {p : Program} {e : Env} {s : State} {m : MethodId} {below : List Frame} {meth : Method} {c : Code} {D : va_G} {K : Nat → ClassId} {b L : Nat} {xs : Nat → Int32} (hL : L ≤ 3072) (gC : Cx p s m #[Value.ref b] c code 7 R_law D K (fun q : Nat => s.heap.size ≤ q)) (hX : va_X b L xs s s.heap) (hbl : b < s.heap.size) (hbA : ¬ s.heap.size ≤ b) (hTW : TW s) (hns : ∀ (q : Nat) (cell : Cell), s.heap.size ≤ q → s.heap[q]? = some cell → cell.vm.isStatics = false) {Q : s_LS → s_Mo → Prop} (i : Int) (hi : 0 ≤ i ∧ i + 6 ≤ (L : Int)) (dx dm : Nat → Nat) (oa : Nat) (sx : s_LS) (sm : s_Mo) (f : Nat → Int64)
    (ih : ∀ (dx dm : Nat → Nat) (oa : Nat) (sx : s_LS) (sm : s_Mo) (f : Nat → Int64), Q sx sm → V p l e room_1 s m #[Value.ref b] below meth c D (fun q : Nat => s.heap.size ≤ q) 7 (48 + (i + 6).toNat) (57879 + (i + 6).toNat) (lw_Z below #[Value.ref b] s) (w_LS K dx sx ++ (w_Mo K dm sm ++ [(oa, .inl (K 2, 1, .inr (.inl f)))])) 23 [(0, .ref b), (1, .ref (dx 0)), (2, .ref (dm 0)), (3, .ref oa), (4, .int (zI (i + 6)))] []) (h : wp_LS_byteOf (zX xs (i + 1)) sx (fun r1 => wp_Mo_byteOf (zX xs (i + 1)) sm (fun r2 u3 => r1 = r2 ∧ (Q sx u3)))) : V p l e room_1 s m #[Value.ref b] below meth c D (fun q : Nat => s.heap.size ≤ q) 7 (48 + i.toNat) (57879 + i.toNat) (lw_Z below #[Value.ref b] s) (w_LS K dx sx ++ (w_Mo K dm sm ++ [(oa, .inl (K 2, 1, .inr (.inl f)))])) 748 [(0, .ref b), (1, .ref (dx 0)), (2, .ref (dm 0)), (3, .ref oa), (4, .int (zI i))] [] := by
  have hrc : room_1.cells = 601024 := rfl
  have hrs : room_1.slots = 7293034 := rfl
  refine v_aload_n gC d_law_law_748 rfl 1 rfl ?_
  refine v_aload_n gC d_law_law_749 rfl 0 rfl ?_
  refine v_iload gC d_law_law_750 4 rfl ?_
  refine v_iconst gC d_law_law_752 ?_
  refine v_iadd gC d_law_law_753 (i + 1) rfl ?_
  refine v_sld gC hX hbl hbA ⟨by omega, by omega⟩ hL d_law_law_754 ?_
  refine v_preV (R := room_1) (k := 48 + i.toNat) (n := 57879 + i.toNat) (rest := [])  (wb := (w_Mo K dm sm ++ [(oa, .inl (K 2, 1, .inr (.inl f)))])) gC (k_LS_byteOf l D K dx (zX xs (i + 1)) sx _ h) wV_law_89 rfl ⟨Nat.le_of_ble_eq_true rfl, Nat.le_of_ble_eq_true rfl, by omega, by omega⟩ rfl rfl rfl (Nat.le_of_ble_eq_true rfl) d_law_law_755 (fun v w1 hp => ?_)
  obtain ⟨r1, rfl, rfl, h⟩ := hp
  refine v_norm (ws' := (w_LS K dx sx ++ (w_Mo K dm sm ++ [(oa, .inl (K 2, 1, .inr (.inl f)))]))) (st' := [.int (zI r1)]) rfl rfl ?_
  refine v_aload_n gC d_law_law_758 rfl 2 rfl ?_
  refine v_aload_n gC d_law_law_759 rfl 0 rfl ?_
  refine v_iload gC d_law_law_760 4 rfl ?_
  refine v_iconst gC d_law_law_762 ?_
  refine v_iadd gC d_law_law_763 (i + 1) rfl ?_
  refine v_sld gC hX hbl hbA ⟨by omega, by omega⟩ hL d_law_law_764 ?_
  refine v_midV (R := room_1) (k := 48 + i.toNat) (n := 57879 + i.toNat) (rest := [.int (zI r1)]) (wa := (w_LS K dx sx)) (wb := [(oa, .inl (K 2, 1, .inr (.inl f)))]) gC (k_Mo_byteOf l D K dm (zX xs (i + 1)) sm _ h) wV_law_92 rfl ⟨Nat.le_of_ble_eq_true rfl, Nat.le_of_ble_eq_true rfl, by omega, by omega⟩ rfl rfl rfl (Nat.le_of_ble_eq_true rfl) d_law_law_765 (fun v w1 hp => ?_)
  obtain ⟨r2, u3, rfl, rfl, h⟩ := hp
  refine v_norm (ws' := (w_LS K dx sx ++ (w_Mo K dm u3 ++ [(oa, .inl (K 2, 1, .inr (.inl f)))]))) (st' := [.int (zI r2), .int (zI r1)]) rfl rfl ?_
  obtain ⟨he, h⟩ := h
  refine v_jeq (tgt := 897) gC d_law_law_768 (by decide) he ?_
  refine v_iinc (lv' := [(0, .ref b), (1, .ref (dx 0)), (2, .ref (dm 0)), (3, .ref oa), (4, .int (zI (i + 6)))]) gC d_law_law_897 4 rfl (by decide) (i + 6) rfl [1, 2, 3, 4, 0] rfl ?_
  refine v_goto (tgt := 23) gC d_law_law_900 (by decide) ?_
  refine v_widen (k' := 48 + (i + 6).toNat) (n' := 57879 + (i + 6).toNat) (by omega) (by omega) ?_
  exact ih dx dm oa sx u3 f h
set_option maxHeartbeats 400000 in
set_option maxRecDepth 100000 in
theorem law_15 {l : Launch} (htr : l.stackTraces = false) {p : Program} {e : Env} {s : State} {m : MethodId} {below : List Frame} {meth : Method} {c : Code} {D : va_G} {K : Nat → ClassId} {b L : Nat} {xs : Nat → Int32} (hL : L ≤ 3072) (gC : Cx p s m #[Value.ref b] c code 7 R_law D K (fun q : Nat => s.heap.size ≤ q)) (hX : va_X b L xs s s.heap) (hbl : b < s.heap.size) (hbA : ¬ s.heap.size ≤ b) (hTW : TW s) (hns : ∀ (q : Nat) (cell : Cell), s.heap.size ≤ q → s.heap[q]? = some cell → cell.vm.isStatics = false) {Q : s_LS → s_Mo → Prop} (i : Int) (hi : 0 ≤ i ∧ i + 6 ≤ (L : Int)) (dx dm : Nat → Nat) (oa : Nat) (sx : s_LS) (sm : s_Mo) (f : Nat → Int64)
    (ih : ∀ (dx dm : Nat → Nat) (oa : Nat) (sx : s_LS) (sm : s_Mo) (f : Nat → Int64), Q sx sm → V p l e room_1 s m #[Value.ref b] below meth c D (fun q : Nat => s.heap.size ≤ q) 7 (48 + (i + 6).toNat) (57879 + (i + 6).toNat) (lw_Z below #[Value.ref b] s) (w_LS K dx sx ++ (w_Mo K dm sm ++ [(oa, .inl (K 2, 1, .inr (.inl f)))])) 23 [(0, .ref b), (1, .ref (dx 0)), (2, .ref (dm 0)), (3, .ref oa), (4, .int (zI (i + 6)))] []) (h : wp_LS_play (zX xs (i + 1)) sx (fun r1 u2 => wp_Mo_play (zX xs (i + 1)) sm (fun r3 u4 => r1 = r3 ∧ (Q u2 u4)))) : V p l e room_1 s m #[Value.ref b] below meth c D (fun q : Nat => s.heap.size ≤ q) 7 (48 + i.toNat) (57879 + i.toNat) (lw_Z below #[Value.ref b] s) (w_LS K dx sx ++ (w_Mo K dm sm ++ [(oa, .inl (K 2, 1, .inr (.inl f)))])) 773 [(0, .ref b), (1, .ref (dx 0)), (2, .ref (dm 0)), (3, .ref oa), (4, .int (zI i))] [] := by
  have hrc : room_1.cells = 601024 := rfl
  have hrs : room_1.slots = 7293034 := rfl
  refine v_aload_n gC d_law_law_773 rfl 1 rfl ?_
  refine v_aload_n gC d_law_law_774 rfl 0 rfl ?_
  refine v_iload gC d_law_law_775 4 rfl ?_
  refine v_iconst gC d_law_law_777 ?_
  refine v_iadd gC d_law_law_778 (i + 1) rfl ?_
  refine v_sld gC hX hbl hbA ⟨by omega, by omega⟩ hL d_law_law_779 ?_
  refine v_preV (R := room_1) (k := 48 + i.toNat) (n := 57879 + i.toNat) (rest := [])  (wb := (w_Mo K dm sm ++ [(oa, .inl (K 2, 1, .inr (.inl f)))])) gC (k_LS_play l D K dx (zX xs (i + 1)) sx _ h) wV_law_93 rfl ⟨Nat.le_of_ble_eq_true rfl, Nat.le_of_ble_eq_true rfl, by omega, by omega⟩ rfl rfl rfl (Nat.le_of_ble_eq_true rfl) d_law_law_780 (fun v w1 hp => ?_)
  obtain ⟨r1, u2, rfl, rfl, h⟩ := hp
  refine v_norm (ws' := (w_LS K dx u2 ++ (w_Mo K dm sm ++ [(oa, .inl (K 2, 1, .inr (.inl f)))]))) (st' := [.int (zI r1)]) rfl rfl ?_
  refine v_aload_n gC d_law_law_783 rfl 2 rfl ?_
  refine v_aload_n gC d_law_law_784 rfl 0 rfl ?_
  refine v_iload gC d_law_law_785 4 rfl ?_
  refine v_iconst gC d_law_law_787 ?_
  refine v_iadd gC d_law_law_788 (i + 1) rfl ?_
  refine v_sld gC hX hbl hbA ⟨by omega, by omega⟩ hL d_law_law_789 ?_
  refine v_midV (R := room_1) (k := 48 + i.toNat) (n := 57879 + i.toNat) (rest := [.int (zI r1)]) (wa := (w_LS K dx u2)) (wb := [(oa, .inl (K 2, 1, .inr (.inl f)))]) gC (k_Mo_play l D K dm (zX xs (i + 1)) sm _ h) wV_law_96 rfl ⟨Nat.le_of_ble_eq_true rfl, Nat.le_of_ble_eq_true rfl, by omega, by omega⟩ rfl rfl rfl (Nat.le_of_ble_eq_true rfl) d_law_law_790 (fun v w1 hp => ?_)
  obtain ⟨r3, u4, rfl, rfl, h⟩ := hp
  refine v_norm (ws' := (w_LS K dx u2 ++ (w_Mo K dm u4 ++ [(oa, .inl (K 2, 1, .inr (.inl f)))]))) (st' := [.int (zI r3), .int (zI r1)]) rfl rfl ?_
  obtain ⟨he, h⟩ := h
  refine v_jeq (tgt := 897) gC d_law_law_793 (by decide) he ?_
  refine v_iinc (lv' := [(0, .ref b), (1, .ref (dx 0)), (2, .ref (dm 0)), (3, .ref oa), (4, .int (zI (i + 6)))]) gC d_law_law_897 4 rfl (by decide) (i + 6) rfl [1, 2, 3, 4, 0] rfl ?_
  refine v_goto (tgt := 23) gC d_law_law_900 (by decide) ?_
  refine v_widen (k' := 48 + (i + 6).toNat) (n' := 57879 + (i + 6).toNat) (by omega) (by omega) ?_
  exact ih dx dm oa u2 u4 f h
set_option maxHeartbeats 400000 in
set_option maxRecDepth 100000 in
theorem law_16 {l : Launch} (htr : l.stackTraces = false) {p : Program} {e : Env} {s : State} {m : MethodId} {below : List Frame} {meth : Method} {c : Code} {D : va_G} {K : Nat → ClassId} {b L : Nat} {xs : Nat → Int32} (hL : L ≤ 3072) (gC : Cx p s m #[Value.ref b] c code 7 R_law D K (fun q : Nat => s.heap.size ≤ q)) (hX : va_X b L xs s s.heap) (hbl : b < s.heap.size) (hbA : ¬ s.heap.size ≤ b) (hTW : TW s) (hns : ∀ (q : Nat) (cell : Cell), s.heap.size ≤ q → s.heap[q]? = some cell → cell.vm.isStatics = false) {Q : s_LS → s_Mo → Prop} (i : Int) (hi : 0 ≤ i ∧ i + 6 ≤ (L : Int)) (dx dm : Nat → Nat) (oa : Nat) (sx : s_LS) (sm : s_Mo) (f : Nat → Int64)
    (ih : ∀ (dx dm : Nat → Nat) (oa : Nat) (sx : s_LS) (sm : s_Mo) (f : Nat → Int64), Q sx sm → V p l e room_1 s m #[Value.ref b] below meth c D (fun q : Nat => s.heap.size ≤ q) 7 (48 + (i + 6).toNat) (57879 + (i + 6).toNat) (lw_Z below #[Value.ref b] s) (w_LS K dx sx ++ (w_Mo K dm sm ++ [(oa, .inl (K 2, 1, .inr (.inl f)))])) 23 [(0, .ref b), (1, .ref (dx 0)), (2, .ref (dm 0)), (3, .ref oa), (4, .int (zI (i + 6)))] []) (h : wp_LS_laid (zX xs (i + 1)) (zX xs (i + 2)) (zX xs (i + 3)) sx (fun r1 => wp_Mo_laid (zX xs (i + 1)) (zX xs (i + 2)) (zX xs (i + 3)) sm (fun r2 u3 => r1 = r2 ∧ (Q sx u3)))) : V p l e room_1 s m #[Value.ref b] below meth c D (fun q : Nat => s.heap.size ≤ q) 7 (48 + i.toNat) (57879 + i.toNat) (lw_Z below #[Value.ref b] s) (w_LS K dx sx ++ (w_Mo K dm sm ++ [(oa, .inl (K 2, 1, .inr (.inl f)))])) 798 [(0, .ref b), (1, .ref (dx 0)), (2, .ref (dm 0)), (3, .ref oa), (4, .int (zI i))] [] := by
  have hrc : room_1.cells = 601024 := rfl
  have hrs : room_1.slots = 7293034 := rfl
  refine v_aload_n gC d_law_law_798 rfl 1 rfl ?_
  refine v_aload_n gC d_law_law_799 rfl 0 rfl ?_
  refine v_iload gC d_law_law_800 4 rfl ?_
  refine v_iconst gC d_law_law_802 ?_
  refine v_iadd gC d_law_law_803 (i + 1) rfl ?_
  refine v_sld gC hX hbl hbA ⟨by omega, by omega⟩ hL d_law_law_804 ?_
  refine v_aload_n gC d_law_law_805 rfl 0 rfl ?_
  refine v_iload gC d_law_law_806 4 rfl ?_
  refine v_iconst gC d_law_law_808 ?_
  refine v_iadd gC d_law_law_809 (i + 2) rfl ?_
  refine v_sld gC hX hbl hbA ⟨by omega, by omega⟩ hL d_law_law_810 ?_
  refine v_aload_n gC d_law_law_811 rfl 0 rfl ?_
  refine v_iload gC d_law_law_812 4 rfl ?_
  refine v_iconst gC d_law_law_814 ?_
  refine v_iadd gC d_law_law_815 (i + 3) rfl ?_
  refine v_sld gC hX hbl hbA ⟨by omega, by omega⟩ hL d_law_law_816 ?_
  refine v_preV (R := room_1) (k := 48 + i.toNat) (n := 57879 + i.toNat) (rest := [])  (wb := (w_Mo K dm sm ++ [(oa, .inl (K 2, 1, .inr (.inl f)))])) gC (k_LS_laid l D K dx (zX xs (i + 1)) (zX xs (i + 2)) (zX xs (i + 3)) sx _ h) wV_law_97 rfl ⟨Nat.le_of_ble_eq_true rfl, Nat.le_of_ble_eq_true rfl, by omega, by omega⟩ rfl rfl rfl (Nat.le_of_ble_eq_true rfl) d_law_law_817 (fun v w1 hp => ?_)
  obtain ⟨r1, rfl, rfl, h⟩ := hp
  refine v_norm (ws' := (w_LS K dx sx ++ (w_Mo K dm sm ++ [(oa, .inl (K 2, 1, .inr (.inl f)))]))) (st' := [.int (zI r1)]) rfl rfl ?_
  refine v_aload_n gC d_law_law_820 rfl 2 rfl ?_
  refine v_aload_n gC d_law_law_821 rfl 0 rfl ?_
  refine v_iload gC d_law_law_822 4 rfl ?_
  refine v_iconst gC d_law_law_824 ?_
  refine v_iadd gC d_law_law_825 (i + 1) rfl ?_
  refine v_sld gC hX hbl hbA ⟨by omega, by omega⟩ hL d_law_law_826 ?_
  refine v_aload_n gC d_law_law_827 rfl 0 rfl ?_
  refine v_iload gC d_law_law_828 4 rfl ?_
  refine v_iconst gC d_law_law_830 ?_
  refine v_iadd gC d_law_law_831 (i + 2) rfl ?_
  refine v_sld gC hX hbl hbA ⟨by omega, by omega⟩ hL d_law_law_832 ?_
  refine v_aload_n gC d_law_law_833 rfl 0 rfl ?_
  refine v_iload gC d_law_law_834 4 rfl ?_
  refine v_iconst gC d_law_law_836 ?_
  refine v_iadd gC d_law_law_837 (i + 3) rfl ?_
  refine v_sld gC hX hbl hbA ⟨by omega, by omega⟩ hL d_law_law_838 ?_
  refine v_midV (R := room_1) (k := 48 + i.toNat) (n := 57879 + i.toNat) (rest := [.int (zI r1)]) (wa := (w_LS K dx sx)) (wb := [(oa, .inl (K 2, 1, .inr (.inl f)))]) gC (k_Mo_laid l D K dm (zX xs (i + 1)) (zX xs (i + 2)) (zX xs (i + 3)) sm _ h) wV_law_100 rfl ⟨Nat.le_of_ble_eq_true rfl, Nat.le_of_ble_eq_true rfl, by omega, by omega⟩ rfl rfl rfl (Nat.le_of_ble_eq_true rfl) d_law_law_839 (fun v w1 hp => ?_)
  obtain ⟨r2, u3, rfl, rfl, h⟩ := hp
  refine v_norm (ws' := (w_LS K dx sx ++ (w_Mo K dm u3 ++ [(oa, .inl (K 2, 1, .inr (.inl f)))]))) (st' := [.int (zI r2), .int (zI r1)]) rfl rfl ?_
  obtain ⟨he, h⟩ := h
  refine v_jeq (tgt := 897) gC d_law_law_842 (by decide) he ?_
  refine v_iinc (lv' := [(0, .ref b), (1, .ref (dx 0)), (2, .ref (dm 0)), (3, .ref oa), (4, .int (zI (i + 6)))]) gC d_law_law_897 4 rfl (by decide) (i + 6) rfl [1, 2, 3, 4, 0] rfl ?_
  refine v_goto (tgt := 23) gC d_law_law_900 (by decide) ?_
  refine v_widen (k' := 48 + (i + 6).toNat) (n' := 57879 + (i + 6).toNat) (by omega) (by omega) ?_
  exact ih dx dm oa sx u3 f h
set_option maxHeartbeats 400000 in
set_option maxRecDepth 100000 in
theorem law_17 {l : Launch} (htr : l.stackTraces = false) {p : Program} {e : Env} {s : State} {m : MethodId} {below : List Frame} {meth : Method} {c : Code} {D : va_G} {K : Nat → ClassId} {b L : Nat} {xs : Nat → Int32} (hL : L ≤ 3072) (gC : Cx p s m #[Value.ref b] c code 7 R_law D K (fun q : Nat => s.heap.size ≤ q)) (hX : va_X b L xs s s.heap) (hbl : b < s.heap.size) (hbA : ¬ s.heap.size ≤ b) (hTW : TW s) (hns : ∀ (q : Nat) (cell : Cell), s.heap.size ≤ q → s.heap[q]? = some cell → cell.vm.isStatics = false) {Q : s_LS → s_Mo → Prop} (i : Int) (hi : 0 ≤ i ∧ i + 6 ≤ (L : Int)) (dx dm : Nat → Nat) (oa : Nat) (sx : s_LS) (sm : s_Mo) (f : Nat → Int64)
    (ih : ∀ (dx dm : Nat → Nat) (oa : Nat) (sx : s_LS) (sm : s_Mo) (f : Nat → Int64), Q sx sm → V p l e room_1 s m #[Value.ref b] below meth c D (fun q : Nat => s.heap.size ≤ q) 7 (48 + (i + 6).toNat) (57879 + (i + 6).toNat) (lw_Z below #[Value.ref b] s) (w_LS K dx sx ++ (w_Mo K dm sm ++ [(oa, .inl (K 2, 1, .inr (.inl f)))])) 23 [(0, .ref b), (1, .ref (dx 0)), (2, .ref (dm 0)), (3, .ref oa), (4, .int (zI (i + 6)))] []) (h : wp_LS_overhang (zX xs (i + 1)) sx (fun r1 => wp_Mo_overhang (zX xs (i + 1)) sm (fun r2 u3 => r1 = r2 ∧ (Q sx u3)))) : V p l e room_1 s m #[Value.ref b] below meth c D (fun q : Nat => s.heap.size ≤ q) 7 (48 + i.toNat) (57879 + i.toNat) (lw_Z below #[Value.ref b] s) (w_LS K dx sx ++ (w_Mo K dm sm ++ [(oa, .inl (K 2, 1, .inr (.inl f)))])) 847 [(0, .ref b), (1, .ref (dx 0)), (2, .ref (dm 0)), (3, .ref oa), (4, .int (zI i))] [] := by
  have hrc : room_1.cells = 601024 := rfl
  have hrs : room_1.slots = 7293034 := rfl
  refine v_aload_n gC d_law_law_847 rfl 1 rfl ?_
  refine v_aload_n gC d_law_law_848 rfl 0 rfl ?_
  refine v_iload gC d_law_law_849 4 rfl ?_
  refine v_iconst gC d_law_law_851 ?_
  refine v_iadd gC d_law_law_852 (i + 1) rfl ?_
  refine v_sld gC hX hbl hbA ⟨by omega, by omega⟩ hL d_law_law_853 ?_
  refine v_preV (R := room_1) (k := 48 + i.toNat) (n := 57879 + i.toNat) (rest := [])  (wb := (w_Mo K dm sm ++ [(oa, .inl (K 2, 1, .inr (.inl f)))])) gC (k_LS_overhang l D K dx (zX xs (i + 1)) sx _ h) wV_law_101 rfl ⟨Nat.le_of_ble_eq_true rfl, Nat.le_of_ble_eq_true rfl, by omega, by omega⟩ rfl rfl rfl (Nat.le_of_ble_eq_true rfl) d_law_law_854 (fun v w1 hp => ?_)
  obtain ⟨r1, rfl, rfl, h⟩ := hp
  refine v_norm (ws' := (w_LS K dx sx ++ (w_Mo K dm sm ++ [(oa, .inl (K 2, 1, .inr (.inl f)))]))) (st' := [.int (zI r1)]) rfl rfl ?_
  refine v_aload_n gC d_law_law_857 rfl 2 rfl ?_
  refine v_aload_n gC d_law_law_858 rfl 0 rfl ?_
  refine v_iload gC d_law_law_859 4 rfl ?_
  refine v_iconst gC d_law_law_861 ?_
  refine v_iadd gC d_law_law_862 (i + 1) rfl ?_
  refine v_sld gC hX hbl hbA ⟨by omega, by omega⟩ hL d_law_law_863 ?_
  refine v_midV (R := room_1) (k := 48 + i.toNat) (n := 57879 + i.toNat) (rest := [.int (zI r1)]) (wa := (w_LS K dx sx)) (wb := [(oa, .inl (K 2, 1, .inr (.inl f)))]) gC (k_Mo_overhang l D K dm (zX xs (i + 1)) sm _ h) wV_law_104 rfl ⟨Nat.le_of_ble_eq_true rfl, Nat.le_of_ble_eq_true rfl, by omega, by omega⟩ rfl rfl rfl (Nat.le_of_ble_eq_true rfl) d_law_law_864 (fun v w1 hp => ?_)
  obtain ⟨r2, u3, rfl, rfl, h⟩ := hp
  refine v_norm (ws' := (w_LS K dx sx ++ (w_Mo K dm u3 ++ [(oa, .inl (K 2, 1, .inr (.inl f)))]))) (st' := [.int (zI r2), .int (zI r1)]) rfl rfl ?_
  obtain ⟨he, h⟩ := h
  refine v_jeq (tgt := 897) gC d_law_law_867 (by decide) he ?_
  refine v_iinc (lv' := [(0, .ref b), (1, .ref (dx 0)), (2, .ref (dm 0)), (3, .ref oa), (4, .int (zI (i + 6)))]) gC d_law_law_897 4 rfl (by decide) (i + 6) rfl [1, 2, 3, 4, 0] rfl ?_
  refine v_goto (tgt := 23) gC d_law_law_900 (by decide) ?_
  refine v_widen (k' := 48 + (i + 6).toNat) (n' := 57879 + (i + 6).toNat) (by omega) (by omega) ?_
  exact ih dx dm oa sx u3 f h
set_option maxHeartbeats 400000 in
set_option maxRecDepth 100000 in
theorem law_18 {l : Launch} (htr : l.stackTraces = false) {p : Program} {e : Env} {s : State} {m : MethodId} {below : List Frame} {meth : Method} {c : Code} {D : va_G} {K : Nat → ClassId} {b L : Nat} {xs : Nat → Int32} (hL : L ≤ 3072) (gC : Cx p s m #[Value.ref b] c code 7 R_law D K (fun q : Nat => s.heap.size ≤ q)) (hX : va_X b L xs s s.heap) (hbl : b < s.heap.size) (hbA : ¬ s.heap.size ≤ b) (hTW : TW s) (hns : ∀ (q : Nat) (cell : Cell), s.heap.size ≤ q → s.heap[q]? = some cell → cell.vm.isStatics = false) {Q : s_LS → s_Mo → Prop} (i : Int) (hi : 0 ≤ i ∧ i + 6 ≤ (L : Int)) (dx dm : Nat → Nat) (oa : Nat) (sx : s_LS) (sm : s_Mo) (f : Nat → Int64)
    (ih : ∀ (dx dm : Nat → Nat) (oa : Nat) (sx : s_LS) (sm : s_Mo) (f : Nat → Int64), Q sx sm → V p l e room_1 s m #[Value.ref b] below meth c D (fun q : Nat => s.heap.size ≤ q) 7 (48 + (i + 6).toNat) (57879 + (i + 6).toNat) (lw_Z below #[Value.ref b] s) (w_LS K dx sx ++ (w_Mo K dm sm ++ [(oa, .inl (K 2, 1, .inr (.inl f)))])) 23 [(0, .ref b), (1, .ref (dx 0)), (2, .ref (dm 0)), (3, .ref oa), (4, .int (zI (i + 6)))] []) (h : wp_LS_volume (zX xs (i + 1)) sx (fun r1 => wp_Mo_volume (zX xs (i + 1)) sm (fun r2 u3 => r1 = r2 ∧ (Q sx u3)))) : V p l e room_1 s m #[Value.ref b] below meth c D (fun q : Nat => s.heap.size ≤ q) 7 (48 + i.toNat) (57879 + i.toNat) (lw_Z below #[Value.ref b] s) (w_LS K dx sx ++ (w_Mo K dm sm ++ [(oa, .inl (K 2, 1, .inr (.inl f)))])) 872 [(0, .ref b), (1, .ref (dx 0)), (2, .ref (dm 0)), (3, .ref oa), (4, .int (zI i))] [] := by
  have hrc : room_1.cells = 601024 := rfl
  have hrs : room_1.slots = 7293034 := rfl
  refine v_aload_n gC d_law_law_872 rfl 1 rfl ?_
  refine v_aload_n gC d_law_law_873 rfl 0 rfl ?_
  refine v_iload gC d_law_law_874 4 rfl ?_
  refine v_iconst gC d_law_law_876 ?_
  refine v_iadd gC d_law_law_877 (i + 1) rfl ?_
  refine v_sld gC hX hbl hbA ⟨by omega, by omega⟩ hL d_law_law_878 ?_
  refine v_preV (R := room_1) (k := 48 + i.toNat) (n := 57879 + i.toNat) (rest := [])  (wb := (w_Mo K dm sm ++ [(oa, .inl (K 2, 1, .inr (.inl f)))])) gC (k_LS_volume l D K dx (zX xs (i + 1)) sx _ h) wV_law_105 rfl ⟨Nat.le_of_ble_eq_true rfl, Nat.le_of_ble_eq_true rfl, by omega, by omega⟩ rfl rfl rfl (Nat.le_of_ble_eq_true rfl) d_law_law_879 (fun v w1 hp => ?_)
  obtain ⟨r1, rfl, rfl, h⟩ := hp
  refine v_norm (ws' := (w_LS K dx sx ++ (w_Mo K dm sm ++ [(oa, .inl (K 2, 1, .inr (.inl f)))]))) (st' := [.int (zI r1)]) rfl rfl ?_
  refine v_aload_n gC d_law_law_882 rfl 2 rfl ?_
  refine v_aload_n gC d_law_law_883 rfl 0 rfl ?_
  refine v_iload gC d_law_law_884 4 rfl ?_
  refine v_iconst gC d_law_law_886 ?_
  refine v_iadd gC d_law_law_887 (i + 1) rfl ?_
  refine v_sld gC hX hbl hbA ⟨by omega, by omega⟩ hL d_law_law_888 ?_
  refine v_midV (R := room_1) (k := 48 + i.toNat) (n := 57879 + i.toNat) (rest := [.int (zI r1)]) (wa := (w_LS K dx sx)) (wb := [(oa, .inl (K 2, 1, .inr (.inl f)))]) gC (k_Mo_volume l D K dm (zX xs (i + 1)) sm _ h) wV_law_108 rfl ⟨Nat.le_of_ble_eq_true rfl, Nat.le_of_ble_eq_true rfl, by omega, by omega⟩ rfl rfl rfl (Nat.le_of_ble_eq_true rfl) d_law_law_889 (fun v w1 hp => ?_)
  obtain ⟨r2, u3, rfl, rfl, h⟩ := hp
  refine v_norm (ws' := (w_LS K dx sx ++ (w_Mo K dm u3 ++ [(oa, .inl (K 2, 1, .inr (.inl f)))]))) (st' := [.int (zI r2), .int (zI r1)]) rfl rfl ?_
  obtain ⟨he, h⟩ := h
  refine v_jeq (tgt := 897) gC d_law_law_892 (by decide) he ?_
  refine v_iinc (lv' := [(0, .ref b), (1, .ref (dx 0)), (2, .ref (dm 0)), (3, .ref oa), (4, .int (zI (i + 6)))]) gC d_law_law_897 4 rfl (by decide) (i + 6) rfl [1, 2, 3, 4, 0] rfl ?_
  refine v_goto (tgt := 23) gC d_law_law_900 (by decide) ?_
  refine v_widen (k' := 48 + (i + 6).toNat) (n' := 57879 + (i + 6).toNat) (by omega) (by omega) ?_
  exact ih dx dm oa sx u3 f h
