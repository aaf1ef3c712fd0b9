set_option maxRecDepth 20000 in
theorem mw_17 : Cond.classLink R_law 8 R_LS ∈ kw := kw_in (List.mem_append_right _ (List.mem_of_getElem? (i := 17) rfl)) (by decide +kernel)
set_option maxRecDepth 20000 in
theorem mw_18 : Cond.instantiable R_LS 6 ∈ kw := kw_in (List.mem_append_right _ (List.mem_of_getElem? (i := 18) rfl)) (by decide +kernel)
set_option maxRecDepth 20000 in
theorem mw_19 : Cond.methodLink R_law 19 y_LS_init ∈ kw := kw_in (List.mem_append_right _ (List.mem_of_getElem? (i := 19) rfl)) (by decide +kernel)
set_option maxRecDepth 20000 in
theorem mw_20 : Cond.instanceMethod y_LS_init ∈ kw := kw_in (List.mem_append_right _ (List.mem_of_getElem? (i := 20) rfl)) (by decide +kernel)
set_option maxRecDepth 20000 in
theorem mc_LS_init : Cond.code y_LS_init b_LS_init 1 none ∈ kw := kw_in (List.mem_append_right _ (List.mem_of_getElem? (i := 21) rfl)) (by decide +kernel)
theorem wI_law_19 : wI R_law 19 y_LS_init b_LS_init 1 0 := ⟨mw_19, mw_20, mw_1, mc_LS_init, rfl, by decide +kernel, by decide +kernel, by decide +kernel⟩
set_option maxRecDepth 20000 in
theorem mw_599 : Cond.classLink R_law 20 R_Mo ∈ kw := kw_in (List.mem_append_right _ (List.mem_of_getElem? (i := 599) rfl)) (by decide +kernel)
set_option maxRecDepth 20000 in
theorem mw_600 : Cond.instantiable R_Mo 28 ∈ kw := kw_in (List.mem_append_right _ (List.mem_of_getElem? (i := 600) rfl)) (by decide +kernel)
set_option maxRecDepth 20000 in
theorem mw_601 : Cond.methodLink R_law 22 y_Mo_init ∈ kw := kw_in (List.mem_append_right _ (List.mem_of_getElem? (i := 601) rfl)) (by decide +kernel)
set_option maxRecDepth 20000 in
theorem mw_602 : Cond.instanceMethod y_Mo_init ∈ kw := kw_in (List.mem_append_right _ (List.mem_of_getElem? (i := 602) rfl)) (by decide +kernel)
set_option maxRecDepth 20000 in
theorem mc_Mo_init : Cond.code y_Mo_init b_Mo_init 1 none ∈ kw := kw_in (List.mem_append_right _ (List.mem_of_getElem? (i := 603) rfl)) (by decide +kernel)
theorem wI_law_22 : wI R_law 22 y_Mo_init b_Mo_init 1 0 := ⟨mw_601, mw_602, mw_8, mc_Mo_init, rfl, by decide +kernel, by decide +kernel, by decide +kernel⟩
set_option maxRecDepth 20000 in
theorem ka_long : Cond.arrayClass .long ∈ kw := kw_in (List.mem_append_right _ (List.mem_of_getElem? (i := 875) rfl)) (by decide +kernel)
set_option maxHeartbeats 4000000 in
set_option maxRecDepth 100000 in
theorem law_loop {l : Launch} (htr : l.stackTraces = false) {p : Program} {e : Env} {s : State} {m : MethodId} {below : List Frame} {meth : Method} {c : Code} {D : va_G} {K : Nat → ClassId} {b L : Nat} {xs : Nat → Int32} (hL : L ≤ 3072) (hr : meth.sig.returnType = ret) (hlk : meth.locks = false) (gC : Cx p s m #[Value.ref b] c code 7 R_law D K (fun q : Nat => s.heap.size ≤ q)) (hX : va_X b L xs s s.heap) (hbl : b < s.heap.size) (hTW : TW s) {I : s_LS → s_Mo → Prop} (hI : ∀ a0 a1 a2 a3 a4 a5 : Int, rg a0 → rg a1 → rg a2 → rg a3 → rg a4 → rg a5 → ∀ (sx : s_LS) (sm : s_Mo), I sx sm → stepP a0 a1 a2 a3 a4 a5 sx sm I) : ∀ (k : Nat) (i : Int) (dx dm : Nat → Nat) (oa : Nat) (sx : s_LS) (sm : s_Mo) (f : Nat → Int64), 0 ≤ i → i ≤ (L : Int) → (L : Int) - i < (k : Int) → I sx sm → V p l e room_1 s m #[Value.ref b] below meth c D (fun q : Nat => s.heap.size ≤ q) 7 (48 + i.toNat) (57879 + i.toNat) (lw_Z below #[Value.ref b] s) (w_LS K dx sx ++ (w_Mo K dm sm ++ [(oa, .inl (K 2, 1, .inr (.inl f)))])) 23 [(0, .ref b), (1, .ref (dx 0)), (2, .ref (dm 0)), (3, .ref oa), (4, .int (zI i))] [] := by
  have hbA : ¬ s.heap.size ≤ b := Nat.not_le.mpr hbl
  have hns : ∀ (q : Nat) (cell : Cell), s.heap.size ≤ q → s.heap[q]? = some cell → cell.vm.isStatics = false := fun q cell h1 h2 => absurd (Array.getElem?_eq_some_iff.mp h2).1 (by omega)
  intro k
  induction k with
  | zero => intro i dx dm oa sx sm f h1 h2 h3; omega
  | succ k ih =>
    intro i dx dm oa sx sm f h1 h2 h3 hi
    refine v_iload gC d_law_law_23 4 rfl ?_
    refine v_aload_n gC d_law_law_25 rfl 0 rfl ?_
    refine v_slen gC hX hbl hbA d_law_law_26 ?_
    refine v_bipush gC d_law_law_27 (by decide) ?_
    refine v_isub gC d_law_law_29 ((L : Int) - 6) rfl ?_
    refine v_icmp_gt (tgt := 903) gC d_law_law_30 (by decide) ⟨by omega, by omega⟩ ⟨by omega, by omega⟩ (fun hc => ?_) (fun hc => ?_)
    · refine v_iconst gC d_law_law_903 ?_
      intro H locs ls hP hD hS hl
      refine va_forget (fun q hq => hS.2.2 q hq) ?_
      refine W.widen (k := 601024) (n := 7293034) (by omega) (by omega) ?_
      exact lw_ret gC.hx gC.hb hr hlk d_law_law_904
    · have hs := hI (zX xs i) (zX xs (i + 1)) (zX xs (i + 2)) (zX xs (i + 3)) (zX xs (i + 4)) (zX xs (i + 5)) (zX_rg _ _) (zX_rg _ _) (zX_rg _ _) (zX_rg _ _) (zX_rg _ _) (zX_rg _ _) sx sm hi
      unfold stepP at hs
      have ih6 := fun (dx dm : Nat → Nat) (oa : Nat) (sx : s_LS) (sm : s_Mo) (f : Nat → Int64) (hq : I sx sm) => ih (i + 6) dx dm oa sx sm f (by omega) (by omega) (by omega) hq
      refine v_aload_n gC d_law_law_33 rfl 0 rfl ?_
      refine v_iload gC d_law_law_34 4 rfl ?_
      refine v_sld gC hX hbl hbA ⟨by omega, by omega⟩ hL d_law_law_36 ?_
      refine v_bipush gC d_law_law_37 (by decide) ?_
      refine v_iand gC d_law_law_39 ?_
      by_cases hc0 : iand (zX xs i) 31 = 0
      · refine v_tabIn (tgt := 132) (i := 0) gC d_law_law_40 (rg_of _) hc0 0 (by decide) (by decide) rfl (by decide) ?_
        exact law_0 htr hL gC hX hbl hbA hTW hns i ⟨by omega, by omega⟩ dx dm oa sx sm f ih6 (hs.1 hc0)
      replace hs := hs.2
      by_cases hc1 : iand (zX xs i) 31 = 1
      · refine v_tabIn (tgt := 181) (i := 1) gC d_law_law_40 (rg_of _) hc1 1 (by decide) (by decide) rfl (by decide) ?_
        exact law_1 htr hL gC hX hbl hbA hTW hns i ⟨by omega, by omega⟩ dx dm oa sx sm f ih6 (hs.1 hc1)
      replace hs := hs.2
      by_cases hc2 : iand (zX xs i) 31 = 2
      · refine v_tabIn (tgt := 230) (i := 2) gC d_law_law_40 (rg_of _) hc2 2 (by decide) (by decide) rfl (by decide) ?_
        exact law_2 htr hL gC hX hbl hbA hTW hns i ⟨by omega, by omega⟩ dx dm oa sx sm f ih6 (hs.1 hc2)
      replace hs := hs.2
      by_cases hc3 : iand (zX xs i) 31 = 3
      · refine v_tabIn (tgt := 243) (i := 3) gC d_law_law_40 (rg_of _) hc3 3 (by decide) (by decide) rfl (by decide) ?_
        exact law_3 htr hL gC hX hbl hbA hTW hns i ⟨by omega, by omega⟩ dx dm oa sx sm f ih6 (hs.1 hc3)
      replace hs := hs.2
      by_cases hc4 : iand (zX xs i) 31 = 4
      · refine v_tabIn (tgt := 268) (i := 4) gC d_law_law_40 (rg_of _) hc4 4 (by decide) (by decide) rfl (by decide) ?_
        exact law_4 htr hL gC hX hbl hbA hTW hns i ⟨by omega, by omega⟩ dx dm oa sx sm f ih6 (hs.1 hc4)
      replace hs := hs.2
      by_cases hc5 : iand (zX xs i) 31 = 5
      · refine v_tabIn (tgt := 305) (i := 5) gC d_law_law_40 (rg_of _) hc5 5 (by decide) (by decide) rfl (by decide) ?_
        exact law_5 htr hL gC hX hbl hbA hTW hns i ⟨by omega, by omega⟩ dx dm oa sx sm f ih6 (hs.1 hc5)
      replace hs := hs.2
      by_cases hc6 : iand (zX xs i) 31 = 6
      · refine v_tabIn (tgt := 342) (i := 6) gC d_law_law_40 (rg_of _) hc6 6 (by decide) (by decide) rfl (by decide) ?_
        exact law_6 htr hL gC hX hbl hbA hTW hns i ⟨by omega, by omega⟩ dx dm oa sx sm f ih6 (hs.1 hc6)
      replace hs := hs.2
      by_cases hc7 : iand (zX xs i) 31 = 7
      · refine v_tabIn (tgt := 367) (i := 7) gC d_law_law_40 (rg_of _) hc7 7 (by decide) (by decide) rfl (by decide) ?_
        exact law_7 htr hL gC hX hbl hbA hTW hns i ⟨by omega, by omega⟩ dx dm oa sx sm f ih6 (hs.1 hc7)
      replace hs := hs.2
      by_cases hc8 : iand (zX xs i) 31 = 8
      · refine v_tabIn (tgt := 459) (i := 8) gC d_law_law_40 (rg_of _) hc8 8 (by decide) (by decide) rfl (by decide) ?_
        exact law_8 htr hL gC hX hbl hbA hTW hns i ⟨by omega, by omega⟩ dx dm oa sx sm f ih6 (hs.1 hc8)
      replace hs := hs.2
      by_cases hc9 : iand (zX xs i) 31 = 9
      · refine v_tabIn (tgt := 508) (i := 9) gC d_law_law_40 (rg_of _) hc9 9 (by decide) (by decide) rfl (by decide) ?_
        exact law_9 htr hL gC hX hbl hbA hTW hns i ⟨by omega, by omega⟩ dx dm oa sx sm f ih6 (hs.1 hc9)
      replace hs := hs.2
      by_cases hc10 : iand (zX xs i) 31 = 10
      · refine v_tabIn (tgt := 581) (i := 10) gC d_law_law_40 (rg_of _) hc10 10 (by decide) (by decide) rfl (by decide) ?_
        exact law_10 htr hL gC hX hbl hbA hTW hns i ⟨by omega, by omega⟩ dx dm oa sx sm f ih6 (hs.1 hc10)
      replace hs := hs.2
      by_cases hc11 : iand (zX xs i) 31 = 11
      · refine v_tabIn (tgt := 630) (i := 11) gC d_law_law_40 (rg_of _) hc11 11 (by decide) (by decide) rfl (by decide) ?_
        exact law_11 htr hL gC hX hbl hbA hTW hns i ⟨by omega, by omega⟩ dx dm oa sx sm f ih6 (hs.1 hc11)
      replace hs := hs.2
      by_cases hc12 : iand (zX xs i) 31 = 12
      · refine v_tabIn (tgt := 655) (i := 12) gC d_law_law_40 (rg_of _) hc12 12 (by decide) (by decide) rfl (by decide) ?_
        exact law_12 htr hL gC hX hbl hbA hTW hns i ⟨by omega, by omega⟩ dx dm oa sx sm f ih6 (hs.1 hc12)
      replace hs := hs.2
      by_cases hc13 : iand (zX xs i) 31 = 13
      · refine v_tabIn (tgt := 735) (i := 13) gC d_law_law_40 (rg_of _) hc13 13 (by decide) (by decide) rfl (by decide) ?_
        exact law_13 htr hL gC hX hbl hbA hTW hns i ⟨by omega, by omega⟩ dx dm oa sx sm f ih6 (hs.1 hc13)
      replace hs := hs.2
      by_cases hc14 : iand (zX xs i) 31 = 14
      · refine v_tabIn (tgt := 748) (i := 14) gC d_law_law_40 (rg_of _) hc14 14 (by decide) (by decide) rfl (by decide) ?_
        exact law_14 htr hL gC hX hbl hbA hTW hns i ⟨by omega, by omega⟩ dx dm oa sx sm f ih6 (hs.1 hc14)
      replace hs := hs.2
      by_cases hc15 : iand (zX xs i) 31 = 15
      · refine v_tabIn (tgt := 773) (i := 15) gC d_law_law_40 (rg_of _) hc15 15 (by decide) (by decide) rfl (by decide) ?_
        exact law_15 htr hL gC hX hbl hbA hTW hns i ⟨by omega, by omega⟩ dx dm oa sx sm f ih6 (hs.1 hc15)
      replace hs := hs.2
      by_cases hc16 : iand (zX xs i) 31 = 16
      · refine v_tabIn (tgt := 798) (i := 16) gC d_law_law_40 (rg_of _) hc16 16 (by decide) (by decide) rfl (by decide) ?_
        exact law_16 htr hL gC hX hbl hbA hTW hns i ⟨by omega, by omega⟩ dx dm oa sx sm f ih6 (hs.1 hc16)
      replace hs := hs.2
      by_cases hc17 : iand (zX xs i) 31 = 17
      · refine v_tabIn (tgt := 847) (i := 17) gC d_law_law_40 (rg_of _) hc17 17 (by decide) (by decide) rfl (by decide) ?_
        exact law_17 htr hL gC hX hbl hbA hTW hns i ⟨by omega, by omega⟩ dx dm oa sx sm f ih6 (hs.1 hc17)
      replace hs := hs.2
      by_cases hc18 : iand (zX xs i) 31 = 18
      · refine v_tabIn (tgt := 872) (i := 18) gC d_law_law_40 (rg_of _) hc18 18 (by decide) (by decide) rfl (by decide) ?_
        exact law_18 htr hL gC hX hbl hbA hTW hns i ⟨by omega, by omega⟩ dx dm oa sx sm f ih6 (hs.1 hc18)
      replace hs := hs.2
      have hd : iand (zX xs i) 31 < 0 ∨ 18 < iand (zX xs i) 31 := by omega
      refine v_tabOut (tgt := 897) gC d_law_law_40 (rg_of _) hd (by decide) ?_
      refine v_iinc (lv' := [(0, .ref b), (1, .ref (dx 0)), (2, .ref (dm 0)), (3, .ref oa), (4, .int (zI (i + 6)))]) gC d_law_law_897 4 rfl (by decide) (i + 6) rfl [1, 2, 3, 4, 0] rfl ?_
      refine v_goto (tgt := 23) gC d_law_law_900 (by decide) ?_
      refine v_widen (k' := 48 + (i + 6).toNat) (n' := 57879 + (i + 6).toNat) (by omega) (by omega) ?_
      exact ih6 dx dm oa sx sm f (hs hd)
set_option maxHeartbeats 4000000 in
set_option maxRecDepth 100000 in
theorem law_start {l : Launch} (htr : l.stackTraces = false) {p : Program} {e : Env} {s : State} {m : MethodId} {below : List Frame} {meth : Method} {c : Code} {D : va_G} {K : Nat → ClassId} {b L : Nat} {xs : Nat → Int32} (hL : L ≤ 3072) (hr : meth.sig.returnType = ret) (hlk : meth.locks = false) (gC : Cx p s m #[Value.ref b] c code 7 R_law D K (fun q : Nat => s.heap.size ≤ q)) (hX : va_X b L xs s s.heap) (hbl : b < s.heap.size) (hTW : TW s) {I : s_LS → s_Mo → Prop} (hI : ∀ a0 a1 a2 a3 a4 a5 : Int, rg a0 → rg a1 → rg a2 → rg a3 → rg a4 → rg a5 → ∀ (sx : s_LS) (sm : s_Mo), I sx sm → stepP a0 a1 a2 a3 a4 a5 sx sm I) (h0 : I init_LS init_Mo) : V p l e room_1 s m #[Value.ref b] below meth c D (fun q : Nat => s.heap.size ≤ q) 7 0 0 (lw_Z below #[Value.ref b] s) [] 0 [(0, .ref b)] [] := by
  have hrc : room_1.cells = 601024 := rfl
  have hrs : room_1.slots = 7293034 := rfl
  refine v_new (ci := 0) (fs := [.null, .null, .null, .null, .null, .null]) gC in_LS t_LS ok_LS mw_17 mw_18 mw_1 rfl (by decide +kernel) ⟨by omega, by omega⟩ d_law_law_0 (fun q0 => ?_)
  refine v_dup gC d_law_law_3 rfl ?_
  refine v_callI (rest := [.ref q0]) gC (k_LS_init l D K q0) wI_law_19 rfl ⟨Nat.le_of_ble_eq_true rfl, Nat.le_of_ble_eq_true rfl, by omega, by omega⟩ [0] [] rfl (by decide) rfl (by decide) (by decide) rfl (Nat.le_of_ble_eq_true rfl) d_law_law_4 (fun v w1 hp => ?_)
  obtain ⟨dx, rfl, rfl, rfl⟩ := hp
  refine v_norm (ws' := w_LS K dx init_LS) (st' := [.ref (dx 0)]) rfl rfl ?_
  refine v_astore_n (lv' := [(0, .ref b), (1, .ref (dx 0))]) gC d_law_law_7 rfl (by decide) [1, 0] rfl ?_
  refine v_new (ci := 7) (fs := [.int (zI 0), .int (zI 0), .null, .null, .null, .int (zI 0), .null, .int (zI 0), .int (zI 0), .int (zI 0), .int (zI 0), .int (zI 0), .int (zI 0), .null, .null, .null, .null, .int (zI 0), .int (zI 0), .int (zI 0), .int (zI 0), .int (zI 0), .int (zI 0), .int (zI 0), .int (zI 0), .null, .null, .null]) gC in_Mo t_Mo ok_Mo mw_599 mw_600 mw_8 rfl (by decide +kernel) ⟨by omega, by omega⟩ d_law_law_8 (fun q1 => ?_)
  refine v_dup gC d_law_law_11 rfl ?_
  refine v_preI (wa := w_LS K dx init_LS) (rest := [.ref q1]) gC (k_Mo_init l D K q1) wI_law_22 rfl ⟨Nat.le_of_ble_eq_true rfl, Nat.le_of_ble_eq_true rfl, by omega, by omega⟩ rfl (Nat.le_of_ble_eq_true rfl) d_law_law_12 (fun v w1 hp => ?_)
  obtain ⟨dm, rfl, rfl, rfl⟩ := hp
  refine v_norm (ws' := w_LS K dx init_LS ++ w_Mo K dm init_Mo) (st' := [.ref (dm 0)]) rfl rfl ?_
  refine v_astore_n (lv' := [(0, .ref b), (1, .ref (dx 0)), (2, .ref (dm 0))]) gC d_law_law_15 rfl (by decide) [1, 2, 0] rfl ?_
  refine v_iconst gC d_law_law_16 ?_
  refine v_newl gC ka_long ⟨by omega, by omega⟩ d_law_law_17 (fun oa => ?_)
  refine v_eqw (List.append_assoc (w_LS K dx init_LS) (w_Mo K dm init_Mo) _) ?_
  refine v_astore_n (lv' := [(0, .ref b), (1, .ref (dx 0)), (2, .ref (dm 0)), (3, .ref oa)]) gC d_law_law_19 rfl (by decide) [1, 2, 3, 0] rfl ?_
  refine v_iconst gC d_law_law_20 ?_
  refine v_istore (lv' := [(0, .ref b), (1, .ref (dx 0)), (2, .ref (dm 0)), (3, .ref oa), (4, .int (zI 0))]) gC d_law_law_21 (by decide) [1, 2, 3, 4, 0] rfl ?_
  exact law_loop htr hL hr hlk gC hX hbl hTW hI (L + 1) 0 dx dm oa init_LS init_Mo (fun _ => 0) (by omega) (by omega) (by omega) h0
