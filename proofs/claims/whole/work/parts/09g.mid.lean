/-! ===== a callee's cells in the midst of a long world: no list is gone through ===== -/
theorem nd_of : ∀ {l : List Nat}, l.Nodup → va_nd l = true
  | [], _ => rfl
  | a :: l, h => by
    obtain ⟨h1, h2⟩ := List.nodup_cons.mp h
    show (decide (a ∉ l) && va_nd l) = true
    rw [nd_of h2, Bool.and_true]
    exact decide_eq_true h1
theorem mid_at (wa wc wb : va_W) : (List.range' wa.length wc.length).map (fun i => (wa ++ (wc ++ wb))[i]?) = wc.map some := by
  apply List.ext_getElem?
  intro j
  rw [List.getElem?_map, List.getElem?_map]
  by_cases h : j < wc.length
  · rw [List.getElem?_range' h, List.getElem?_eq_getElem h]
    show some ((wa ++ (wc ++ wb))[wa.length + 1 * j]?) = _
    rw [List.getElem?_append_right (by omega), show wa.length + 1 * j - wa.length = j by omega, List.getElem?_append_left h, List.getElem?_eq_getElem h]
    rfl
  · rw [List.getElem?_eq_none (by simp; omega), List.getElem?_eq_none (by omega)]
    rfl
def midC (wa wc : va_W) : List Nat := List.range' wa.length wc.length
def midR (wa wc wb : va_W) : List Nat := List.range' 0 wa.length ++ List.range' (wa.length + wc.length) wb.length
theorem midR_map (wa wc wb : va_W) : (midR wa wc wb).map (fun i => (wa ++ (wc ++ wb))[i]?) = (wa ++ wb).map some := by
  unfold midR
  rw [List.map_append, List.map_append]
  have h1 := mid_at [] wa (wc ++ wb)
  have h2 := mid_at (wa ++ wc) wb []
  rw [List.append_nil, List.length_append, List.append_assoc] at h2
  exact congr (congrArg _ h1) h2
theorem midR_all (wa wc wb : va_W) : (midR wa wc wb).all (fun i => decide (i < (wa ++ (wc ++ wb)).length)) = true := by
  rw [List.all_eq_true]
  intro i hi
  unfold midR at hi
  rw [List.mem_append, List.mem_range'_1, List.mem_range'_1] at hi
  simp only [List.length_append, decide_eq_true_eq]
  omega
theorem midR_nd (wa wc wb : va_W) : va_nd (midR wa wc wb) = true := by
  apply nd_of
  unfold midR
  rw [List.nodup_append]
  refine ⟨List.nodup_range', List.nodup_range', fun a ha b hb => ?_⟩
  rw [List.mem_range'_1] at ha hb
  omega
theorem mid_dis (wa wc wb : va_W) : ∀ i ∈ midR wa wc wb, i ∉ midC wa wc := by
  intro i hi hc
  unfold midR at hi
  unfold midC at hc
  rw [List.mem_append, List.mem_range'_1, List.mem_range'_1] at hi
  rw [List.mem_range'_1] at hc
  omega
section MI
variable {p : Program} {l : Launch} {e : Env} {R : Room} {s : State} {m : MethodId} {args : Array Value} {below : List Frame} {meth : Method} {c : Code} {D : va_G} {A : Nat → Prop} {nL k n : Nat} {Q : State → Prop}
variable {ws : va_W} {pc : Nat} {lv : List (Nat × Value)} {st : List Value} {cc : ByteArray} {own : String} {K : Nat → ClassId}
theorem v_mid {wa wb w1 : va_W} {st' : List Value} (hs : st = st') (wc : va_W) (kk : V p l e R s m args below meth c D A nL k n Q (wa ++ (w1 ++ wb)) pc lv st') : V p l e R s m args below meth c D A nL k n Q (pick (wa ++ (wc ++ wb)) (midR wa wc wb) ++ w1) pc lv st := by
  subst hs
  have e : pick (wa ++ (wc ++ wb)) (midR wa wc wb) = wa ++ wb := map_pick (midR_map wa wc wb)
  rw [e]
  rw [← List.append_assoc] at kk
  exact fun H locs ls hP hD hS hl => kk H locs ls hP.swap hD.swap hS hl
theorem v_midV (C : Cx p s m args c cc nL own D K A) {y : MethodName} {bytes : ByteArray} {maxL idx fr lo b N ci nA : Nat} {ret : Option FieldType} {As rest : List Value} {wa wb wc : va_W} {Post : Option Value → va_W → Prop} {F : u_T} {fs : List Value} (hM : Kt l D K y bytes maxL ret fr lo (.ref b :: As) wc Post) (hw : wV own idx y bytes maxL ret nA) (hA : As.length = nA) (hR : rOk R k n fr maxL lo) (he : wc[0]? = some (b, .inr (ci, fs))) (hc : cls[ci]? = some (y.cls, F, N))
    (hst : st = As.reverse ++ .ref b :: rest) (hcat : (rest.map fun v => v.category).sum ≤ 8) (hdg : decode cc pc = .ok (.invokevirtual idx, 3))
    (kk : ∀ (v : Option Value) (w1 : va_W), Post v w1 → V p l e R s m args below meth c D A nL k n Q (wa ++ (w1 ++ wb)) (pc + 3) lv (v.toList ++ rest)) : V p l e R s m args below meth c D A nL k n Q (wa ++ (wc ++ wb)) pc lv st :=
  v_callV C hM hw hA hR 0 he hc (midC wa wc) (midR wa wc wb) (mid_at wa wc wb) (nd_of List.nodup_range') (midR_all wa wc wb) (midR_nd wa wc wb) (mid_dis wa wc wb) hst hcat hdg (fun v w1 hp => v_mid rfl wc (kk v w1 hp))
theorem v_preV (C : Cx p s m args c cc nL own D K A) {y : MethodName} {bytes : ByteArray} {maxL idx fr lo b N ci nA : Nat} {ret : Option FieldType} {As rest : List Value} {wb wc : va_W} {Post : Option Value → va_W → Prop} {F : u_T} {fs : List Value} (hM : Kt l D K y bytes maxL ret fr lo (.ref b :: As) wc Post) (hw : wV own idx y bytes maxL ret nA) (hA : As.length = nA) (hR : rOk R k n fr maxL lo) (he : wc[0]? = some (b, .inr (ci, fs))) (hc : cls[ci]? = some (y.cls, F, N))
    (hst : st = As.reverse ++ .ref b :: rest) (hcat : (rest.map fun v => v.category).sum ≤ 8) (hdg : decode cc pc = .ok (.invokevirtual idx, 3))
    (kk : ∀ (v : Option Value) (w1 : va_W), Post v w1 → V p l e R s m args below meth c D A nL k n Q (w1 ++ wb) (pc + 3) lv (v.toList ++ rest)) : V p l e R s m args below meth c D A nL k n Q (wc ++ wb) pc lv st :=
  v_midV C (wa := []) (wb := wb) hM hw hA hR he hc hst hcat hdg kk
theorem v_norm {ws' : va_W} {st' : List Value} (h : ws = ws') (hs : st = st') (kk : V p l e R s m args below meth c D A nL k n Q ws' pc lv st') : V p l e R s m args below meth c D A nL k n Q ws pc lv st := h ▸ hs ▸ kk
/-- worlds that say the same -/
theorem v_eqw {ws' : va_W} (h : ws = ws') (kk : V p l e R s m args below meth c D A nL k n Q ws' pc lv st) : V p l e R s m args below meth c D A nL k n Q ws pc lv st := h ▸ kk
/-- the last two blocks change places -/
theorem v_sw {wa wb wc : va_W} (kk : V p l e R s m args below meth c D A nL k n Q (wa ++ (wc ++ wb)) pc lv st) : V p l e R s m args below meth c D A nL k n Q (wa ++ (wb ++ wc)) pc lv st := by
  rw [← List.append_assoc] at kk ⊢
  exact fun H locs ls hP hD hS hl => kk H locs ls hP.swap hD.swap hS hl
theorem v_midW (C : Cx p s m args c cc nL own D K A) {y : MethodName} {bytes : ByteArray} {maxL idx fr lo nA : Nat} {ret : Option FieldType} {hh : List (Nat × Nat × Nat × Nat)} {As rest : List Value} {wa wb wc : va_W} {Post : Option Value → va_W → Prop} (hM : Kw l D K y bytes maxL ret hh fr lo As wc Post) (hw : wW own idx y bytes maxL ret hh nA) (hA : As.length = nA) (hR : fr + 1 ≤ R.frames ∧ 8 + (maxL + 11) + lo ≤ R.locals ∧ k + 1 ≤ R.cells ∧ n + 6 ≤ R.slots)
    (hTW : TW s) (hns : ∀ (q : Nat) (cell : Cell), A q → s.heap[q]? = some cell → cell.vm.isStatics = false) (hst : st = As.reverse ++ rest) (hcat : (rest.map fun v => v.category).sum ≤ 8) (hdg : decode cc pc = .ok (.invokestatic idx, 3))
    (kk : ∀ (v : Option Value) (w1 : va_W), Post v w1 → V p l e R s m args below meth c D A nL (k + 1) (n + 6) Q (wa ++ (w1 ++ wb)) (pc + 3) lv (v.toList ++ rest)) : V p l e R s m args below meth c D A nL k n Q (wa ++ (wc ++ wb)) pc lv st :=
  v_callW C hM hw hA hR hTW hns (midC wa wc) (midR wa wc wb) (mid_at wa wc wb) (nd_of List.nodup_range') (midR_all wa wc wb) (midR_nd wa wc wb) (mid_dis wa wc wb) hst hcat hdg (fun v w1 hp => v_mid rfl wc (kk v w1 hp))
theorem v_preW (C : Cx p s m args c cc nL own D K A) {y : MethodName} {bytes : ByteArray} {maxL idx fr lo nA : Nat} {ret : Option FieldType} {hh : List (Nat × Nat × Nat × Nat)} {As rest : List Value} {wb wc : va_W} {Post : Option Value → va_W → Prop} (hM : Kw l D K y bytes maxL ret hh fr lo As wc Post) (hw : wW own idx y bytes maxL ret hh nA) (hA : As.length = nA) (hR : fr + 1 ≤ R.frames ∧ 8 + (maxL + 11) + lo ≤ R.locals ∧ k + 1 ≤ R.cells ∧ n + 6 ≤ R.slots)
    (hTW : TW s) (hns : ∀ (q : Nat) (cell : Cell), A q → s.heap[q]? = some cell → cell.vm.isStatics = false) (hst : st = As.reverse ++ rest) (hcat : (rest.map fun v => v.category).sum ≤ 8) (hdg : decode cc pc = .ok (.invokestatic idx, 3))
    (kk : ∀ (v : Option Value) (w1 : va_W), Post v w1 → V p l e R s m args below meth c D A nL (k + 1) (n + 6) Q (w1 ++ wb) (pc + 3) lv (v.toList ++ rest)) : V p l e R s m args below meth c D A nL k n Q (wc ++ wb) pc lv st :=
  v_midW C (wa := []) (wb := wb) hM hw hA hR hTW hns hst hcat hdg kk
/-- a constructor of the last cell of a world -/
theorem v_preI (C : Cx p s m args c cc nL own D K A) {y : MethodName} {bytes : ByteArray} {maxL idx fr mc ms lo b nA : Nat} {As rest : List Value} {wa wc : va_W} {Post : Option Value → va_W → Prop} (hM : Kn l D K y bytes maxL fr mc ms lo (.ref b :: As) wc Post) (hw : wI own idx y bytes maxL nA) (hA : As.length = nA) (hR : fr + 1 ≤ R.frames ∧ 8 + (maxL + 11) + lo ≤ R.locals ∧ k + mc ≤ R.cells ∧ n + ms ≤ R.slots)
    (hst : st = As.reverse ++ .ref b :: rest) (hcat : (rest.map fun v => v.category).sum ≤ 8) (hdg : decode cc pc = .ok (.invokespecial idx, 3))
    (kk : ∀ (v : Option Value) (w1 : va_W), Post v w1 → V p l e R s m args below meth c D A nL (k + mc) (n + ms) Q (wa ++ w1) (pc + 3) lv (v.toList ++ rest)) : V p l e R s m args below meth c D A nL k n Q (wa ++ wc) pc lv st := by
  have h0 : wa ++ wc = wa ++ (wc ++ []) := by rw [List.append_nil]
  rw [h0]
  exact v_callI C hM hw hA hR (midC wa wc) (midR wa wc []) (mid_at wa wc []) (nd_of List.nodup_range') (midR_all wa wc []) (midR_nd wa wc []) (mid_dis wa wc []) hst hcat hdg (fun v w1 hp => v_mid rfl wc (by rw [List.append_nil]; exact kk v w1 hp))
/-- an array of one long -/
theorem v_newl (C : Cx p s m args c cc nL own D K A) (hw : Cond.arrayClass .long ∈ kw) (hR : k + 1 ≤ R.cells ∧ n + 1 ≤ R.slots) (hdg : decode cc pc = .ok (.newarray .long, 2))
    (kk : ∀ a : Nat, V p l e R s m args below meth c D A nL (k + 1) (n + 1) Q (ws ++ [(a, .inl (K 2, 1, .inr (.inl (fun _ => 0))))]) (pc + 2) lv (.ref a :: st)) : V p l e R s m args below meth c D A nL k n Q ws pc lv (.int (zI 1) :: st) :=
  fun H locs ls hP hD hS hl => va_newa (atype := .long) (N' := 1) (a0 := (1, .inr (.inl (fun _ => 0)))) C.hx C.hb (C.hts _ hw) (ty := .long) rfl C.hK hP hD hS C.hA (fun _ => rfl) (by decide) (by decide) (by decide) hR.1 hR.2 hdg (fun q c2 H1 hK1 hP1 hD1 hS1 => by
    have e2 : va_RA s c2 .long := (hK1.2 (tk K).length (c2, .long) (by simp)).2
    have e : c2 = K 2 := Option.some.inj (Eq.trans (Eq.symm (e2 : s.vm.findClass _ = some c2)) (C.hK.2 2 _ rfl).2)
    subst e
    exact kk q H1 locs ls hP1 hD1 hS1 hl)
end MI
