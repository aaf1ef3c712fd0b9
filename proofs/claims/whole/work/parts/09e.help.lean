/-! ===== the law's helpers: cut and path ===== -/
section HE
variable {p : Program} {l : Launch} {e : Env} {R : Room} {s : State} {m : MethodId} {args : Array Value} {below : List Frame} {meth : Method} {c : Code} {D : va_G} {A : Nat → Prop} {nL k n : Nat} {Q : State → Prop}
variable {ws : va_W} {pc : Nat} {lv : List (Nat × Value)} {st : List Value} {cc : ByteArray} {own : String} {K : Nat → ClassId}
def wkW (y : MethodName) (cc : ByteArray) (nL : Nat) (ret : Option FieldType) (hh : List (Nat × Nat × Nat × Nat)) : List Cond := .codeWith y cc nL ret hh :: kw
theorem wkW_good {y : MethodName} {cc : ByteArray} {nL : Nat} {ret : Option FieldType} {hh : List (Nat × Nat × Nat × Nat)} (h : Cond.codeWith y cc nL ret hh ∈ kw) : GoodIn kw (wkW y cc nL ret hh) := by
  intro w hw
  rcases List.mem_cons.mp hw with rfl | hw
  · exact ⟨h, kw_ok h⟩
  · exact ⟨hw, kw_ok hw⟩
/-- contracts of methods with a handler, that make at most one exception -/
def Kw (l : Launch) (D : va_G) (K : Nat → ClassId) (y : MethodName) (cc : ByteArray) (nL : Nat) (ret : Option FieldType) (hh : List (Nat × Nat × Nat × Nat)) (fr lo : Nat) (As : List Value) (wc : va_W) (Post : Option Value → va_W → Prop) : Prop :=
  ∀ sz : Nat, Met l y (wkW y cc nL ret hh) ({ frames := fr, cells := 1, slots := 6, locals := lo }) (KPX D K wc sz As) (KQ D wc sz Post) 1 6 (va_A wc sz)
theorem Kw.ofI {y : MethodName} {hh : List (Nat × Nat × Nat × Nat)} {fr lo : Nat} {As : List Value} {wc : va_W} {Post : Option Value → va_W → Prop} (hy : plainName y.cls = true) (hlen : (lg_sl As).length ≤ nL) {lv0 : List (Nat × Value)} (hlv : lv_args 0 As = lv0)
    (body : ∀ (p : Program) (e : Env) (R : Room) (s : State) (m : MethodId) (args : Array Value) (below : List Frame) (meth : Method) (c : Code) (A : Nat → Prop) (Q : State → Prop), R.frames = fr → R.cells = 1 → R.slots = 6 → R.locals = lo → Cx p s m args c cc nL y.cls D K A → TW s → (∀ (q : Nat) (cell : Cell), A q → s.heap[q]? = some cell → cell.vm.isStatics = false) →
      c.exceptionTable.toList.map (fun h => (h.startPc, h.endPc, h.handlerPc, h.catchType)) = hh →
      (∀ (ws : va_W) (pc : Nat) (lv : List (Nat × Value)) (x : Int32), decode cc pc = .ok (.ireturn, 1) → Post (some (.int x)) ws → V p l e R s m args below meth c D A nL 1 6 Q ws pc lv [.int x]) → V p l e R s m args below meth c D A nL 0 0 Q wc 0 lv0 []) : Kw l D K y cc nL (some .int) hh fr lo As wc Post := by
  intro sz
  subst hlv
  refine va_MetW (cc := cc) (maxL := nL) (ret := some .int) (hh := hh) hy rfl ?_
  intro p e s m args below meth c s₁ B hml hv
  obtain ⟨rfl, ⟨hsz, hP, hK, hD, hN⟩, hTW⟩ := hv
  have hts := atoms_spec (ws := wkW y cc nL (some .int) hh) B.pre
  have hown : s.vm.findClass y.cls = some m.cls := findClass_of_methodNamed B.named
  have hl := lv_entry As (n := nL) hlen
  have C : Cx p s m As.toArray c cc nL y.cls D K (va_A wc sz) := ⟨B.exec, B.bytes, hml, hown, fun w hw => hts w (List.mem_cons_of_mem _ hw), hK, fun q h => Or.inr (hsz ▸ h), hN⟩
  have hlk := B.notSynchronized
  have hr := B.returns
  obtain ⟨m9, meth9, c9, hn9, hm9, hc9, -, -, hh9, -, -, -⟩ := Cond.codeWith_spec (hts _ List.mem_cons_self)
  have hX := Stand.of_body B
  cases B.named.symm.trans hn9
  cases hX.method.symm.trans hm9
  cases hX.code.symm.trans hc9
  rw [lg_entry_eq]
  exact body p e _ s m _ below meth c (va_A wc sz) _ rfl rfl rfl rfl C hTW (fun q cell hA hc => va_ns hP (by rw [hsz]; exact hA) hc) hh9 (fun ws pc lv x hdg h => fun H locs ls hP hD hS hl => W.iret C.hx C.hb hr (fun t ht hW => ⟨⟨some (.int x), ws, rfl, h, by rw [ht]; exact hP, hD⟩, hS.F ht⟩) hS.2.2 hdg hlk) s.heap [] _ hP hD.self va_S.rf hl
/-- what a call of such a method wants -/
def wW (own : String) (idx : Nat) (y : MethodName) (bytes : ByteArray) (maxL : Nat) (ret : Option FieldType) (hh : List (Nat × Nat × Nat × Nat)) (nA : Nat) : Prop :=
  Cond.methodLink own idx y ∈ kw ∧ Cond.static y ∈ kw ∧ Cond.initialized y.cls ∈ kw ∧ Cond.codeWith y bytes maxL ret hh ∈ kw ∧ y.cls ≠ "java/lang/invoke/MethodHandle" ∧ y.cls ≠ "java/lang/invoke/VarHandle" ∧ (parseMethodDescriptor y.desc).map (fun d => d.parameters.length) = some nA
theorem v_callW (C : Cx p s m args c cc nL own D K A) {y : MethodName} {bytes : ByteArray} {maxL idx fr lo nA : Nat} {ret : Option FieldType} {hh : List (Nat × Nat × Nat × Nat)} {As rest : List Value} {wc : va_W} {Post : Option Value → va_W → Prop} (hM : Kw l D K y bytes maxL ret hh fr lo As wc Post) (hw : wW own idx y bytes maxL ret hh nA) (hA : As.length = nA) (hR : fr + 1 ≤ R.frames ∧ 8 + (maxL + 11) + lo ≤ R.locals ∧ k + 1 ≤ R.cells ∧ n + 6 ≤ R.slots)
    (hTW : TW s) (hns : ∀ (q : Nat) (cell : Cell), A q → s.heap[q]? = some cell → cell.vm.isStatics = false)
    (isC isR : List Nat) (hC : isC.map (fun i => ws[i]?) = wc.map some) (hnC : va_nd isC = true) (hRs : isR.all (fun i => decide (i < ws.length)) = true) (hn : va_nd isR = true) (hdis : ∀ i ∈ isR, i ∉ isC) (hst : st = As.reverse ++ rest) (hcat : (rest.map fun v => v.category).sum ≤ 8) (hdg : decode cc pc = .ok (.invokestatic idx, 3))
    (kk : ∀ (v : Option Value) (w1 : va_W), Post v w1 → V p l e R s m args below meth c D A nL (k + 1) (n + 6) Q (pick ws isR ++ w1) (pc + 3) lv (v.toList ++ rest)) : V p l e R s m args below meth c D A nL k n Q ws pc lv st := by
  obtain ⟨w1, w2, w4, w5, w6, w7, w8⟩ := hw
  subst hA
  refine v_runN C (a := As.toArray) isC isR hC hRs hn hdis (fun H locs ls hP hD hS hl => ?_) kk
  have hPc := hP.sub isC (map_pick hC)
  have hDc := hD.sub isC hnC hC
  have hK : Back l R p e below s args y 3 8 (PreOf R 1 6 (KPX D K wc H.size As)) (PostOf (KQ D wc H.size Post) 1 6 (va_A wc H.size)) :=
    va_backW (hh := hh) (bytes := bytes) (maxL := maxL) (ret := ret) (hM H.size) KPX_blind rfl rfl hR.1 hR.2.1 (fun w hw a' U hW => word_at hW ((wkW_good w5) w hw).2 (C.hts w ((wkW_good w5) w hw).1)) List.mem_cons_self (fun a' U hW => word_at hW (kw_ok w4) (C.hts _ w4))
  intro T hT X
  obtain ⟨mk, methM, cM, hnamed, hmethM, -, -, -, -, -, -, hsigM⟩ := Cond.codeWith_spec (C.hts _ w5)
  have hstatic : methM.isStatic = true := Cond.static_spec hnamed hmethM (C.hts _ w2)
  obtain ⟨kP, hkP, -⟩ := className_of_methodNamed hnamed
  have hinitP : kP.init = .initialized := Cond.initialized_spec (findClass_of_methodNamed hnamed) hkP (C.hts _ w4)
  have hlen : As.length = methM.sig.parameters.length := by
    rw [hsigM] at w8
    exact (Option.some.inj w8).symm
  obtain ⟨vm₁, X₁, hstep₁⟩ := X.invokestatic C.hx C.hown (C.hts _ w1) hnamed hmethM hstatic hkP hinitP ⟨w6, w7⟩ (g := F0 m pc ls st) rfl (argsL := As) (rest := rest) hlen hst (by rw [C.hb]; exact hdg)
  have hTWu : TW (T.setVm vm₁) := TW.move (s := s) X₁.warmed (fun a cell h hi => by
    show T.heap[a]? = some cell
    rw [hT, hS.2.1 a (Array.getElem?_eq_some_iff.mp h).1 (fun hA => by rw [hns a cell hA h] at hi; cases hi)]
    exact h) hTW
  have hKP : KPX D K wc H.size As As.toArray (T.setVm vm₁) :=
    ⟨rfl, ⟨by rw [← hT]; rfl, by show va_P D cls wc T.heap; rw [hT]; exact hPc, va_K.moved X₁.warmed.alike C.hK, hDc.weaken (fun _ _ _ _ => trivial), NW.warm X₁.warmed C.hN⟩, hTWu⟩
  obtain ⟨v, B, X', hpost, hsteps⟩ := hK m meth c ⟨T.setVm vm₁, locs, k, n⟩ (F0 m pc ls rest) (.invokestatic idx) mk As.toArray X₁ rfl (hl.1.trans C.hml.symm) (by rw [C.hb]; exact hdg) (lv_room hcat) (X₁.named hnamed) ⟨hR.2.2.1, hR.2.2.2, hKP⟩
  obtain ⟨U', l2, c2, s2⟩ := B
  obtain ⟨g', mk', t, L, e1, e2, hq, h1, hL, h2, h3⟩ := hpost
  dsimp only [Pt.U, Pt.locs, Pt.cells, Pt.slots] at X' e1 e2 h1 h2 h3 hsteps
  subst h1; subst h2; subst h3
  exact ⟨v, (T.setVm vm₁).calling g' mk' As.toArray, t, U', L, hT, X', hL, e1, e2, hq, fun target h => hstep₁ _ fun acts => by rw [doInvoke_state]; exact hsteps.trans h⟩
theorem tab_one {cd : Code} {a b d t : Nat} (h : cd.exceptionTable.toList.map (fun h => (h.startPc, h.endPc, h.handlerPc, h.catchType)) = [(a, b, d, t)]) : ∃ x, cd.exceptionTable.toList = [x] ∧ x.startPc = a ∧ x.endPc = b ∧ x.handlerPc = d ∧ x.catchType = t := by
  cases hx : cd.exceptionTable.toList with
  | nil => rw [hx] at h; cases h
  | cons x r =>
    cases r with
    | nil =>
      rw [hx] at h
      simp only [List.map_cons, List.map_nil, List.cons.injEq, Prod.mk.injEq, and_true] at h
      exact ⟨x, rfl, h.1, h.2.1, h.2.2.1, h.2.2.2⟩
    | cons y r => rw [hx] at h; simp at h
end HE
