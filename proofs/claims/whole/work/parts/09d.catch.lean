/-! ===== CATCHES: the law's two helpers ===== -/
section CT
variable {p : Program} {l : Launch} {e : Env} {R : Room} {s : State} {m : MethodId} {args : Array Value} {below : List Frame} {meth : Method} {c : Code} {T : State} {locs : List Loc} {cells slots : Nat}
/-- the search through a table of one entry, whose class may not be resolved yet -/
theorem ca_find {u : State} {f : JFrame} {a : Addr} {mt : Method} {cd : Code} (hm : u.vm.method? f.method = some mt) (hc : mt.code = some cd) {x : ExceptionTableEntry} (hx : cd.exceptionTable.toList = [x]) (hcov : covers x f.pc = true) (h0 : x.catchType ≠ 0) {cT : ClassId} {cell : Cell}
    (hl : u.vm.ClassLinks e.platform f.method.cls x.catchType cT) (hcell : u.heap[a]? = some cell) (hobj : cell.vm = .none) (hk : ∃ k, u.vm.classes[cell.cls]? = some k) (hcl : ∃ k, u.vm.classes[cT]? = some k) (hfit : u.vm.assignable cell.cls cT = true) {Q : Handler → Pre} {E : CtlPost} {d : Bool} {acts : List Action} :
    wp (findHandler f a) Q E e d acts u ↔ Q (.found x.handlerPc) d acts (u.setVm (u.vm.noted f.method.cls x.catchType (.cls cT))) := by
  rw [W.findHandler_eq hm hc, hx]
  simp only [covers] at hcov
  obtain ⟨ha, ht⟩ := (resolveClass_links e.toSetting hl).op (op := VmOp.resolveClass f.method.cls x.catchType) rfl
  have hal : u.vm.Alike (u.vm.noted f.method.cls x.catchType (.cls cT)) := (Vm.Alike.refl u.vm).noted _ _ _
  obtain ⟨k1, hk1⟩ := hk
  obtain ⟨k2, hk2⟩ := hcl
  obtain ⟨k1', hk1', -⟩ := hal.2.2 _ _ hk1
  obtain ⟨k2', hk2', -⟩ := hal.2.2 _ _ hk2
  have hfit' : (u.vm.noted f.method.cls x.catchType (.cls cT)).assignable cell.cls cT = true := by rw [hal.assignable]; exact hfit
  simp [findHandler.go, hcov, h0, ha, ht, hcell, hobj, hk1', hk2', hfit', VmOp.dirties, VmOp.acts]
/-- from the note of a throw over the frame g to g's own handler -/
theorem ca_to (X : Stand p l e R s m args below meth c T locs cells slots) (a : Addr) {g : JFrame} (hg : g.method = m) {own : String} (hown : s.vm.findClass own = some m.cls) {x : ExceptionTableEntry} (hx : c.exceptionTable.toList = [x]) (hcov : covers x g.pc = true) (h0 : x.catchType ≠ 0)
    (hlink : (Cond.classLink own x.catchType nse).before args s = true) {cell : Cell} (hcT : s.vm.findClass nse = some cell.cls) (hcell : T.heap[a]? = some cell) (hobj : cell.vm = .none) (hfit : s.vm.assignable cell.cls cell.cls = true) :
    ∃ vm', Stand p l e R s m args below meth c (T.setVm vm') locs cells slots ∧ ∀ target, Steps p.tables e below ((T.setVm vm').setTop { g with pc := x.handlerPc, stack := [.ref a] }) target → Steps p.tables e below ((T.setTop g).pushFrame (.throwing a)) target := by
  have hpl : e.platform.magicAccessors = ({} : Platform).magicAccessors := by rw [X.admits.platform]
  obtain ⟨c', hc', hcl⟩ := Cond.classLink_spec hown hlink e.platform hpl
  cases hcT.symm.trans hc'
  obtain ⟨dk, _, _, kt, hd, _, _, _, _, hkt, _, hopen⟩ := hcl.here
  have hcl₀ := X.warmed.classLinks hcl
  have hW' : s.WarmedH (T.vm.noted m.cls x.catchType (.cls cell.cls)) := X.warmed.noted hd hopen (State.rightAt_cls hcl)
  have hal := X.warmed.alike
  obtain ⟨kt', hkt', -⟩ := hal.2.2 _ _ hkt
  have hfit' : T.vm.assignable cell.cls cell.cls = true := by rw [hal.assignable]; exact hfit
  refine ⟨_, X.noted hW', fun target hrest => ?_⟩
  subst hg
  obtain ⟨hgo, hw⟩ := X.here.throwing (g := g) a
  refine Steps.head hgo hw ?_
  have hst : (stepThrowing e ((T.setTop g).pushFrame (.throwing a)) a (.java g :: T.frames.tail)).Is ((((T.setTop g).pushFrame (.throwing a)).setVm (T.vm.noted g.method.cls x.catchType (.cls cell.cls))).setFrames (.java { g with pc := x.handlerPc, stack := [.ref a] } :: T.frames.tail)) [] := by
    have hfind := fun (Q : Handler → Pre) (E : CtlPost) (d : Bool) (acts : List Action) => ca_find (e := e) (u := (T.setTop g).pushFrame (.throwing a)) (f := g) (a := a) (mt := meth) (cd := c) X.method' X.code hx hcov h0 (cT := cell.cls) (cell := cell) hcl₀ hcell hobj ⟨kt', hkt'⟩ ⟨kt', hkt'⟩ hfit' (Q := Q) (E := E) (d := d) (acts := acts)
    simp only [stepThrowing, searchFrame, vmDo]
    generalize hr : Sem.go _ e false [] _ = res
    obtain ⟨as, rfl, ha⟩ := Sem.eq_ok_of hr (a := Handler.found x.handlerPc) (s' := ((T.setTop g).pushFrame (.throwing a)).setVm (T.vm.noted g.method.cls x.catchType (.cls cell.cls))) (acts' := [])
      (by simp [hfind _ _ _ _, Stand.throwing_vm])
    exact ⟨rfl, ha⟩
  obtain ⟨g₀, hg0⟩ := Option.isSome_iff_exists.mp X.here.top
  obtain ⟨r, hr⟩ := State.topJava?_eq_some.mp hg0
  rw [stepThread_throwing (frames_entered X.here.top _), hst.1]
  have hr' : (T.setVm (T.vm.noted g.method.cls x.catchType (.cls cell.cls))).frames = .java g₀ :: r := hr
  rw [State.setTop_of_frames _ hr'] at hrest
  have e1 : (((T.setTop g).pushFrame (.throwing a)).setVm (T.vm.noted g.method.cls x.catchType (.cls cell.cls))).setFrames (.java { g with pc := x.handlerPc, stack := [.ref a] } :: T.frames.tail) = (T.setVm (T.vm.noted g.method.cls x.catchType (.cls cell.cls))).setFrames (.java { g with pc := x.handlerPc, stack := [.ref a] } :: r) := by
    rw [hr, List.tail_cons, State.setTop_of_frames _ hr, State.pushFrame]
    show (((T.setVm (T.vm.noted g.method.cls x.catchType (.cls cell.cls))).setFrames _).setFrames _).setFrames _ = _
    rw [State.setFrames_setFrames, State.setFrames_setFrames]
  rw [e1]
  exact hrest
variable {D : va_G} {A : Nat → Prop} {nL k n : Nat} {Q : State → Prop} {ws : va_W} {pc : Nat} {lv : List (Nat × Value)} {st : List Value} {cc : ByteArray} {own : String} {K : Nat → ClassId}
theorem v_aload (C : Cx p s m args c cc nL own D K A) {i : Nat} {x : Nat} (hdg : decode cc pc = .ok (.aload i, 2)) (j : Nat) (hj : lv[j]? = some (i, .ref x)) (kk : V p l e R s m args below meth c D A nL k n Q ws (pc + 2) lv (.ref x :: st)) : V p l e R s m args below meth c D A nL k n Q ws pc lv st :=
  fun H locs ls hP hD hS hl => lv_aload C.hx C.hb hdg (lv_at hl j hj) (kk H locs ls hP hD hS hl)
theorem v_astore (C : Cx p s m args c cc nL own D K A) {i : Nat} {x : Nat} {lv' : List (Nat × Value)} (hdg : decode cc pc = .ok (.astore i, 2)) (hn : i < nL) (ks : List Nat) (hl' : lv_pick ((i, Value.ref x) :: lv.filter (fun q => !(q.1 == i) && !(q.1 + 1 == i && q.2.category == 2))) ks = lv') (kk : V p l e R s m args below meth c D A nL k n Q ws (pc + 2) lv' st) : V p l e R s m args below meth c D A nL k n Q ws pc lv (.ref x :: st) :=
  fun H locs ls hP hD hS hl => lv_astore C.hx C.hb hdg hl hn rfl (fun ls' h' => kk H locs ls' hP hD hS (lv_sub h' ks hl'))
theorem v_astore_n (C : Cx p s m args c cc nL own D K A) {f : Fin 4} {i : Nat} {x : Nat} {lv' : List (Nat × Value)} (hdg : decode cc pc = .ok (.astore_n f, 1)) (hi : (f : Nat) = i) (hn : i < nL) (ks : List Nat) (hl' : lv_pick ((i, Value.ref x) :: lv.filter (fun q => !(q.1 == i) && !(q.1 + 1 == i && q.2.category == 2))) ks = lv') (kk : V p l e R s m args below meth c D A nL k n Q ws (pc + 1) lv' st) : V p l e R s m args below meth c D A nL k n Q ws pc lv (.ref x :: st) :=
  fun H locs ls hP hD hS hl => lv_astore_n C.hx C.hb hdg hi hl hn rfl (fun ls' h' => kk H locs ls' hP hD hS (lv_sub h' ks hl'))
theorem in_01 : vp_in (zI 0) 1 := zI_in (i := 0) (N := 1) (by omega) (by omega)
/-- the one long of an array: read, written -/
theorem v_lald (C : Cx p s m args c cc nL own D K A) {a : Nat} {f : Nat → Int64} {x : Int64} (q0 : Nat) (ha : ws[q0]? = some (a, .inl (K 2, 1, .inr (.inl f)))) (hx : f 0 = x) (hdg : decode cc pc = .ok (.laload, 1)) (kk : V p l e R s m args below meth c D A nL k n Q ws (pc + 1) lv (.long x :: st)) : V p l e R s m args below meth c D A nL k n Q ws pc lv (.int (zI 0) :: .ref a :: st) := by
  subst hx
  exact fun H locs ls hP hD hS hl => va_lald C.hx C.hb C.hK hP q0 2 ha rfl in_01 hdg (kk H locs ls hP hD hS hl)
theorem v_last (C : Cx p s m args c cc nL own D K A) {a : Nat} {f : Nat → Int64} {x : Int64} {ws' : va_W} (q0 : Nat) (ha : ws[q0]? = some (a, .inl (K 2, 1, .inr (.inl f)))) (hset : ws.set q0 (a, .inl (K 2, 1, .inr (.inl (vp_updL f 0 x)))) = ws') (hdg : decode cc pc = .ok (.lastore, 1)) (kk : V p l e R s m args below meth c D A nL k n Q ws' (pc + 1) lv st) : V p l e R s m args below meth c D A nL k n Q ws pc lv (.long x :: .int (zI 0) :: .ref a :: st) :=
  fun H locs ls hP hD hS hl => va_last C.hx C.hb C.hK hP hD hS q0 2 ha rfl in_01 hdg (fun H1 locs1 hP1 hD1 hS1 => by
    rw [show (zI 0).toNatClampNeg = 0 from rfl, hset] at hP1 hD1
    exact kk H1 locs1 ls hP1 hD1 hS1 hl)
/-- a call that throws, and is caught here -/
theorem v_catch (C : Cx p s m args c cc nL own D K A) {y : MethodName} {bytes : ByteArray} {maxL idx fr lo b N ci nA : Nat} {ret : Option FieldType} {As rest : List Value} {wc : va_W} {Post : va_W → Prop} {F : u_T} {fs : List Value} (hM : KtX l D K y bytes maxL ret fr lo (.ref b :: As) wc Post) (hw : wV own idx y bytes maxL ret nA) (hA : As.length = nA) (hR : fr + 1 ≤ R.frames ∧ 8 + (maxL + 11) + lo ≤ R.locals ∧ k + 1 ≤ R.cells ∧ n + 6 ≤ R.slots)
    (hTW : TW s) (hns : ∀ (q : Nat) (cell : Cell), A q → s.heap[q]? = some cell → cell.vm.isStatics = false) {x0 : ExceptionTableEntry} (hex : c.exceptionTable.toList = [x0]) (hcov : covers x0 pc = true) (h0 : x0.catchType ≠ 0) (hlk : Cond.classLink own x0.catchType nse ∈ kw)
    (q0 : Nat) (he : wc[q0]? = some (b, .inr (ci, fs))) (hc : cls[ci]? = some (y.cls, F, N))
    (isC isR : List Nat) (hC : isC.map (fun i => ws[i]?) = wc.map some) (hnC : va_nd isC = true) (hRs : isR.all (fun i => decide (i < ws.length)) = true) (hn : va_nd isR = true) (hdis : ∀ i ∈ isR, i ∉ isC) (hst : st = As.reverse ++ .ref b :: rest) (hcat : (rest.map fun v => v.category).sum ≤ 8) (hdg : decode cc pc = .ok (.invokevirtual idx, 3))
    (kk : ∀ (x : Nat) (w1 : va_W), Post w1 → V p l e R s m args below meth c D A nL (k + 1) (n + 6) Q (pick ws isR ++ w1) x0.handlerPc lv [.ref x]) : V p l e R s m args below meth c D A nL k n Q ws pc lv st := by
  obtain ⟨w1, w2, w3, w4, w5, w6, w7, w8⟩ := hw
  subst hA
  have hRp := pick_map hRs
  intro H locs ls hP hD hS hl T hT X
  have hPc := hP.sub isC (map_pick hC)
  have hDc := hD.sub isC hnC hC
  have hF := va_free (wc := wc) hD hS C.hA isC hC
  obtain ⟨cellB, hcB, hoB, hclB⟩ := va_recv C.hK hPc hc he
  obtain ⟨mk, methM, hnamed, hmethM, hstM, habM⟩ := Cond.instanceMethod_spec (C.hts _ w2)
  obtain ⟨methM', cM, hmethM', hcM, -, hlM, -, -, -, hsigM⟩ := Cond.code_spec hnamed (C.hts _ w5)
  cases hmethM.symm.trans hmethM'
  obtain ⟨c2, r2, m2, q1, q2, q3, q4, kP, hkP, hkPi⟩ := Cond.selects_spec (C.hts _ w3)
  cases hclB.symm.trans q1
  cases (State.methodFound?_of_named hnamed ⟨w6, w7⟩).symm.trans q2
  cases hnamed.symm.trans q3
  have hselP : selectMethod e.platform s.vm cellB.cls mk = .method mk := by rw [Launch.admits_selectMethod X.admits]; exact q4
  have hlen : As.length = methM.sig.parameters.length := by
    rw [hsigM] at w8
    exact (Option.some.inj w8).symm
  obtain ⟨vm₁, X₁, hstep₁⟩ := X.invokevirtual C.hx C.hown (C.hts _ w1) hnamed hmethM hstM hkP hkPi ⟨w6, w7⟩ (a := b) (cell := cellB) (by rw [hT]; exact hcB)
    (fun z h => by rw [h] at hoB; cases hoB) hselP hmethM habM hkP hkPi (g := F0 m pc ls st) rfl (argsL := As) (rest := rest) hlen hst (by rw [C.hb]; exact hdg)
  have hsz : (F0 m pc ls rest).locals.size = c.maxLocals := hl.1.trans C.hml.symm
  have hinitP : kP.init = .initialized := Cond.initialized_spec (findClass_of_methodNamed hnamed) hkP (C.hts _ w4)
  have hnamed₁ := X₁.named hnamed
  obtain ⟨kY, hkY, -⟩ := className_of_methodNamed hnamed₁
  have hws : ∀ w ∈ wk y bytes maxL ret, w.before (Value.ref b :: As).toArray (T.setVm vm₁) = true := fun w hw => word_at (U := T.setVm vm₁) X₁.warmed ((wk_good w5) w hw).2 (C.hts w ((wk_good w5) w hw).1)
  obtain ⟨methY, cY, hmY, hcY, -, hlY, -, -, -, -⟩ := Cond.code_spec hnamed₁ (hws _ List.mem_cons_self)
  have hinitY : kY.init = .initialized := Cond.initialized_spec (findClass_of_methodNamed hnamed₁) hkY (word_at (U := T.setVm vm₁) (a' := (Value.ref b :: As).toArray) X₁.warmed (kw_ok w4) (C.hts _ w4))
  have hat : At (T.setVm vm₁) (F0 m pc ls rest).method c below := X₁.here
  have happ : (headSpec (wk y bytes maxL ret) ({ frames := fr, cells := 1, slots := 6, locals := lo })).appliesLoose y e.platform ((T.setVm vm₁).calling (F0 m pc ls rest) mk (Value.ref b :: As).toArray) = true :=
    Spec.appliesLoose_calling (g := F0 m pc ls rest) hat (ig := .invokevirtual idx) (len := 3) (by rw [C.hb]; exact hdg) hnamed₁ hkY hinitY
      (X₁.room_calling (g := F0 m pc ls rest) (R' := { frames := fr, cells := 1, slots := 6, locals := lo }) hsz hmY hcY hR.1 (by rw [hlY]; have h8 : 2 * (F0 m pc ls rest).monitorRoom + (rest.map fun v => v.category).sum ≤ 8 := lv_room hcat; show 2 * (F0 m pc ls rest).monitorRoom + (rest.map fun v => v.category).sum + (maxL + 11) + lo ≤ R.locals; omega) hR.2.2.1 hR.2.2.2) (atoms_intro hws)
  have hfr : ((T.setVm vm₁).setTop (F0 m pc ls rest)).frames = [.java (F0 m pc ls rest)] ++ below := by
    rw [State.frames_setTop' _ X₁.here.top, X₁.tail]
    rfl
  have hTWu : TW (T.setVm vm₁) := TW.move (s := s) X₁.warmed (fun a cell h hi => by
    show T.heap[a]? = some cell
    rw [hT, hS.2.1 a (Array.getElem?_eq_some_iff.mp h).1 (fun hA => by rw [hns a cell hA h] at hi; cases hi)]
    exact h) hTW
  have hKP : KPX D K wc H.size (.ref b :: As) (Value.ref b :: As).toArray (T.setVm vm₁) :=
    ⟨rfl, ⟨by rw [← hT]; rfl, by show va_P D cls wc T.heap; rw [hT]; exact hPc, va_K.moved X₁.warmed.alike C.hK, hDc.weaken (fun _ _ _ _ => trivial), NW.warm X₁.warmed C.hN⟩, hTWu⟩
  obtain ⟨o, s₂, hsteps, -, hend, hq⟩ := Steps.callFree (hM H.size) p X.admits X.cas X.clock (acts := []) hfr happ (KPX_blind _ _ _ _ hKP) trivial
  have hq' : KX D wc H.size Post (Value.ref b :: As).toArray ((T.setVm vm₁).calling (F0 m pc ls rest) mk (Value.ref b :: As).toArray) o s₂ := hq
  obtain ⟨x, wn, ce, L, rfl, hp, hP1, hD1, ⟨hz, hk⟩, hce, hvm, hfc, hfit, hW2, hsame, hL⟩ := hq'
  rw [hfr] at hend
  obtain ⟨T', X', hW', hsame', ht⟩ := X₁.outOfThrown (g := F0 m pc ls rest) rfl (mk := mk) (a := (Value.ref b :: As).toArray) (t := s₂) (x := x) hend hW2 hsame
  have hT2 : T'.heap = s₂.heap := by rw [ht]; exact (Stand.throwing_heap _ _ _).symm
  have hH : ((T.setVm vm₁).calling (F0 m pc ls rest) mk (Value.ref b :: As).toArray).heap = H := hT
  rw [hH] at hz hk
  obtain ⟨vm', X2, hcatch⟩ := ca_to X' x (g := F0 m pc ls rest) rfl C.hown hex hcov h0 (C.hts _ hlk) (cell := ce) (by have h5 : ((T.setVm vm₁).calling (F0 m pc ls rest) mk (Value.ref b :: As).toArray).vm.findClass nse = some ce.cls := hfc; rw [← X₁.warmed.alike.findClass]; exact h5) (by rw [hT2]; exact hce) hvm (by have h5 : ((T.setVm vm₁).calling (F0 m pc ls rest) mk (Value.ref b :: As).toArray).vm.assignable ce.cls ce.cls = true := hfit; rw [← X₁.warmed.alike.assignable]; exact h5)
  have hk' : ∀ q : Nat, q < H.size → ¬ va_A wc H.size q → T'.heap[q]? = H[q]? := fun q h1 h2 => by rw [hT2]; exact hk q h1 h2
  obtain ⟨hP2, hD2⟩ := va_join hP hD isC isR hC hRp hn hdis hk' hF (by rw [hT2]; exact hP1) hD1
  have hS2 : va_S A s.heap T'.heap (locs ++ L) := ⟨Nat.le_trans hS.1 (by rw [hT2]; exact hz), fun q h1 h2 => by rw [hT2, hk q (Nat.lt_of_lt_of_le h1 hS.1) (fun z => h2 (hF q z))]; exact hS.2.1 q h1 h2, fun q hq => by
    rcases List.mem_append.mp hq with h | h
    · exact hS.2.2 q h
    · exact hF _ (hL q h)⟩
  obtain ⟨t2, a1, b1⟩ := kk x wn hp T'.heap (locs ++ L) ls hP2 hD2 hS2 hl (T'.setVm vm') rfl X2
  refine ⟨t2, hstep₁ t2 (fun acts => ?_), b1⟩
  rw [doInvoke_state]
  refine hsteps.trans ?_
  rw [ht]
  exact hcatch t2 a1
end CT
