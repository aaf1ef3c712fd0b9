/-! ===== THROWS: the class's cut and path make a NoSuchElementException and throw it; the law's helpers catch it ===== -/
def nse : String := "java/util/NoSuchElementException"
def nup : List String := ["java/lang/RuntimeException", "java/lang/Exception"]
def twl : List Cond := Bundle.ownAtoms0 R_LS 103 nse nup
def twOk : Cond → Bool
  | .isRef (.static _ _ _) => true
  | .laysStatic .. => true
  | c => c.onTables
theorem tw_ok : ∀ w ∈ twl, twOk w = true ∧ w.keepsFace = true := by decide +kernel
theorem ff_vm {u U : State} (hv : u.vm = U.vm) (o n d : String) : U.fieldFound? o n d = u.fieldFound? o n d := by
  unfold State.fieldFound?
  rw [hv]
/-- such a word in a state with the same tables, whose cells of statics are the same -/
theorem tw_heap {w : Cond} (hw : twOk w = true) {A A' : Array Value} {u U : State} (hv : u.vm = U.vm) (hh : ∀ (a : Nat) (cell : Cell), u.heap[a]? = some cell → cell.vm.isStatics = true → U.heap[a]? = some cell) (h : w.before A u = true) : w.before A' U = true := by
  cases w with
  | isRef t =>
    cases t with
    | static C n d =>
      obtain ⟨v, he, hr⟩ := Cond.isRef_spec h
      have h2 : (Term.static C n d).eval A' U none [] U = some v := by
        simp only [Term.eval, State.fieldNamed?] at he ⊢
        rw [ff_vm hv]
        cases hf : u.fieldFound? C n d with
        | none => simp [hf] at he
        | some q =>
          obtain ⟨c, k, i, f⟩ := q
          cases hst : f.isStatic with
          | false => simp [hf, hst] at he
          | true =>
            cases hs : k.statics with
            | none => simp [hf, hst, hs] at he
            | some a =>
              cases hc : u.heap[a]? with
              | none => simp [hf, hst, hs, hc] at he
              | some cell =>
                by_cases hi : cell.vm.isStatics = true
                · have h3 := hh a cell hc hi
                  simpa [hf, hst, hs, hc, h3] using he
                · simp [hf, hst, hs, hc, hi] at he
      simp only [Cond.before, Cond.holds, Cond.value, h2]
      cases v <;> simp_all [Value.isRef]
    | _ => simp [twOk, Cond.onTables] at hw
  | laysStatic C n d =>
    simp only [Cond.before, Cond.holds, Cond.value] at h ⊢
    rw [ff_vm hv, ← hv]
    cases hc0 : u.vm.findClass C with
    | none => simp [hc0] at h
    | some c0 =>
      cases hf : u.fieldFound? C n d with
      | none => simp [hc0, hf] at h
      | some q =>
        obtain ⟨c, k, i, f⟩ := q
        cases hs : k.statics with
        | none => simp [hc0, hf, hs] at h
        | some a =>
          cases hc : u.heap[a]? with
          | none => simp [hc0, hf, hs, hc] at h
          | some cell =>
            by_cases hi : cell.vm.isStatics = true
            · have h3 := hh a cell hc hi
              simpa [hc0, hf, hs, hc, h3] using h
            · simp [hc0, hf, hs, hc, hi] at h
  | _ =>
    refine va_tabs ?_ hv h
    exact hw
def TW (U : State) : Prop := ∀ w ∈ twl, w.before #[] U = true
theorem TW.heap {u U : State} (hv : u.vm = U.vm) (hh : ∀ (a : Nat) (cell : Cell), u.heap[a]? = some cell → cell.vm.isStatics = true → U.heap[a]? = some cell) (h : TW u) : TW U := fun w hw => tw_heap (tw_ok w hw).1 hv hh (h w hw)
theorem TW.use {U : State} (h : TW U) (A : Array Value) : ∀ w ∈ twl, w.before A U = true := fun w hw => tw_heap (tw_ok w hw).1 rfl (fun _ _ h _ => h) (h w hw)
theorem TW.move {s U : State} (hW : s.WarmedH U.vm) (hh : ∀ (a : Nat) (cell : Cell), s.heap[a]? = some cell → cell.vm.isStatics = true → U.heap[a]? = some cell) (h : TW s) : TW U :=
  fun w hw => tw_heap (u := s.setVm U.vm) (tw_ok w hw).1 rfl hh (Cond.before_shiftedFace (State.Shifted.of_warmed hW) w (tw_ok w hw).2 (h w hw))
section TH
variable {p : Program} {l : Launch} {e : Env} {R : Room} {s : State} {m : MethodId} {args : Array Value} {below : List Frame} {meth : Method} {c : Code} {T : State} {locs : List Loc} {cells slots : Nat}
/-- the same walk, counted from its heap now -/
theorem st_rebase (X : Stand p l e R s m args below meth c T locs cells slots) {R' : Room} (hf : R'.frames = R.frames) (hl : R'.locals = R.locals) (hc : cells + R'.cells ≤ R.cells) (hs : slots + R'.slots ≤ R.slots) : Stand p l e R' ({ s with heap := T.heap, slotsUsed := T.slotsUsed } : State) m args below meth c T [] 0 0 := by
  obtain ⟨r1, r2⟩ := X.roomAbove hc hs
  refine ⟨X.admits, X.cas, X.clock, X.frames, ?_, X.hears, X.method, X.code, X.here, X.tail, X.warmed, X.limits, X.bytes, ?_⟩
  · have hr := X.room
    have hb := X.book
    simp only [State.hasRoom, Bool.and_eq_true, decide_eq_true_eq] at hr ⊢
    obtain ⟨⟨⟨⟨q1, q2⟩, q3⟩, q4⟩, q5⟩ := hr
    rw [hf, hl]
    exact ⟨⟨⟨⟨q1, q2⟩, r1⟩, r2⟩, hb⟩
  · refine ⟨X.same.1, Nat.le_refl _, Nat.le_refl _, ?_, ?_, fun a cl h => ⟨cl, h, rfl, rfl, fun _ _ => rfl⟩⟩
    · show T.slotsUsed = T.slotsUsed + ((T.heap.toList.drop T.heap.size).map (·.slots.size)).sum
      rw [List.drop_eq_nil_of_le (by simp)]
      rfl
    · show ((T.heap.toList.drop T.heap.size).map (·.slots.size)).sum ≤ 0
      rw [List.drop_eq_nil_of_le (by simp)]
      exact Nat.le_refl _
theorem same_rebase {U : State} {L : List Loc} {k n : Nat} (X : Stand p l e R s m args below meth c T locs cells slots) (h : ({ s with heap := T.heap, slotsUsed := T.slotsUsed } : State).sameButNew ({ U with vm := s.vm } : State) L k n) : s.sameButNew ({ U with vm := s.vm } : State) (locs ++ L) (cells + k) (slots + n) := by
  refine X.same.trans ?_
  obtain ⟨e1, q⟩ := h
  refine ⟨?_, q⟩
  have e2 : ∀ F : List Frame, (T.setVm s.vm).setFrames F = ({ s.setFrames F with heap := T.heap, slotsUsed := T.slotsUsed } : State) := fun F => by
    calc (T.setVm s.vm).setFrames F = ({ s.setFrames (T.setVm s.vm).frames with heap := (T.setVm s.vm).heap, slotsUsed := (T.setVm s.vm).slotsUsed } : State).setFrames F := congrArg (fun z : State => z.setFrames F) X.same.1
      _ = ({ (s.setFrames (T.setVm s.vm).frames).setFrames F with heap := T.heap, slotsUsed := T.slotsUsed } : State) := rfl
      _ = _ := by rw [State.setFrames_setFrames]
  rw [e2]
  exact e1
variable {D : va_G} {A : Nat → Prop} {nL k n : Nat} {Q : State → Prop} {ws : va_W} {pc : Nat} {lv : List (Nat × Value)} {st : List Value} {cc : ByteArray} {own : String} {K : Nat → ClassId}
/-- behind a throw: the object x, of the exception's class; the world w1; nothing else has changed -/
def KX (D : va_G) (wc : va_W) (sz : Nat) (Post : va_W → Prop) : Array Value → State → Outcome → State → Prop :=
  fun _ st oc t => ∃ (x : Nat) (w1 : va_W) (ce : Cell) (L : List Loc), oc = .threw x ∧ Post w1 ∧ va_P D cls w1 t.heap ∧ va_D (va_A wc sz) w1 ∧ va_F (va_A wc sz) st t ∧ t.heap[x]? = some ce ∧ ce.vm = .none ∧ st.vm.findClass nse = some ce.cls ∧ st.vm.assignable ce.cls ce.cls = true ∧ st.WarmedH t.vm ∧ st.sameButNew ({ t with vm := st.vm } : State) L 1 6 ∧ ∀ q ∈ L, va_A wc sz q.base
def KPX (D : va_G) (K : Nat → ClassId) (wc : va_W) (sz : Nat) (As : List Value) : Array Value → State → Prop :=
  va_Pc As (fun U => (U.heap.size = sz ∧ va_P D cls wc U.heap ∧ va_K D cls (tk K) U ∧ va_D (fun _ => True) wc ∧ NW U) ∧ TW U)
theorem KPX_blind {wc : va_W} {sz : Nat} {As : List Value} : FrameBlind (KPX D K wc sz As) := by
  intro a U g mk q
  obtain ⟨q0, ⟨q1, qP, qK, qD, qN⟩, qT⟩ := q
  exact ⟨q0, ⟨q1, qP, va_K.moved (u := U) (U := U.calling g mk a) (Vm.Alike.refl U.vm) qK, qD, NW.same rfl qN⟩, TW.heap (u := U) (U := U.calling g mk a) rfl (fun _ _ h _ => h) qT⟩
def KtX (l : Launch) (D : va_G) (K : Nat → ClassId) (y : MethodName) (cc : ByteArray) (nL : Nat) (ret : Option FieldType) (fr lo : Nat) (As : List Value) (wc : va_W) (Post : va_W → Prop) : Prop :=
  ∀ sz : Nat, MetFree l y (headSpec (wk y cc nL ret) ({ frames := fr, cells := 1, slots := 6, locals := lo })) (KPX D K wc sz As) (fun _ _ _ _ _ => True) (KX D wc sz Post)
/-- cells of a world are no cells of statics -/
theorem va_ns {wc : va_W} {H : Heap} (hP : va_P D cls wc H) {q : Nat} {cell : Cell} (hA : va_A wc H.size q) (hc : H[q]? = some cell) : cell.vm.isStatics = false := by
  rcases hA with ⟨k, en, h⟩ | h
  · have h1 := hP k _ h
    cases en with
    | inl a =>
      have h2 : H[q]? = some (vp_cell a.1 a.2) := h1
      rw [hc] at h2
      cases h2
      obtain ⟨c0, n0, f | f | f | f | f⟩ := a <;> rfl
    | inr o =>
      obtain ⟨r, -, cell2, h2, -, h3, -⟩ := h1
      have h2 : H[q]? = some cell2 := h2
      rw [hc] at h2
      cases h2
      rw [h3]
      rfl
  · have := (Array.getElem?_eq_some_iff.mp hc).1
    omega
/-- new, dup, <init>, athrow -/
theorem v_thr (C : Cx p s m args c cc nL R_LS D K A) (htr : l.stackTraces = false) (hRf : 6 ≤ R.frames) (hRc : 1 ≤ R.cells) (hRs : 6 ≤ R.slots) (hRl : 88 ≤ R.locals) (hTW : TW s) (hns : ∀ (q : Nat) (cell : Cell), A q → s.heap[q]? = some cell → cell.vm.isStatics = false) (hlk : meth.locks = false) (hout : ∀ x ∈ c.exceptionTable.toList, ∀ pc, covers x pc = false)
    (hcl : Cond.classLink R_LS 101 nse ∈ kw) (hin : Cond.instantiable nse 6 ∈ kw) (hit : Cond.initialized nse ∈ kw)
    (d1 : decode cc pc = .ok (.new 101, 3)) (d2 : decode cc (pc + 3) = .ok (.dup, 1)) (d3 : decode cc (pc + 4) = .ok (.invokespecial 103, 3)) (d4 : decode cc (pc + 7) = .ok (.athrow, 1))
    (hq : ∀ (U : State) (x : Nat) (H : Heap) (locs : List Loc) (ce : Cell), U.status = .running → Ended U below (.threw x) → va_P D cls ws H → va_D A ws → va_S A s.heap H locs → (∀ q : Nat, q < H.size → U.heap[q]? = H[q]?) → H.size ≤ U.heap.size → U.heap[x]? = some ce → ce.vm = .none → s.vm.findClass nse = some ce.cls → s.vm.assignable ce.cls ce.cls = true → s.WarmedH U.vm → s.sameButNew ({ U with vm := s.vm } : State) locs 1 6 → Q U) :
    V p l e R s m args below meth c D A nL 0 0 Q ws pc lv [] := by
  intro H locs ls hP hD hS hl T hT X
  have htr' : e.platform.stackTraces = false := by rw [Example.NoTraceControls.admits_follows X.admits]; exact htr
  have X0 := st_rebase X (R' := { frames := R.frames, cells := 1, slots := 6, locals := R.locals }) rfl rfl (by show 0 + 1 ≤ _; omega) (by show 0 + 6 ≤ _; omega)
  have hTW0 : TW ({ s with heap := T.heap, slotsUsed := T.slotsUsed } : State) := TW.heap (u := s) rfl (fun a cell h hi => by
    show T.heap[a]? = some cell
    rw [hT, hS.2.1 a (Array.getElem?_eq_some_iff.mp h).1 (fun hA => by rw [hns a cell hA h] at hi; cases hi)]
    exact h) hTW
  have hk : ∀ w ∈ kw, w.before args ({ s with heap := T.heap, slotsUsed := T.slotsUsed } : State) = true := fun w hw => by
    have hg := kw_ok hw
    rcases hg with hg | ⟨ty, rfl⟩
    · rw [Bool.and_eq_true] at hg
      exact va_tabs (u := s) hg.1 rfl (C.hts w hw)
    · exact C.hts _ hw
  obtain ⟨vm₁, cX, kX, hfX, hkX, -, -, X₁, st1⟩ := X0.newCold C.hx (own := R_LS) (C := nse) (index := 101) (n := 6) C.hown (hk _ hcl) (hk _ hin) (hk _ hit)
    (g := F0 m pc ls []) rfl (by rw [C.hb]; exact d1) (Nat.le_refl _) (Nat.le_refl _)
  generalize hT1 : (T.setVm vm₁).pushCell { cls := cX, slots := kX.instanceTypes.map defaultValue, vm := .none } = T1 at X₁ st1
  have hcellA : T1.heap[T.heap.size]? = some (freshCell cX kX) := by rw [← hT1]; exact State.heap_pushCell_size _ _
  obtain ⟨U, hsteps, hrun, hend, hW, hsame, ce, hce, Kc⟩ := X₁.ctorThrow0 C.hx htr' (own := R_LS) (cls := nse) (names := nup) (ic := 103) C.hown (by decide +kernel) (by decide +kernel)
    (hTW0.use _) (fun y hy => by cases hy) hfX hkX hcellA (Nat.le_refl _)
    (g := F0 m (pc + 3 + 1) ls [.ref T.heap.size, .ref T.heap.size]) rfl (hl.1.trans C.hml.symm) rfl rfl (rest := []) rfl
    (by rw [C.hb]; exact d3) (by rw [C.hb]; exact d4) (fun x hx => hout x hx _) (by show 2 + 3 < R.frames; omega) (by show 2 * 0 + 1 + (13 * (2 + 1) + 41) ≤ R.locals; omega) (hlocks := hlk)
  have hs2 := same_rebase X hsame
  rw [List.append_nil] at hs2
  subst hT
  refine ⟨U, st1 _ ?_, hq U T.heap.size T.heap locs ce hrun hend hP hD hS (fun q hlt => ?_) hsame.2.1 hce Kc.vm Kc.cls Kc.self hW (by simpa using hs2)⟩
  · show Steps p.tables e below (T1.setTop (F0 m (pc + 3) ls [.ref T.heap.size])) U
    jvm_step X₁.here [X₁.here.top, C.hx, C.hb, d2, Value.category]
    exact hsteps
  · obtain ⟨cq, hcq⟩ : ∃ cq, T.heap[q]? = some cq := ⟨T.heap[q], Array.getElem?_eq_getElem hlt⟩
    obtain ⟨c', h1, h2, h3, h4⟩ := hsame.2.2.2.2.2 q cq hcq
    have h1 : U.heap[q]? = some c' := h1
    rw [h1, hcq, h2]
    have : c'.slots = cq.slots := by
      apply Array.ext_getElem?
      intro i
      exact h4 i (by simp)
    rw [this]
theorem KtX.of {y : MethodName} {ret : Option FieldType} {fr lo : Nat} {As : List Value} {wc : va_W} {Post : va_W → Prop} (htr : l.stackTraces = false) (hy : plainName y.cls = true) (hown : y.cls = R_LS) (hfr : 6 ≤ fr) (hlo : 88 ≤ lo) (hlen : (lg_sl As).length ≤ nL) {lv0 : List (Nat × Value)} (hlv : lv_args 0 As = lv0)
    (hcl : Cond.classLink R_LS 101 nse ∈ kw) (hin : Cond.instantiable nse 6 ∈ kw) (hit : Cond.initialized nse ∈ kw)
    (body : ∀ (p : Program) (e : Env) (R : Room) (s : State) (m : MethodId) (args : Array Value) (below : List Frame) (meth : Method) (c : Code) (A : Nat → Prop) (Q : State → Prop), R.frames = fr → R.locals = lo → Cx p s m args c cc nL R_LS D K A →
      (∀ (ws : va_W) (pc : Nat) (lv : List (Nat × Value)), decode cc pc = .ok (.new 101, 3) → decode cc (pc + 3) = .ok (.dup, 1) → decode cc (pc + 4) = .ok (.invokespecial 103, 3) → decode cc (pc + 7) = .ok (.athrow, 1) → Post ws → V p l e R s m args below meth c D A nL 0 0 Q ws pc lv []) → V p l e R s m args below meth c D A nL 0 0 Q wc 0 lv0 []) : KtX l D K y cc nL ret fr lo As wc Post := by
  intro sz
  subst hlv
  refine MetFree.of_bodyS (code := cc) (maxLocals := nL) (ret := ret) hy ?_ ?_
  · intro args s m h hn
    obtain ⟨meth, c, h1, h2, h3, h4, h5, h6, -, -⟩ := Cond.code_spec hn (atoms_spec (ws := wk y cc nL ret) h _ List.mem_cons_self)
    exact ⟨meth, c, h1, h2, h3, h4, h5, h6⟩
  · intro p e s m args below meth c s₁ B hml hv _
    obtain ⟨rfl, ⟨hsz, hP, hK, hD, hN⟩, hTW⟩ := hv
    have hts := atoms_spec (ws := wk y cc nL ret) B.pre
    have hown' : s.vm.findClass R_LS = some m.cls := hown ▸ findClass_of_methodNamed B.named
    have hl := lv_entry As (n := nL) hlen
    have C : Cx p s m As.toArray c cc nL R_LS D K (va_A wc sz) := ⟨B.exec, B.bytes, hml, hown', fun w hw => hts w (List.mem_cons_of_mem _ hw), hK, fun q h => Or.inr (hsz ▸ h), hN⟩
    have hcode := hts _ List.mem_cons_self
    have hout : ∀ x ∈ c.exceptionTable.toList, ∀ pc, covers x pc = false := fun x hx pc => covers_of_empty (B.noHandlers hcode) pc x hx
    have hh0 : s₁.heap = s.heap := by rw [B.state]; rfl
    obtain ⟨t, a1, o, b1, b2, b3⟩ := body p e ({ frames := fr, cells := 1, slots := 6, locals := lo }) s m _ below meth c (va_A wc sz) (fun t => ∃ o, t.status = .running ∧ Ended t below o ∧ KX D wc sz Post As.toArray s o t) rfl rfl C
      (fun ws pc lv d1 d2 d3 d4 h => v_thr C htr hfr (Nat.le_refl _) (Nat.le_refl _) hlo hTW (fun q cell hA hc => va_ns hP (by rw [hsz]; exact hA) hc) B.notSynchronized hout hcl hin hit d1 d2 d3 d4
        (fun U x H locs ce hr he hP2 hD2 hS2 ho hz hx hv hf ha hW hs => ⟨.threw x, hr, he, x, ws, ce, locs, rfl, h, hP2.kept (fun i q hq => ho q.1 (hP2 i q hq).lt), hD2, ⟨Nat.le_trans hS2.1 hz, fun q h1 h2 => (ho q (Nat.lt_of_lt_of_le h1 hS2.1)).trans (hS2.2.1 q h1 h2)⟩, hx, hv, hf, ha, hW, hs, hS2.2.2⟩))
      s.heap [] _ hP hD.self va_S.rf hl s₁ hh0 (Stand.of_body B)
    refine ⟨t, o, ?_, b1, b2, b3⟩
    rw [lg_entry_eq]
    exact a1
end TH
