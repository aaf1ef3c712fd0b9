/-! ===== BASE 6: an array of arrays of ints (multianewarray of two lengths) ===== -/
section MU
variable {E : CtlPost} {e : Env} {d : Bool} {acts : List Action} {s : State}
/-- the outer array when i of its rows stand; a row -/
def mu_o (c : ClassId) (N a i : Nat) : Cell := arrV c N (fun j => if j < i then .ref (a + 1 + j) else .null)
def mu_i (c : ClassId) (M : Nat) : Cell := arrV c M (fun _ => .int 0)
def mu_s (s : State) (cO cI : ClassId) (N M : Nat) : Nat → State
  | 0 => s.pushCell (mu_o cO N s.heap.size 0)
  | i + 1 => ((mu_s s cO cI N M i).pushCell (mu_i cI M)).setCell s.heap.size (mu_o cO N s.heap.size (i + 1))
theorem mu_o0 (c : ClassId) (N a : Nat) : ({ cls := c, slots := Array.replicate N .null } : Cell) = mu_o c N a 0 := by
  refine (arrV_new c N .null).trans ?_
  unfold mu_o
  congr 1
theorem mu_i0 (c : ClassId) (M : Nat) : ({ cls := c, slots := Array.replicate M (.int 0) } : Cell) = mu_i c M := arrV_new c M (.int 0)
theorem mu_o1 (c : ClassId) (N a i : Nat) : (mu_o c N a i).setSlot i (.ref (a + 1 + i)) = mu_o c N a (i + 1) := by
  unfold mu_o
  rw [arrV_store]
  congr 1
  funext j
  simp only [updV]
  by_cases h : j = i
  · subst h
    rw [if_pos rfl, if_pos (by omega)]
  · rw [if_neg h]
    by_cases h2 : j < i
    · rw [if_pos h2, if_pos (by omega)]
    · rw [if_neg h2, if_neg (by omega)]
theorem mu_ov (c : ClassId) (N a i : Nat) : (mu_o c N a i).vm = .none := rfl
theorem mu_oc (c : ClassId) (N a i : Nat) : (mu_o c N a i).cls = c := rfl
theorem mu_on (c : ClassId) (N a i : Nat) : (mu_o c N a i).slots.size = N := arrV_size _ _ _
theorem mu_in (c : ClassId) (M : Nat) : (mu_i c M).slots.size = M := arrV_size _ _ _
theorem mu_f (s : State) (cO cI : ClassId) (N M : Nat) : ∀ i, (mu_s s cO cI N M i).heap.size = s.heap.size + 1 + i ∧ (mu_s s cO cI N M i).heap[s.heap.size]? = some (mu_o cO N s.heap.size i) ∧ (mu_s s cO cI N M i).vm = s.vm ∧ (mu_s s cO cI N M i).slotsUsed = s.slotsUsed + N + i * M
  | 0 => ⟨by simp [mu_s], by simp [mu_s], rfl, by simp [mu_s, mu_on]⟩
  | i + 1 => by
    obtain ⟨h1, h2, h3, h4⟩ := mu_f s cO cI N M i
    have hlt : s.heap.size < (mu_s s cO cI N M i).heap.size := by omega
    have hb : ((mu_s s cO cI N M i).pushCell (mu_i cI M)).heap[s.heap.size]? = some (mu_o cO N s.heap.size i) := by rw [State.heap_pushCell_of_lt (h := hlt)]; exact h2
    refine ⟨?_, State.heap_setCell_self hb, by simp [mu_s, h3], ?_⟩
    · simp [mu_s, State.setCell, h1]
      omega
    · simp [mu_s, h4, mu_in, Nat.succ_mul]
      omega
theorem mu_t (s : State) (g : JFrame) (cO cI : ClassId) (N M : Nat) : ∀ i, mu_s (s.setTop g) cO cI N M i = (mu_s s cO cI N M i).setTop g
  | 0 => rfl
  | i + 1 => by simp only [mu_s, mu_t s g cO cI N M i, State.heap_setTop, State.pushCell_setTop, State.setCell_setTop]
theorem mu_old (s : State) (cO cI : ClassId) (N M : Nat) {q : Nat} (hq : q < s.heap.size) : ∀ i, (mu_s s cO cI N M i).heap[q]? = s.heap[q]?
  | 0 => State.heap_pushCell_of_lt _ _ hq
  | i + 1 => by
    have h1 := (mu_f s cO cI N M i).1
    have hlt : q < (mu_s s cO cI N M i).heap.size := by omega
    show (((mu_s s cO cI N M i).pushCell (mu_i cI M)).setCell s.heap.size _).heap[q]? = _
    rw [State.heap_setCell_other (show s.heap.size ≠ q by omega), State.heap_pushCell_of_lt (h := hlt)]
    exact mu_old s cO cI N M hq i
theorem mu_row (s : State) (cO cI : ClassId) (N M : Nat) : ∀ i j, j < i → (mu_s s cO cI N M i).heap[s.heap.size + 1 + j]? = some (mu_i cI M)
  | 0, j, h => by omega
  | i + 1, j, h => by
    have h1 := (mu_f s cO cI N M i).1
    show (((mu_s s cO cI N M i).pushCell (mu_i cI M)).setCell s.heap.size _).heap[s.heap.size + 1 + j]? = _
    rw [State.heap_setCell_other (show s.heap.size ≠ s.heap.size + 1 + j by omega)]
    by_cases hj : j < i
    · rw [State.heap_pushCell_of_lt (h := show s.heap.size + 1 + j < (mu_s s cO cI N M i).heap.size by omega)]
      exact mu_row s cO cI N M i j hj
    · have ej : j = i := by omega
      subst ej
      rw [← h1]
      exact State.heap_pushCell_size _ _
/-- a row is made -/
theorem mu_make1 {cI ci : ClassId} {kI : Class} {m : Int32} (hk : s.vm.classes[cI]? = some kI) (hkind : kI.kind = .array ci .int) (hm : ¬ m < 0) (hl : ¬ m.toNatClampNeg > e.platform.arrayLengthLimit) (hh : ¬ m.toNatClampNeg * componentBytes .int > e.platform.maxHeapBytes)
    (h1 : s.heap.size < e.platform.maxCells) (h2 : s.slotsUsed + m.toNatClampNeg ≤ e.platform.maxSlots) {Q : Addr → Pre} (hq : ∀ acts', Q s.heap.size d acts' (s.pushCell (mu_i cI m.toNatClampNeg))) : wp (Op.multianewarray.make cI [m]) Q E e d acts s := by
  rw [Op.multianewarray.make]
  simp only [wp_bind', W.ite, hm, if_false, wp_pure', W.theClass, hk, hkind, Option.some.injEq, exists_eq_left']
  exact W.newArray_of hk hkind hl hh h1 h2 rfl (fun acts' => by rw [show defaultValue FieldType.int = Value.int 0 from rfl, mu_i0]; exact hq acts')
theorem mu_make2 {cO cI ci : ClassId} {kO kI : Class} {n m : Int32} (hkO : s.vm.classes[cO]? = some kO) (hkindO : kO.kind = .array cI (.array .int)) (hkI : s.vm.classes[cI]? = some kI) (hkindI : kI.kind = .array ci .int) (hn : ¬ n < 0) (hm : ¬ m < 0)
    (hl1 : ¬ n.toNatClampNeg > e.platform.arrayLengthLimit) (hh1 : ¬ n.toNatClampNeg * componentBytes (.array .int) > e.platform.maxHeapBytes) (hl2 : ¬ m.toNatClampNeg > e.platform.arrayLengthLimit) (hh2 : ¬ m.toNatClampNeg * componentBytes .int > e.platform.maxHeapBytes)
    (h1 : s.heap.size + 1 + n.toNatClampNeg ≤ e.platform.maxCells) (h2 : s.slotsUsed + n.toNatClampNeg + n.toNatClampNeg * m.toNatClampNeg ≤ e.platform.maxSlots)
    {Q : Addr → Pre} (hq : ∀ d' acts', Q s.heap.size d' acts' (mu_s s cO cI n.toNatClampNeg m.toNatClampNeg n.toNatClampNeg)) : wp (Op.multianewarray.make cO [n, m]) Q E e d acts s := by
  generalize hN : n.toNatClampNeg = N at *
  generalize hM : m.toNatClampNeg = M at *
  have hfind : ([m].find? (· < 0)) = none := by simp [hm]
  rw [Op.multianewarray.make]
  simp only [wp_bind', W.ite, hn, if_false, wp_pure', W.theClass, hkO, hkindO, Option.some.injEq, exists_eq_left', hN]
  refine W.newArray_of hkO hkindO hl1 hh1 (by omega) (by have := Nat.zero_le (N * M); omega) rfl (fun acts1 => ?_)
  rw [mu_o0 cO N s.heap.size]
  simp only [hfind]
  rw [ite_self, wp_bind', Std.Legacy.Range.forIn_eq_forIn_range']
  have hsz : ([:N] : Std.Legacy.Range).size = N := by simp [Std.Legacy.Range.size]
  rw [hsz]
  show wp (forIn (List.range' 0 N 1) PUnit.unit _) _ E e d acts1 _
  refine wp_forIn_inv (fun rest s' => ∃ i, i ≤ N ∧ rest = List.range' i (N - i) ∧ s' = mu_s s cO cI N M i) _ _ ⟨0, Nat.zero_le _, rfl, rfl⟩ ?_ ?_
  · rintro x rest s' d' acts' Q' ⟨i, hi, hl, rfl⟩ hnext
    have hlt : i < N := by
      rcases Nat.lt_or_ge i N with h | h
      · exact h
      · rw [show N - i = 0 by omega] at hl
        cases hl
    rw [show N - i = (N - (i + 1)) + 1 by omega, List.range'_succ] at hl
    obtain ⟨rfl, rfl⟩ := List.cons.inj hl
    obtain ⟨f1, f2, f3, f4⟩ := mu_f s cO cI N M x
    have hmul : x * M + M ≤ N * M := by
      have := Nat.mul_le_mul_right M (show x + 1 ≤ N from hlt)
      rw [Nat.succ_mul] at this
      exact this
    have hlt0 : s.heap.size < (mu_s s cO cI N M x).heap.size := by omega
    simp only [wp_bind']
    refine mu_make1 (m := m) (by rw [f3]; exact hkI) hkindI hm (by rw [hM]; exact hl2) (by rw [hM]; exact hh2) (by omega) (by rw [hM]; omega) (fun acts2 => ?_)
    rw [hM]
    simp only [wp_bind', W.writeLoc, wp_pure']
    refine ⟨mu_o cO N s.heap.size x, by rw [State.heap_pushCell_of_lt (h := hlt0)]; exact f2, by rw [mu_ov]; simp, by rw [mu_on]; exact hlt, ?_, hnext _ _ _ ⟨x + 1, hlt, rfl, ?_⟩⟩
    · rw [mu_ov, mu_oc]
      simp [State.fitsSlot, State.slotType?, f3, hkO, hkindO, fits]
    · rw [f1, mu_o1]
      rfl
  · rintro s' d' acts' ⟨i, hi, hl, rfl⟩
    have hiN : i = N := by
      rcases Nat.lt_or_ge i N with h | h
      · rw [show N - i = (N - (i + 1)) + 1 by omega, List.range'_succ] at hl
        cases hl
      · omega
    subst hiN
    simp only [wp_pure']
    exact hq _ _
end MU
section MV
variable {p : Program} {l : Launch} {e : Env} {R : Room} {s : State} {m : MethodId} {args : Array Value} {below : List Frame} {meth : Method} {c : Code} {T : State} {locs : List Loc} {cells slots : Nat}
theorem mu_stand (X : Stand p l e R s m args below meth c T locs cells slots) (cO cI : ClassId) (N M : Nat) : ∀ i, Stand p l e R s m args below meth c (mu_s T cO cI N M i) (locs ++ (List.range i).map fun j => ⟨T.heap.size, j⟩) (cells + 1 + i) (slots + N + i * M)
  | 0 => by
    have h := X.pushed (mu_o cO N T.heap.size 0)
    rw [mu_on] at h
    simpa [mu_s] using h
  | i + 1 => by
    obtain ⟨f1, f2, f3, f4⟩ := mu_f T cO cI N M i
    have hlt : T.heap.size < (mu_s T cO cI N M i).heap.size := by omega
    have hcell : ((mu_s T cO cI N M i).pushCell (mu_i cI M)).heap[T.heap.size]? = some (mu_o cO N T.heap.size i) := by rw [State.heap_pushCell_of_lt (h := hlt)]; exact f2
    have h := ((mu_stand X cO cI N M i).pushed (mu_i cI M)).stored hcell i (.ref (T.heap.size + 1 + i))
    rw [mu_in, mu_o1] at h
    have e2 : (locs ++ (List.range (i + 1)).map fun j => (⟨T.heap.size, j⟩ : Loc)) = (locs ++ (List.range i).map fun j => (⟨T.heap.size, j⟩ : Loc)) ++ [⟨T.heap.size, i⟩] := by simp [List.range_succ, List.append_assoc]
    have e3 : slots + N + (i + 1) * M = slots + N + i * M + M := by rw [Nat.succ_mul]; omega
    rw [e2, e3]
    exact h
variable {H : Heap} {Q : State → Prop}
/-- the instruction itself -/
theorem mu_W {cc : ByteArray} (hexec : p.tables.exec = Jvm.exec) (hb : c.code = cc) {own : String} {index : Nat} (hown : s.vm.findClass own = some m.cls) (hclink : (Cond.classLink own index ("[" ++ (FieldType.array .int).toString)).before args s = true)
    (hover : (Cond.arrayOver (.array .int)).before args s = true) (harr : (Cond.arrayClass .int).before args s = true) {pc : Nat} {ls : Array Slot} (hdg : decode cc pc = .ok (.multianewarray index 2, 4)) {n k : Int32} {rest : List Value} (hn : ¬ n < 0) (hk : ¬ k < 0) (hb1 : n.toNatClampNeg * 4 ≤ 536870912) (hb2 : k.toNatClampNeg * 4 ≤ 536870912)
    (hcells : cells + (1 + n.toNatClampNeg) ≤ R.cells) (hslots : slots + (n.toNatClampNeg + n.toNatClampNeg * k.toNatClampNeg) ≤ R.slots)
    (kk : ∀ (T' : State) (cO cI : ClassId), T'.heap = H → s.vm.findClass ("[" ++ (FieldType.array .int).toString) = some cO → s.vm.findClass ("[" ++ FieldType.int.toString) = some cI →
      W p l e R s m args below meth c (mu_s T' cO cI n.toNatClampNeg k.toNatClampNeg n.toNatClampNeg).heap (locs ++ (List.range n.toNatClampNeg).map fun j => ⟨H.size, j⟩) (cells + 1 + n.toNatClampNeg) (slots + n.toNatClampNeg + n.toNatClampNeg * k.toNatClampNeg) Q (F0 m (pc + 4) ls (.ref H.size :: rest))) :
    W p l e R s m args below meth c H locs cells slots Q (F0 m pc ls (.int k :: .int n :: rest)) := by
  intro T hT X
  subst hT; subst hb
  have hpl : e.platform.magicAccessors = ({} : Platform).magicAccessors := by rw [X.admits.platform]
  obtain ⟨comp, cO, kO, hcomp, -, hkO, hkindO, hnameO⟩ := arrayOverA_spec hover
  obtain ⟨comp', kI, ci, hcomp', hkI, hkindI⟩ := Cond.arrayClass_spec harr
  have ecomp : comp' = comp := Option.some.inj (hcomp'.symm.trans hcomp)
  subst ecomp
  obtain ⟨c0, hfc0, hcl⟩ := Cond.classLink_spec hown hclink e.platform hpl
  cases hnameO.symm.trans hfc0
  obtain ⟨hg₁, hwarm₁, hready₁⟩ := State.classEntry (e := e) X.warmed hcl
  generalize T.vm.noted m.cls index (.cls cO) = vm₁ at hg₁ hwarm₁ hready₁
  have hal : s.vm.Alike vm₁ := hwarm₁.alike
  obtain ⟨kO₁, hkO₁, heO⟩ := hal.2.2 _ _ hkO
  obtain ⟨kI₁, hkI₁, heI⟩ := hal.2.2 _ _ hkI
  have hkindO₁ : kO₁.kind = .array comp' (.array .int) := by rw [heO]; exact hkindO
  have hkindI₁ : kI₁.kind = .array ci .int := by rw [heI]; exact hkindI
  have X₁ := X.noted hwarm₁
  obtain ⟨hr1, hr2⟩ := X.roomAbove hcells hslots
  have XF := mu_stand X₁ cO comp' n.toNatClampNeg k.toNatClampNeg n.toNatClampNeg
  obtain ⟨t, a1, b1⟩ := kk (T.setVm vm₁) cO comp' rfl hnameO hcomp' _ rfl XF
  refine ⟨t, ?_, b1⟩
  have hl1 : ¬ n.toNatClampNeg > e.platform.arrayLengthLimit := by rw [Launch.admits_arrayLengthLimit X.admits]; omega
  have hh1 : ¬ n.toNatClampNeg * componentBytes (.array .int) > e.platform.maxHeapBytes := by
    rw [Launch.admits_maxHeapBytes X.admits]; show ¬ n.toNatClampNeg * 4 > 536870912; omega
  have hl2 : ¬ k.toNatClampNeg > e.platform.arrayLengthLimit := by rw [Launch.admits_arrayLengthLimit X.admits]; omega
  have hh2 : ¬ k.toNatClampNeg * componentBytes .int > e.platform.maxHeapBytes := by
    rw [Launch.admits_maxHeapBytes X.admits]; show ¬ k.toNatClampNeg * 4 > 536870912; omega
  jvm_step X.here [hexec, hdg]
  simp only [Op.multianewarray.sem, wp_bind', W.resolveClassAt_links (State.method?_setTop (F0 m pc ls (.int k :: .int n :: rest)) X.here.top) hg₁]
  rw [W.popN, if_neg (by decide)]
  refine ⟨F0 m pc ls (.int k :: .int n :: rest), State.topJava?_setTop' (s := T.setVm vm₁) _ X.here.top, [.int n, .int k], rest, rfl, rfl, ?_⟩
  simp only [List.mapM_cons, List.mapM_nil, wp_bind', wp_pure']
  refine mu_make2 (kO := kO₁) (kI := kI₁) (cI := comp') (ci := ci) hkO₁ hkindO₁ hkI₁ hkindI₁ hn hk hl1 hh1 hl2 hh2 (by show T.heap.size + 1 + _ ≤ _; omega) (by show T.slotsUsed + _ + _ ≤ _; omega) (fun d' acts' => ?_)
  have eS : ((T.setTop (F0 m pc ls (.int k :: .int n :: rest))).setVm vm₁).setTop (F0 m pc ls rest) = (T.setVm vm₁).setTop (F0 m pc ls rest) := by
    show ((T.setVm vm₁).setTop _).setTop _ = _
    rw [State.setTop_setTop]
  rw [eS, mu_t]
  simp only [wp_bind', W.mark, W.pushRef, State.topJava?_setTop' _ XF.here.top, Option.some.injEq, exists_eq_left', State.setTop_setTop, State.heap_setTop]
  intro acts
  simp [jvm, XF.here.top]
  exact a1
end MV
theorem arrV_congr {c : ClassId} {N : Nat} {f g : Nat → Value} (h : ∀ j, j < N → f j = g j) : arrV c N f = arrV c N g := by
  unfold arrV
  congr 1
  apply Array.ext
  · simp
  · intro i h1 h2
    have hi : i < N := by simpa using h1
    simp [h i hi]
section VMU
variable {p : Program} {l : Launch} {e : Env} {R : Room} {s : State} {m : MethodId} {args : Array Value} {below : List Frame} {meth : Method} {c : Code} {D : va_G} {A : Nat → Prop} {nL k n : Nat} {Q : State → Prop}
variable {ws : va_W} {pc : Nat} {lv : List (Nat × Value)} {st : List Value} {cc : ByteArray} {own : String} {K : Nat → ClassId}
def wMulti (own : String) (idx : Nat) : Prop := Cond.classLink own idx ("[" ++ (FieldType.array .int).toString) ∈ kw ∧ Cond.arrayClass .int ∈ kw
theorem v_multi (C : Cx p s m args c cc nL own D K A) {N M idx : Nat} {NI MI : Int} (hw : wMulti own idx) (hNI : (N : Int) = NI) (hMI : (M : Int) = MI) (hs : N ≤ 1000 ∧ M ≤ 1000) (hR : k + (1 + N) ≤ R.cells ∧ n + (N + N * M) ≤ R.slots) (hdg : decode cc pc = .ok (.multianewarray idx 2, 4))
    (kk : ∀ a : Nat, V p l e R s m args below meth c D A nL (k + 1 + N) (n + N + N * M) Q (ws ++ ((a, .inl (K 3, N, .inr (.inr (.inr (.inr (fun j => some (a + 1 + j))))))) :: (List.range N).map (fun j => (a + 1 + j, .inl (K 0, M, .inl (zF (fun _ => 0))))))) (pc + 4) lv (.ref a :: st)) : V p l e R s m args below meth c D A nL k n Q ws pc lv (.int (zI MI) :: .int (zI NI) :: st) := by
  subst hNI; subst hMI
  obtain ⟨hs1, hs2⟩ := hs
  have hrN : rg (N : Int) := ⟨by omega, by omega⟩
  have hrM : rg (M : Int) := ⟨by omega, by omega⟩
  have eN : (zI (N : Int)).toNatClampNeg = N := zI_cl (by omega)
  have eM : (zI (M : Int)).toNatClampNeg = M := zI_cl (by omega)
  intro H locs ls hP hD hS hl
  refine mu_W C.hx C.hb C.hown (C.hts _ hw.1) (over_moved (Vm.Alike.refl _) C.hN.2) (C.hts _ hw.2) hdg (fun q => by have := (zI_lt0 hrN).mp q; omega) (fun q => by have := (zI_lt0 hrM).mp q; omega) (by rw [eN]; omega) (by rw [eM]; omega) (by rw [eN]; exact hR.1) (by rw [eN, eM]; exact hR.2) (fun T' cO cI hT' hO hI => ?_)
  rw [eN, eM]
  have eO : cO = K 3 := Option.some.inj (hO.symm.trans (C.hK.2 3 _ rfl).2)
  have eI : cI = K 0 := Option.some.inj (hI.symm.trans (C.hK.2 0 _ rfl).2)
  subst eO; subst eI
  subst hT'
  obtain ⟨f1, f2, -, -⟩ := mu_f T' (K 3) (K 0) N M N
  have hold : ∀ q : Nat, q < T'.heap.size → (mu_s T' (K 3) (K 0) N M N).heap[q]? = T'.heap[q]? := fun q hq => mu_old T' (K 3) (K 0) N M hq N
  have hrow := mu_row T' (K 3) (K 0) N M N
  generalize hH1 : (mu_s T' (K 3) (K 0) N M N).heap = H1 at f1 f2 hold hrow ⊢
  generalize hH0 : T'.heap = H at *
  have hw2 : ∀ (i : Nat) (q : Nat × va_E), ((H.size, Sum.inl (K 3, N, .inr (.inr (.inr (.inr (fun j => some (H.size + 1 + j))))))) :: (List.range N).map (fun j => (H.size + 1 + j, Sum.inl (K 0, M, .inl (zF (fun _ => 0))))) : va_W)[i]? = some q → q.1 = H.size + i ∧ va_at D cls q H1 := by
    intro i q hq
    match i, hq with
    | 0, hq =>
      cases hq
      refine ⟨rfl, ?_⟩
      show H1[H.size]? = some (vp_cell _ _)
      rw [f2]
      congr 1
      refine arrV_congr (c := K 3) (N := N) (f := fun j => if j < N then Value.ref (H.size + 1 + j) else .null) (g := fun j => va_rf (some (H.size + 1 + j))) (fun j hj => ?_)
      show (if j < N then Value.ref (H.size + 1 + j) else .null) = _
      rw [if_pos hj]
      rfl
    | i + 1, hq =>
      rw [List.getElem?_cons_succ, List.getElem?_map] at hq
      by_cases hi : i < N
      · rw [List.getElem?_range hi] at hq
        cases hq
        refine ⟨by show H.size + 1 + i = _; omega, ?_⟩
        show H1[H.size + 1 + i]? = some (vp_cell _ _)
        rw [hrow i hi]
        rfl
      · rw [List.getElem?_eq_none (by simp; omega)] at hq
        cases hq
  refine kk H.size H1 _ ls ?_ ?_ ?_ hl
  · exact (hP.kept (fun i q hq => hold q.1 (hP i q hq).lt)).app (fun i q hq => (hw2 i q hq).2)
  · refine hD.app ⟨fun i j x y hx hy hxy => ?_, fun i q hq => ?_⟩ (fun i j x y hx hy hxy => ?_)
    · have h1 := (hw2 i x hx).1
      have h2 := (hw2 j y hy).1
      omega
    · have h1 := (hw2 i q hq).1
      exact C.hA _ (by have := hS.1; omega)
    · have h1 := (hP i x hx).lt
      have h2 := (hw2 j y hy).1
      omega
  · refine ⟨by have := hS.1; omega, fun q h1 h2 => (hold q (Nat.lt_of_lt_of_le h1 hS.1)).trans (hS.2.1 q h1 h2), fun q hq => ?_⟩
    rcases List.mem_append.mp hq with h | h
    · exact hS.2.2 q h
    · obtain ⟨j, -, rfl⟩ := List.mem_map.mp h
      exact C.hA _ hS.1
end VMU
