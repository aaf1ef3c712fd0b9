/-- the array classes: ints, booleans, longs, arrays of ints -/
abbrev tk (K : Nat → ClassId) : List (ClassId × FieldType) := [(K 0, .int), (K 1, .boolean), (K 2, .long), (K 3, .array .int)]

/-! ===== BASE 2: the words, the classes ===== -/
/-- all good words of the tables -/
def kw : List Cond := lw_tbl.filter goodWord
theorem kw_in {w : Cond} (h : w ∈ lw_tbl) (hg : goodWord w = true) : w ∈ kw := List.mem_filter.mpr ⟨h, hg⟩
theorem kw_tbl {w : Cond} (h : w ∈ kw) : w ∈ lw_tbl := (List.mem_filter.mp h).1
theorem kw_ok {w : Cond} (h : w ∈ kw) : (w.onTables && w.keeps) = true ∨ ∃ ty, w = .arrayClass ty := good_of_word (List.mem_filter.mp h).2
/-- a method's words: its code, and all good words -/
def wk (y : MethodName) (cc : ByteArray) (nL : Nat) (ret : Option FieldType) : List Cond := .code y cc nL ret :: kw
theorem wk_good {y : MethodName} {cc : ByteArray} {nL : Nat} {ret : Option FieldType} (h : Cond.code y cc nL ret ∈ kw) : GoodIn kw (wk y cc nL ret) := by
  intro w hw
  rcases List.mem_cons.mp hw with rfl | hw
  · exact ⟨h, kw_ok h⟩
  · exact ⟨hw, kw_ok hw⟩

/-- the words of calls between nest mates, which are no good words: they are carried along -/
def nW : List (String × Nat × MethodName × String) := nestW
def NW (U : State) : Prop := (∀ w ∈ nW, va_Nw (.methodLinkNest w.1 w.2.1 w.2.2.1 w.2.2.2) U) ∧ (Cond.arrayOver (.array .int)).before #[] U = true
theorem NW.warm {s U : State} (hW : s.WarmedH U.vm) (h : NW s) : NW U := ⟨fun w hw => va_Nw.warmM hW (h.1 w hw), over_moved hW.alike h.2⟩
theorem NW.same {s U : State} (hv : s.vm = U.vm) (h : NW s) : NW U := ⟨fun w hw => va_Nw.same rfl hv (h.1 w hw), over_moved (hv ▸ Vm.Alike.refl s.vm) h.2⟩

/-! ===== BASE 3: one judgement for a walk ===== -/
section VW
variable {p : Program} {l : Launch} {e : Env} {R : Room} {s : State} {m : MethodId} {args : Array Value} {below : List Frame} {meth : Method} {c : Code} {D : va_G} {A : Nat → Prop} {nL k n : Nat} {Q : State → Prop}
variable {ws : va_W} {pc : Nat} {lv : List (Nat × Value)} {st : List Value} {cc : ByteArray} {own : String} {K : Nat → ClassId}
/-- from every heap that holds the world ws, at pc, with these locals and this stack, the machine comes to Q -/
def V (p : Program) (l : Launch) (e : Env) (R : Room) (s : State) (m : MethodId) (args : Array Value) (below : List Frame) (meth : Method) (c : Code) (D : va_G) (A : Nat → Prop) (nL k n : Nat) (Q : State → Prop) (ws : va_W) (pc : Nat) (lv : List (Nat × Value)) (st : List Value) : Prop :=
  ∀ (H : Heap) (locs : List Loc) (ls : Array Slot), va_P D cls ws H → va_D A ws → va_S A s.heap H locs → lv_has ls nL lv → W p l e R s m args below meth c H locs k n Q (F0 m pc ls st)
/-- what stays along a walk -/
def Cx (p : Program) (s : State) (m : MethodId) (args : Array Value) (c : Code) (cc : ByteArray) (nL : Nat) (own : String) (D : va_G) (K : Nat → ClassId) (A : Nat → Prop) : Prop :=
  p.tables.exec = Jvm.exec ∧ c.code = cc ∧ c.maxLocals = nL ∧ s.vm.findClass own = some m.cls ∧ (∀ w ∈ kw, w.before args s = true) ∧ va_K D cls (tk K) s ∧ (∀ q, s.heap.size ≤ q → A q) ∧ NW s
theorem Cx.hx (C : Cx p s m args c cc nL own D K A) : p.tables.exec = Jvm.exec := C.1
theorem Cx.hb (C : Cx p s m args c cc nL own D K A) : c.code = cc := C.2.1
theorem Cx.hml (C : Cx p s m args c cc nL own D K A) : c.maxLocals = nL := C.2.2.1
theorem Cx.hown (C : Cx p s m args c cc nL own D K A) : s.vm.findClass own = some m.cls := C.2.2.2.1
theorem Cx.hts (C : Cx p s m args c cc nL own D K A) : ∀ w ∈ kw, w.before args s = true := C.2.2.2.2.1
theorem Cx.hK (C : Cx p s m args c cc nL own D K A) : va_K D cls (tk K) s := C.2.2.2.2.2.1
theorem Cx.hA (C : Cx p s m args c cc nL own D K A) : ∀ q, s.heap.size ≤ q → A q := C.2.2.2.2.2.2.1
theorem Cx.hN (C : Cx p s m args c cc nL own D K A) : NW s := C.2.2.2.2.2.2.2
-- constants, locals
theorem v_iconst (C : Cx p s m args c cc nL own D K A) {i : Int} (hdg : decode cc pc = .ok (.iconst i, 1)) (kk : V p l e R s m args below meth c D A nL k n Q ws (pc + 1) lv (.int (zI i) :: st)) : V p l e R s m args below meth c D A nL k n Q ws pc lv st :=
  fun H locs ls hP hD hS hl => lv_iconst C.hx C.hb hdg rfl (kk H locs ls hP hD hS hl)
theorem v_bipush (C : Cx p s m args c cc nL own D K A) {i : Int} (hdg : decode cc pc = .ok (.bipush i, 2)) (hv : (Int8.ofInt i).toInt32 = zI i) (kk : V p l e R s m args below meth c D A nL k n Q ws (pc + 2) lv (.int (zI i) :: st)) : V p l e R s m args below meth c D A nL k n Q ws pc lv st :=
  fun H locs ls hP hD hS hl => lv_bipush C.hx C.hb hdg hv (kk H locs ls hP hD hS hl)
theorem v_sipush (C : Cx p s m args c cc nL own D K A) {i : Int} (hdg : decode cc pc = .ok (.sipush i, 3)) (hv : (Int16.ofInt i).toInt32 = zI i) (kk : V p l e R s m args below meth c D A nL k n Q ws (pc + 3) lv (.int (zI i) :: st)) : V p l e R s m args below meth c D A nL k n Q ws pc lv st :=
  fun H locs ls hP hD hS hl => lv_sipush C.hx C.hb hdg hv (kk H locs ls hP hD hS hl)
theorem v_iload_n (C : Cx p s m args c cc nL own D K A) {f : Fin 4} {i : Nat} {x : Int32} (hdg : decode cc pc = .ok (.iload_n f, 1)) (hi : (f : Nat) = i) (j : Nat) (hj : lv[j]? = some (i, .int x)) (kk : V p l e R s m args below meth c D A nL k n Q ws (pc + 1) lv (.int x :: st)) : V p l e R s m args below meth c D A nL k n Q ws pc lv st :=
  fun H locs ls hP hD hS hl => lv_iload_n C.hx C.hb hdg hi (lv_at hl j hj) (kk H locs ls hP hD hS hl)
theorem v_iload (C : Cx p s m args c cc nL own D K A) {i : Nat} {x : Int32} (hdg : decode cc pc = .ok (.iload i, 2)) (j : Nat) (hj : lv[j]? = some (i, .int x)) (kk : V p l e R s m args below meth c D A nL k n Q ws (pc + 2) lv (.int x :: st)) : V p l e R s m args below meth c D A nL k n Q ws pc lv st :=
  fun H locs ls hP hD hS hl => lv_iload C.hx C.hb hdg (lv_at hl j hj) (kk H locs ls hP hD hS hl)
theorem v_aload_n (C : Cx p s m args c cc nL own D K A) {f : Fin 4} {i : Nat} {x : Nat} (hdg : decode cc pc = .ok (.aload_n f, 1)) (hi : (f : Nat) = i) (j : Nat) (hj : lv[j]? = some (i, .ref x)) (kk : V p l e R s m args below meth c D A nL k n Q ws (pc + 1) lv (.ref x :: st)) : V p l e R s m args below meth c D A nL k n Q ws pc lv st :=
  fun H locs ls hP hD hS hl => lv_aload_n C.hx C.hb hdg hi (lv_at hl j hj) (kk H locs ls hP hD hS hl)
theorem v_lload_n (C : Cx p s m args c cc nL own D K A) {f : Fin 4} {i : Nat} {x : Int64} (hdg : decode cc pc = .ok (.lload_n f, 1)) (hi : (f : Nat) = i) (j : Nat) (hj : lv[j]? = some (i, .long x)) (kk : V p l e R s m args below meth c D A nL k n Q ws (pc + 1) lv (.long x :: st)) : V p l e R s m args below meth c D A nL k n Q ws pc lv st :=
  fun H locs ls hP hD hS hl => lv_lload_n C.hx C.hb hdg hi (lv_at hl j hj) (kk H locs ls hP hD hS hl)
theorem v_lload (C : Cx p s m args c cc nL own D K A) {i : Nat} {x : Int64} (hdg : decode cc pc = .ok (.lload i, 2)) (j : Nat) (hj : lv[j]? = some (i, .long x)) (kk : V p l e R s m args below meth c D A nL k n Q ws (pc + 2) lv (.long x :: st)) : V p l e R s m args below meth c D A nL k n Q ws pc lv st :=
  fun H locs ls hP hD hS hl => lv_lload C.hx C.hb hdg (lv_at hl j hj) (kk H locs ls hP hD hS hl)
theorem v_istore_n (C : Cx p s m args c cc nL own D K A) {f : Fin 4} {i : Nat} {x : Int32} {lv' : List (Nat × Value)} (hdg : decode cc pc = .ok (.istore_n f, 1)) (hi : (f : Nat) = i) (hn : i < nL) (ks : List Nat) (hl' : lv_pick ((i, Value.int x) :: lv.filter (fun q => !(q.1 == i) && !(q.1 + 1 == i && q.2.category == 2))) ks = lv') (kk : V p l e R s m args below meth c D A nL k n Q ws (pc + 1) lv' st) : V p l e R s m args below meth c D A nL k n Q ws pc lv (.int x :: st) :=
  fun H locs ls hP hD hS hl => lv_istore_n C.hx C.hb hdg hi hl hn rfl (fun ls' h' => kk H locs ls' hP hD hS (lv_sub h' ks hl'))
theorem v_istore (C : Cx p s m args c cc nL own D K A) {i : Nat} {x : Int32} {lv' : List (Nat × Value)} (hdg : decode cc pc = .ok (.istore i, 2)) (hn : i < nL) (ks : List Nat) (hl' : lv_pick ((i, Value.int x) :: lv.filter (fun q => !(q.1 == i) && !(q.1 + 1 == i && q.2.category == 2))) ks = lv') (kk : V p l e R s m args below meth c D A nL k n Q ws (pc + 2) lv' st) : V p l e R s m args below meth c D A nL k n Q ws pc lv (.int x :: st) :=
  fun H locs ls hP hD hS hl => lv_istore C.hx C.hb hdg hl hn rfl (fun ls' h' => kk H locs ls' hP hD hS (lv_sub h' ks hl'))
theorem v_lstore (C : Cx p s m args c cc nL own D K A) {i : Nat} {x : Int64} {lv' : List (Nat × Value)} (hdg : decode cc pc = .ok (.lstore i, 2)) (hn : i + 1 < nL) (ks : List Nat) (hl' : lv_pick ((i, Value.long x) :: lv.filter (fun q => !(q.1 == i) && (!(q.1 == i + 1) && !(q.1 + 1 == i && q.2.category == 2)))) ks = lv') (kk : V p l e R s m args below meth c D A nL k n Q ws (pc + 2) lv' st) : V p l e R s m args below meth c D A nL k n Q ws pc lv (.long x :: st) :=
  fun H locs ls hP hD hS hl => lv_lstore C.hx C.hb hdg hl hn rfl (fun ls' h' => kk H locs ls' hP hD hS (lv_sub h' ks hl'))
theorem v_iinc (C : Cx p s m args c cc nL own D K A) {i : Nat} {d x : Int} {lv' : List (Nat × Value)} (hdg : decode cc pc = .ok (.iinc i d, 3)) (j : Nat) (hj : lv[j]? = some (i, .int (zI x))) (hn : i < nL) (z : Int) (hz : x + d = z) (ks : List Nat) (hl' : lv_pick ((i, Value.int (zI z)) :: lv.filter (fun q => !(q.1 == i) && !(q.1 + 1 == i && q.2.category == 2))) ks = lv') (kk : V p l e R s m args below meth c D A nL k n Q ws (pc + 3) lv' st) : V p l e R s m args below meth c D A nL k n Q ws pc lv st :=
  fun H locs ls hP hD hS hl => lv_iinc C.hx C.hb hdg hl hj (by rw [← hz]; exact zI_add x d) hn rfl (fun ls' h' => kk H locs ls' hP hD hS (lv_sub h' ks hl'))
-- arithmetic in whole numbers
theorem v_iadd (C : Cx p s m args c cc nL own D K A) {a b : Int} (hdg : decode cc pc = .ok (.iadd, 1)) (z : Int) (hz : a + b = z) (kk : V p l e R s m args below meth c D A nL k n Q ws (pc + 1) lv (.int (zI z) :: st)) : V p l e R s m args below meth c D A nL k n Q ws pc lv (.int (zI b) :: .int (zI a) :: st) :=
  fun H locs ls hP hD hS hl => lv_iadd C.hx C.hb hdg (by rw [zI_add, hz]; exact kk H locs ls hP hD hS hl)
theorem v_isub (C : Cx p s m args c cc nL own D K A) {a b : Int} (hdg : decode cc pc = .ok (.isub, 1)) (z : Int) (hz : a - b = z) (kk : V p l e R s m args below meth c D A nL k n Q ws (pc + 1) lv (.int (zI z) :: st)) : V p l e R s m args below meth c D A nL k n Q ws pc lv (.int (zI b) :: .int (zI a) :: st) :=
  fun H locs ls hP hD hS hl => lv_isub C.hx C.hb hdg (by rw [zI_sub, hz]; exact kk H locs ls hP hD hS hl)
theorem v_imul (C : Cx p s m args c cc nL own D K A) {a b : Int} (hdg : decode cc pc = .ok (.imul, 1)) (z : Int) (hz : a * b = z) (kk : V p l e R s m args below meth c D A nL k n Q ws (pc + 1) lv (.int (zI z) :: st)) : V p l e R s m args below meth c D A nL k n Q ws pc lv (.int (zI b) :: .int (zI a) :: st) :=
  fun H locs ls hP hD hS hl => lv_imul C.hx C.hb hdg (by rw [zI_mul, hz]; exact kk H locs ls hP hD hS hl)
theorem v_ineg (C : Cx p s m args c cc nL own D K A) {a : Int} (hdg : decode cc pc = .ok (.ineg, 1)) (kk : V p l e R s m args below meth c D A nL k n Q ws (pc + 1) lv (.int (zI (-a)) :: st)) : V p l e R s m args below meth c D A nL k n Q ws pc lv (.int (zI a) :: st) :=
  fun H locs ls hP hD hS hl => lv_ineg C.hx C.hb hdg (by rw [zI_neg]; exact kk H locs ls hP hD hS hl)
/-- another name for what lies on top -/
theorem v_top (C : Cx p s m args c cc nL own D K A) {x : Int32} (y : Int32) (h : x = y) (kk : V p l e R s m args below meth c D A nL k n Q ws pc lv (.int y :: st)) : V p l e R s m args below meth c D A nL k n Q ws pc lv (.int x :: st) := h ▸ kk
-- branches
theorem v_goto (C : Cx p s m args c cc nL own D K A) {off : Int} {tgt : Nat} (hdg : decode cc pc = .ok (.goto off, 3)) (ht : (pc : Int) + off = (tgt : Int)) (kk : V p l e R s m args below meth c D A nL k n Q ws tgt lv st) : V p l e R s m args below meth c D A nL k n Q ws pc lv st :=
  fun H locs ls hP hD hS hl => lv_goto C.hx C.hb hdg ht (kk H locs ls hP hD hS hl)
theorem v_icmp_eq (C : Cx p s m args c cc nL own D K A) {a b : Int} {off : Int} {tgt : Nat} (hdg : decode cc pc = .ok (.if_icmp .eq off, 3)) (ht : (pc : Int) + off = (tgt : Int)) (ra : rg a) (rb : rg b) (kt : a = b → V p l e R s m args below meth c D A nL k n Q ws tgt lv st) (kf : a ≠ b → V p l e R s m args below meth c D A nL k n Q ws (pc + 3) lv st) : V p l e R s m args below meth c D A nL k n Q ws pc lv (.int (zI b) :: .int (zI a) :: st) :=
  fun H locs ls hP hD hS hl => lv_icmp_eq C.hx C.hb hdg ht (fun h => kt ((zI_eq ra rb).mp h) H locs ls hP hD hS hl) (fun h => kf (fun q => h ((zI_eq ra rb).mpr q)) H locs ls hP hD hS hl)
theorem v_icmp_ne (C : Cx p s m args c cc nL own D K A) {a b : Int} {off : Int} {tgt : Nat} (hdg : decode cc pc = .ok (.if_icmp .ne off, 3)) (ht : (pc : Int) + off = (tgt : Int)) (ra : rg a) (rb : rg b) (kt : a ≠ b → V p l e R s m args below meth c D A nL k n Q ws tgt lv st) (kf : a = b → V p l e R s m args below meth c D A nL k n Q ws (pc + 3) lv st) : V p l e R s m args below meth c D A nL k n Q ws pc lv (.int (zI b) :: .int (zI a) :: st) :=
  fun H locs ls hP hD hS hl => lv_icmp_ne C.hx C.hb hdg ht (fun h => kt (fun q => h ((zI_eq ra rb).mpr q)) H locs ls hP hD hS hl) (fun h => kf ((zI_eq ra rb).mp h) H locs ls hP hD hS hl)
theorem v_icmp_lt (C : Cx p s m args c cc nL own D K A) {a b : Int} {off : Int} {tgt : Nat} (hdg : decode cc pc = .ok (.if_icmp .lt off, 3)) (ht : (pc : Int) + off = (tgt : Int)) (ra : rg a) (rb : rg b) (kt : a < b → V p l e R s m args below meth c D A nL k n Q ws tgt lv st) (kf : b ≤ a → V p l e R s m args below meth c D A nL k n Q ws (pc + 3) lv st) : V p l e R s m args below meth c D A nL k n Q ws pc lv (.int (zI b) :: .int (zI a) :: st) :=
  fun H locs ls hP hD hS hl => lv_icmp_lt C.hx C.hb hdg ht (fun h => kt ((zI_lt ra rb).mp h) H locs ls hP hD hS hl) (fun h => kf (Int.not_lt.mp (fun q => h ((zI_lt ra rb).mpr q))) H locs ls hP hD hS hl)
theorem v_icmp_ge (C : Cx p s m args c cc nL own D K A) {a b : Int} {off : Int} {tgt : Nat} (hdg : decode cc pc = .ok (.if_icmp .ge off, 3)) (ht : (pc : Int) + off = (tgt : Int)) (ra : rg a) (rb : rg b) (kt : b ≤ a → V p l e R s m args below meth c D A nL k n Q ws tgt lv st) (kf : a < b → V p l e R s m args below meth c D A nL k n Q ws (pc + 3) lv st) : V p l e R s m args below meth c D A nL k n Q ws pc lv (.int (zI b) :: .int (zI a) :: st) :=
  fun H locs ls hP hD hS hl => lv_icmp_ge C.hx C.hb hdg ht (fun h => kt ((zI_le rb ra).mp h) H locs ls hP hD hS hl) (fun h => kf (Int.not_le.mp (fun q => h ((zI_le rb ra).mpr q))) H locs ls hP hD hS hl)
theorem v_icmp_gt (C : Cx p s m args c cc nL own D K A) {a b : Int} {off : Int} {tgt : Nat} (hdg : decode cc pc = .ok (.if_icmp .gt off, 3)) (ht : (pc : Int) + off = (tgt : Int)) (ra : rg a) (rb : rg b) (kt : b < a → V p l e R s m args below meth c D A nL k n Q ws tgt lv st) (kf : a ≤ b → V p l e R s m args below meth c D A nL k n Q ws (pc + 3) lv st) : V p l e R s m args below meth c D A nL k n Q ws pc lv (.int (zI b) :: .int (zI a) :: st) :=
  fun H locs ls hP hD hS hl => lv_icmp_gt C.hx C.hb hdg ht (fun h => kt ((zI_lt rb ra).mp h) H locs ls hP hD hS hl) (fun h => kf (Int.not_lt.mp (fun q => h ((zI_lt rb ra).mpr q))) H locs ls hP hD hS hl)
theorem v_icmp_le (C : Cx p s m args c cc nL own D K A) {a b : Int} {off : Int} {tgt : Nat} (hdg : decode cc pc = .ok (.if_icmp .le off, 3)) (ht : (pc : Int) + off = (tgt : Int)) (ra : rg a) (rb : rg b) (kt : a ≤ b → V p l e R s m args below meth c D A nL k n Q ws tgt lv st) (kf : b < a → V p l e R s m args below meth c D A nL k n Q ws (pc + 3) lv st) : V p l e R s m args below meth c D A nL k n Q ws pc lv (.int (zI b) :: .int (zI a) :: st) :=
  fun H locs ls hP hD hS hl => lv_icmp_le C.hx C.hb hdg ht (fun h => kt ((zI_le ra rb).mp h) H locs ls hP hD hS hl) (fun h => kf (Int.not_le.mp (fun q => h ((zI_le ra rb).mpr q))) H locs ls hP hD hS hl)
theorem v_if_eq (C : Cx p s m args c cc nL own D K A) {a : Int} {off : Int} {tgt : Nat} (hdg : decode cc pc = .ok (.ifCond .eq off, 3)) (ht : (pc : Int) + off = (tgt : Int)) (ra : rg a) (kt : a = 0 → V p l e R s m args below meth c D A nL k n Q ws tgt lv st) (kf : a ≠ 0 → V p l e R s m args below meth c D A nL k n Q ws (pc + 3) lv st) : V p l e R s m args below meth c D A nL k n Q ws pc lv (.int (zI a) :: st) :=
  fun H locs ls hP hD hS hl => lv_if_eq C.hx C.hb hdg ht (fun h => kt ((zI_eq0 ra).mp h) H locs ls hP hD hS hl) (fun h => kf (fun q => h ((zI_eq0 ra).mpr q)) H locs ls hP hD hS hl)
theorem v_if_ne (C : Cx p s m args c cc nL own D K A) {a : Int} {off : Int} {tgt : Nat} (hdg : decode cc pc = .ok (.ifCond .ne off, 3)) (ht : (pc : Int) + off = (tgt : Int)) (ra : rg a) (kt : a ≠ 0 → V p l e R s m args below meth c D A nL k n Q ws tgt lv st) (kf : a = 0 → V p l e R s m args below meth c D A nL k n Q ws (pc + 3) lv st) : V p l e R s m args below meth c D A nL k n Q ws pc lv (.int (zI a) :: st) :=
  fun H locs ls hP hD hS hl => lv_if_ne C.hx C.hb hdg ht (fun h => kt (fun q => h ((zI_eq0 ra).mpr q)) H locs ls hP hD hS hl) (fun h => kf ((zI_eq0 ra).mp h) H locs ls hP hD hS hl)
theorem v_if_lt (C : Cx p s m args c cc nL own D K A) {a : Int} {off : Int} {tgt : Nat} (hdg : decode cc pc = .ok (.ifCond .lt off, 3)) (ht : (pc : Int) + off = (tgt : Int)) (ra : rg a) (kt : a < 0 → V p l e R s m args below meth c D A nL k n Q ws tgt lv st) (kf : 0 ≤ a → V p l e R s m args below meth c D A nL k n Q ws (pc + 3) lv st) : V p l e R s m args below meth c D A nL k n Q ws pc lv (.int (zI a) :: st) :=
  fun H locs ls hP hD hS hl => lv_if_lt C.hx C.hb hdg ht (fun h => kt ((zI_lt0 ra).mp h) H locs ls hP hD hS hl) (fun h => kf (Int.not_lt.mp (fun q => h ((zI_lt0 ra).mpr q))) H locs ls hP hD hS hl)
theorem v_if_ge (C : Cx p s m args c cc nL own D K A) {a : Int} {off : Int} {tgt : Nat} (hdg : decode cc pc = .ok (.ifCond .ge off, 3)) (ht : (pc : Int) + off = (tgt : Int)) (ra : rg a) (kt : 0 ≤ a → V p l e R s m args below meth c D A nL k n Q ws tgt lv st) (kf : a < 0 → V p l e R s m args below meth c D A nL k n Q ws (pc + 3) lv st) : V p l e R s m args below meth c D A nL k n Q ws pc lv (.int (zI a) :: st) :=
  fun H locs ls hP hD hS hl => lv_if_ge C.hx C.hb hdg ht (fun h => kt ((zI_0le ra).mp h) H locs ls hP hD hS hl) (fun h => kf (Int.not_le.mp (fun q => h ((zI_0le ra).mpr q))) H locs ls hP hD hS hl)
theorem v_if_gt (C : Cx p s m args c cc nL own D K A) {a : Int} {off : Int} {tgt : Nat} (hdg : decode cc pc = .ok (.ifCond .gt off, 3)) (ht : (pc : Int) + off = (tgt : Int)) (ra : rg a) (kt : 0 < a → V p l e R s m args below meth c D A nL k n Q ws tgt lv st) (kf : a ≤ 0 → V p l e R s m args below meth c D A nL k n Q ws (pc + 3) lv st) : V p l e R s m args below meth c D A nL k n Q ws pc lv (.int (zI a) :: st) :=
  fun H locs ls hP hD hS hl => lv_if_gt C.hx C.hb hdg ht (fun h => kt ((zI_0lt ra).mp h) H locs ls hP hD hS hl) (fun h => kf (Int.not_lt.mp (fun q => h ((zI_0lt ra).mpr q))) H locs ls hP hD hS hl)
theorem v_if_le (C : Cx p s m args c cc nL own D K A) {a : Int} {off : Int} {tgt : Nat} (hdg : decode cc pc = .ok (.ifCond .le off, 3)) (ht : (pc : Int) + off = (tgt : Int)) (ra : rg a) (kt : a ≤ 0 → V p l e R s m args below meth c D A nL k n Q ws tgt lv st) (kf : 0 < a → V p l e R s m args below meth c D A nL k n Q ws (pc + 3) lv st) : V p l e R s m args below meth c D A nL k n Q ws pc lv (.int (zI a) :: st) :=
  fun H locs ls hP hD hS hl => lv_if_le C.hx C.hb hdg ht (fun h => kt ((zI_le0 ra).mp h) H locs ls hP hD hS hl) (fun h => kf (Int.not_le.mp (fun q => h ((zI_le0 ra).mpr q))) H locs ls hP hD hS hl)
-- the stack
theorem v_dup (C : Cx p s m args c cc nL own D K A) {v : Value} (hdg : decode cc pc = .ok (.dup, 1)) (hv : v.category = 1) (kk : V p l e R s m args below meth c D A nL k n Q ws (pc + 1) lv (v :: v :: st)) : V p l e R s m args below meth c D A nL k n Q ws pc lv (v :: st) :=
  fun H locs ls hP hD hS hl => lv_dup C.hx C.hb hdg hv (kk H locs ls hP hD hS hl)
theorem v_pop (C : Cx p s m args c cc nL own D K A) {v : Value} (hdg : decode cc pc = .ok (.pop, 1)) (hv : v.category = 1) (kk : V p l e R s m args below meth c D A nL k n Q ws (pc + 1) lv st) : V p l e R s m args below meth c D A nL k n Q ws pc lv (v :: st) :=
  fun H locs ls hP hD hS hl => lv_pop C.hx C.hb hdg hv (kk H locs ls hP hD hS hl)
theorem v_dup2 (C : Cx p s m args c cc nL own D K A) {v w : Value} (hdg : decode cc pc = .ok (.dup2, 1)) (hv : v.category = 1) (hw : w.category = 1) (kk : V p l e R s m args below meth c D A nL k n Q ws (pc + 1) lv (v :: w :: v :: w :: st)) : V p l e R s m args below meth c D A nL k n Q ws pc lv (v :: w :: st) :=
  fun H locs ls hP hD hS hl => lv_dup2_11 C.hx C.hb hdg hv hw (kk H locs ls hP hD hS hl)
-- fields
theorem v_get (C : Cx p s m args c cc nL own D K A) {C' : String} {F : u_T} {N ci idx a : Nat} {fs : List Value} {v : Value} (hin : ∀ w ∈ u_ws C' F N, w ∈ kw) (q0 : Nat) (he : ws[q0]? = some (a, .inr (ci, fs))) (hc : cls[ci]? = some (C', F, N)) (j : Nat) (hj : j < N) (hlk : Cond.fieldLink own idx (F j).1 (F j).2.1 (F j).2.2.1 ∈ kw) (hv : fs[j]? = some v) (hdg : decode cc pc = .ok (.getfield idx, 3)) (kk : V p l e R s m args below meth c D A nL k n Q ws (pc + 3) lv (v :: st)) : V p l e R s m args below meth c D A nL k n Q ws pc lv (.ref a :: st) :=
  fun H locs ls hP hD hS hl => va_get C.hx C.hb C.hts hin C.hown C.hK hP q0 he hc j hj (C.hts _ hlk) (fun _ h => h) hv hdg (kk H locs ls hP hD hS hl)
theorem v_puti (C : Cx p s m args c cc nL own D K A) {C' : String} {F : u_T} {N ci idx a : Nat} {fs : List Value} {x : Int32} {ws' : va_W} (hin : ∀ w ∈ u_ws C' F N, w ∈ kw) (ty0 : Nat → FieldType) (hty : ∀ k, k < N → parseFieldDescriptor (F k).2.2.1 = some (ty0 k)) (hnm : ∀ a, a < N → ∀ b, b < N → a ≠ b → (F a).2.1 ≠ (F b).2.1) (q0 : Nat) (he : ws[q0]? = some (a, .inr (ci, fs))) (hc : cls[ci]? = some (C', F, N)) (j : Nat) (hj : j < N) (hlk : Cond.fieldLink own idx (F j).1 (F j).2.1 (F j).2.2.1 ∈ kw) (hfin : (F j).2.2.2 = false) (hd : parseFieldDescriptor (F j).2.2.1 = some .int) (hlen : j < fs.length) (hset : ws.set q0 (a, .inr (ci, fs.set j (.int x))) = ws') (hdg : decode cc pc = .ok (.putfield idx, 3)) (kk : V p l e R s m args below meth c D A nL k n Q ws' (pc + 3) lv st) : V p l e R s m args below meth c D A nL k n Q ws pc lv (.int x :: .ref a :: st) :=
  fun H locs ls hP hD hS hl => va_put C.hx C.hb C.hts hin ty0 hty hnm C.hown C.hK hP hD hS q0 he hc j hj (C.hts _ hlk) (fun _ h => h) hfin hd rfl rfl hlen hdg (fun H1 locs1 hP1 hD1 hS1 => kk H1 locs1 ls (hset ▸ hP1) (hset ▸ hD1) hS1 hl)
-- constants
theorem v_ldc (C : Cx p s m args c cc nL own D K A) {i : Int} {idx : Nat} (hw : Cond.constant own idx (zI i) ∈ kw) (hdg : decode cc pc = .ok (.ldc idx, 2)) (kk : V p l e R s m args below meth c D A nL k n Q ws (pc + 2) lv (.int (zI i) :: st)) : V p l e R s m args below meth c D A nL k n Q ws pc lv st :=
  fun H locs ls hP hD hS hl => lv_ldc C.hx C.hb C.hown (C.hts _ hw) hdg (kk H locs ls hP hD hS hl)
theorem v_ldcw (C : Cx p s m args c cc nL own D K A) {i : Int} {idx : Nat} (hw : Cond.constant own idx (zI i) ∈ kw) (hdg : decode cc pc = .ok (.ldc_w idx, 3)) (kk : V p l e R s m args below meth c D A nL k n Q ws (pc + 3) lv (.int (zI i) :: st)) : V p l e R s m args below meth c D A nL k n Q ws pc lv st :=
  fun H locs ls hP hD hS hl => lv_ldcw C.hx C.hb C.hown (C.hts _ hw) hdg (kk H locs ls hP hD hS hl)
theorem v_ldc2 (C : Cx p s m args c cc nL own D K A) {i : Int} {idx : Nat} (hw : Cond.constantLong own idx (lI i) ∈ kw) (hdg : decode cc pc = .ok (.ldc2_w idx, 3)) (kk : V p l e R s m args below meth c D A nL k n Q ws (pc + 3) lv (.long (lI i) :: st)) : V p l e R s m args below meth c D A nL k n Q ws pc lv st :=
  fun H locs ls hP hD hS hl => lv_ldc2 C.hx C.hb C.hown (C.hts _ hw) hdg (kk H locs ls hP hD hS hl)
theorem v_lconst (C : Cx p s m args c cc nL own D K A) {f : Fin 2} {i : Int} (hdg : decode cc pc = .ok (.lconst f, 1)) (hv : Int64.ofNat (f : Nat) = lI i) (kk : V p l e R s m args below meth c D A nL k n Q ws (pc + 1) lv (.long (lI i) :: st)) : V p l e R s m args below meth c D A nL k n Q ws pc lv st :=
  fun H locs ls hP hD hS hl => lv_lconst C.hx C.hb hdg hv (kk H locs ls hP hD hS hl)
-- bits, shifts, division
theorem v_iand (C : Cx p s m args c cc nL own D K A) {a b : Int} (hdg : decode cc pc = .ok (.iand, 1)) (kk : V p l e R s m args below meth c D A nL k n Q ws (pc + 1) lv (.int (zI (iand a b)) :: st)) : V p l e R s m args below meth c D A nL k n Q ws pc lv (.int (zI b) :: .int (zI a) :: st) :=
  fun H locs ls hP hD hS hl => lv_iand C.hx C.hb hdg (by rw [zI_and]; exact kk H locs ls hP hD hS hl)
theorem v_ior (C : Cx p s m args c cc nL own D K A) {a b : Int} (hdg : decode cc pc = .ok (.ior, 1)) (kk : V p l e R s m args below meth c D A nL k n Q ws (pc + 1) lv (.int (zI (ior a b)) :: st)) : V p l e R s m args below meth c D A nL k n Q ws pc lv (.int (zI b) :: .int (zI a) :: st) :=
  fun H locs ls hP hD hS hl => lv_ior C.hx C.hb hdg (by rw [zI_or]; exact kk H locs ls hP hD hS hl)
theorem v_ixor (C : Cx p s m args c cc nL own D K A) {a b : Int} (hdg : decode cc pc = .ok (.ixor, 1)) (kk : V p l e R s m args below meth c D A nL k n Q ws (pc + 1) lv (.int (zI (ixor a b)) :: st)) : V p l e R s m args below meth c D A nL k n Q ws pc lv (.int (zI b) :: .int (zI a) :: st) :=
  fun H locs ls hP hD hS hl => lv_ixor C.hx C.hb hdg (by rw [zI_xor]; exact kk H locs ls hP hD hS hl)
theorem v_inot (C : Cx p s m args c cc nL own D K A) {a : Int} (hdg : decode cc pc = .ok (.ixor, 1)) (kk : V p l e R s m args below meth c D A nL k n Q ws (pc + 1) lv (.int (zI (-1 - a)) :: st)) : V p l e R s m args below meth c D A nL k n Q ws pc lv (.int (zI (-1)) :: .int (zI a) :: st) :=
  fun H locs ls hP hD hS hl => lv_ixor C.hx C.hb hdg (by rw [zI_not]; exact kk H locs ls hP hD hS hl)
theorem v_ishl (C : Cx p s m args c cc nL own D K A) {a b : Int} (hdg : decode cc pc = .ok (.ishl, 1)) (hb : 0 ≤ b ∧ b < 32) (kk : V p l e R s m args below meth c D A nL k n Q ws (pc + 1) lv (.int (zI (a * 2 ^ Int.toNat b)) :: st)) : V p l e R s m args below meth c D A nL k n Q ws pc lv (.int (zI b) :: .int (zI a) :: st) :=
  fun H locs ls hP hD hS hl => lv_ishl C.hx C.hb hdg (by rw [zI_shl hb]; exact kk H locs ls hP hD hS hl)
theorem v_ishr (C : Cx p s m args c cc nL own D K A) {a b : Int} (hdg : decode cc pc = .ok (.ishr, 1)) (ha : rg a) (hb : 0 ≤ b ∧ b < 32) (kk : V p l e R s m args below meth c D A nL k n Q ws (pc + 1) lv (.int (zI (a / 2 ^ Int.toNat b)) :: st)) : V p l e R s m args below meth c D A nL k n Q ws pc lv (.int (zI b) :: .int (zI a) :: st) :=
  fun H locs ls hP hD hS hl => lv_ishr C.hx C.hb hdg (by rw [zI_shr ha hb]; exact kk H locs ls hP hD hS hl)
theorem v_iushr (C : Cx p s m args c cc nL own D K A) {a b : Int} (hdg : decode cc pc = .ok (.iushr, 1)) (ha : rg a) (h0 : 0 ≤ a) (hb : 0 ≤ b ∧ b < 32) (kk : V p l e R s m args below meth c D A nL k n Q ws (pc + 1) lv (.int (zI (a / 2 ^ Int.toNat b)) :: st)) : V p l e R s m args below meth c D A nL k n Q ws pc lv (.int (zI b) :: .int (zI a) :: st) :=
  fun H locs ls hP hD hS hl => lv_iushr C.hx C.hb hdg (zI_ushr ha h0 hb) (kk H locs ls hP hD hS hl)
theorem v_idiv (C : Cx p s m args c cc nL own D K A) {a b : Int} (hdg : decode cc pc = .ok (.idiv, 1)) (ha : rg a) (hb : rg b) (h0 : 0 < b) (kk : V p l e R s m args below meth c D A nL k n Q ws (pc + 1) lv (.int (zI (Int.tdiv a b)) :: st)) : V p l e R s m args below meth c D A nL k n Q ws pc lv (.int (zI b) :: .int (zI a) :: st) :=
  fun H locs ls hP hD hS hl => lv_idiv C.hx C.hb hdg (zI_ne0 hb h0) (by rw [zI_div ha hb]; exact kk H locs ls hP hD hS hl)
theorem v_irem (C : Cx p s m args c cc nL own D K A) {a b : Int} (hdg : decode cc pc = .ok (.irem, 1)) (ha : rg a) (hb : rg b) (h0 : 0 < b) (kk : V p l e R s m args below meth c D A nL k n Q ws (pc + 1) lv (.int (zI (Int.tmod a b)) :: st)) : V p l e R s m args below meth c D A nL k n Q ws pc lv (.int (zI b) :: .int (zI a) :: st) :=
  fun H locs ls hP hD hS hl => lv_irem C.hx C.hb hdg (zI_ne0 hb h0) (by rw [zI_rem ha hb]; exact kk H locs ls hP hD hS hl)
-- longs
theorem v_ladd (C : Cx p s m args c cc nL own D K A) {a b : Int} (hdg : decode cc pc = .ok (.ladd, 1)) (z : Int) (hz : a + b = z) (kk : V p l e R s m args below meth c D A nL k n Q ws (pc + 1) lv (.long (lI z) :: st)) : V p l e R s m args below meth c D A nL k n Q ws pc lv (.long (lI b) :: .long (lI a) :: st) :=
  fun H locs ls hP hD hS hl => lv_ladd C.hx C.hb hdg (by rw [lI_add, hz]; exact kk H locs ls hP hD hS hl)
theorem v_lsub (C : Cx p s m args c cc nL own D K A) {a b : Int} (hdg : decode cc pc = .ok (.lsub, 1)) (z : Int) (hz : a - b = z) (kk : V p l e R s m args below meth c D A nL k n Q ws (pc + 1) lv (.long (lI z) :: st)) : V p l e R s m args below meth c D A nL k n Q ws pc lv (.long (lI b) :: .long (lI a) :: st) :=
  fun H locs ls hP hD hS hl => lv_lsub C.hx C.hb hdg (by rw [lI_sub, hz]; exact kk H locs ls hP hD hS hl)
theorem v_lmul (C : Cx p s m args c cc nL own D K A) {a b : Int} (hdg : decode cc pc = .ok (.lmul, 1)) (z : Int) (hz : a * b = z) (kk : V p l e R s m args below meth c D A nL k n Q ws (pc + 1) lv (.long (lI z) :: st)) : V p l e R s m args below meth c D A nL k n Q ws pc lv (.long (lI b) :: .long (lI a) :: st) :=
  fun H locs ls hP hD hS hl => lv_lmul C.hx C.hb hdg (by rw [lI_mul, hz]; exact kk H locs ls hP hD hS hl)
theorem v_lneg (C : Cx p s m args c cc nL own D K A) {a : Int} (hdg : decode cc pc = .ok (.lneg, 1)) (kk : V p l e R s m args below meth c D A nL k n Q ws (pc + 1) lv (.long (lI (-a)) :: st)) : V p l e R s m args below meth c D A nL k n Q ws pc lv (.long (lI a) :: st) :=
  fun H locs ls hP hD hS hl => lv_lneg C.hx C.hb hdg (by rw [lI_neg]; exact kk H locs ls hP hD hS hl)
theorem v_ldiv (C : Cx p s m args c cc nL own D K A) {a b : Int} (hdg : decode cc pc = .ok (.ldiv, 1)) (ha : rgl a) (hb : rgl b) (h0 : 0 < b) (kk : V p l e R s m args below meth c D A nL k n Q ws (pc + 1) lv (.long (lI (Int.tdiv a b)) :: st)) : V p l e R s m args below meth c D A nL k n Q ws pc lv (.long (lI b) :: .long (lI a) :: st) :=
  fun H locs ls hP hD hS hl => lv_ldiv C.hx C.hb hdg (lI_ne0 hb h0) (by rw [lI_div ha hb]; exact kk H locs ls hP hD hS hl)
theorem v_i2l (C : Cx p s m args c cc nL own D K A) {a : Int} (hdg : decode cc pc = .ok (.i2l, 1)) (ha : rg a) (kk : V p l e R s m args below meth c D A nL k n Q ws (pc + 1) lv (.long (lI a) :: st)) : V p l e R s m args below meth c D A nL k n Q ws pc lv (.int (zI a) :: st) :=
  fun H locs ls hP hD hS hl => lv_i2l C.hx C.hb hdg (zI_l ha) (kk H locs ls hP hD hS hl)
theorem v_l2i (C : Cx p s m args c cc nL own D K A) {a : Int} (hdg : decode cc pc = .ok (.l2i, 1)) (kk : V p l e R s m args below meth c D A nL k n Q ws (pc + 1) lv (.int (zI a) :: st)) : V p l e R s m args below meth c D A nL k n Q ws pc lv (.long (lI a) :: st) :=
  fun H locs ls hP hD hS hl => lv_l2i C.hx C.hb hdg (lI_i a) (kk H locs ls hP hD hS hl)
theorem v_lcmp (C : Cx p s m args c cc nL own D K A) {a b : Int} (hdg : decode cc pc = .ok (.lcmp, 1)) (ha : rgl a) (hb : rgl b) (kk : V p l e R s m args below meth c D A nL k n Q ws (pc + 1) lv (.int (zI (cmpZ a b)) :: st)) : V p l e R s m args below meth c D A nL k n Q ws pc lv (.long (lI b) :: .long (lI a) :: st) :=
  fun H locs ls hP hD hS hl => W.lcmp C.hx C.hb hdg (by rw [lI_cmp ha hb]; exact kk H locs ls hP hD hS hl)
-- switches
theorem v_tabIn (C : Cx p s m args c cc nL own D K A) {a i : Int} {dflt lo hi : Int} {offs : Array Int} {len : Nat} {off : Int} {tgt : Nat} (hdg : decode cc pc = .ok (.tableswitch dflt lo hi offs, len)) (ha : rg a) (h : a = i) (j : Nat) (hj : i - lo = (j : Int)) (h2 : i ≤ hi) (ho : offs[j]? = some off) (ht : (pc : Int) + off = (tgt : Int)) (kk : V p l e R s m args below meth c D A nL k n Q ws tgt lv st) : V p l e R s m args below meth c D A nL k n Q ws pc lv (.int (zI a) :: st) :=
  fun H locs ls hP hD hS hl => lv_tableIn C.hx C.hb hdg (by rw [zI_toInt ha]; omega) (by rw [zI_toInt ha]; omega) (by rw [zI_toInt ha, h, hj, Int.toNat_natCast]; exact ho) ht (kk H locs ls hP hD hS hl)
theorem v_tabOut (C : Cx p s m args c cc nL own D K A) {a : Int} {dflt lo hi : Int} {offs : Array Int} {len : Nat} {tgt : Nat} (hdg : decode cc pc = .ok (.tableswitch dflt lo hi offs, len)) (ha : rg a) (h : a < lo ∨ hi < a) (ht : (pc : Int) + dflt = (tgt : Int)) (kk : V p l e R s m args below meth c D A nL k n Q ws tgt lv st) : V p l e R s m args below meth c D A nL k n Q ws pc lv (.int (zI a) :: st) :=
  fun H locs ls hP hD hS hl => lv_tableOut C.hx C.hb hdg (by rw [zI_toInt ha]; exact h) ht (kk H locs ls hP hD hS hl)
theorem v_dup_x1 (C : Cx p s m args c cc nL own D K A) {v w : Value} (hdg : decode cc pc = .ok (.dup_x1, 1)) (hv : v.category = 1) (hw : w.category = 1) (kk : V p l e R s m args below meth c D A nL k n Q ws (pc + 1) lv (v :: w :: v :: st)) : V p l e R s m args below meth c D A nL k n Q ws pc lv (v :: w :: st) :=
  fun H locs ls hP hD hS hl => lv_dup_x1 C.hx C.hb hdg hv hw (kk H locs ls hP hD hS hl)
-- arrays
theorem v_iald (C : Cx p s m args c cc nL own D K A) {a N : Nat} {cA : ClassId} {g : Int → Int} {z NI : Int} (q0 t0 : Nat) (ha : ws[q0]? = some (a, .inl (cA, N, .inl (zF g)))) (ht : (tk K)[t0]? = some (cA, .int)) (hi : 0 ≤ z ∧ z < NI) (hNI : (N : Int) = NI) (hN : NI ≤ 2147483647) (hdg : decode cc pc = .ok (.iaload, 1)) (kk : V p l e R s m args below meth c D A nL k n Q ws (pc + 1) lv (.int (zI (g z)) :: st)) : V p l e R s m args below meth c D A nL k n Q ws pc lv (.int (zI z) :: .ref a :: st) := by
  obtain ⟨i, rfl⟩ := Int.eq_ofNat_of_zero_le hi.1
  have hi' : i < N := by omega
  have hN' : N < 2147483648 := by omega
  exact fun H locs ls hP hD hS hl => va_iald C.hx C.hb C.hK hP q0 t0 ha ht (zI_in hi' hN') hdg (by rw [zI_cl (Nat.lt_trans hi' hN')]; exact kk H locs ls hP hD hS hl)
theorem v_zald (C : Cx p s m args c cc nL own D K A) {a N : Nat} {cA : ClassId} {g : Int → Int} {z NI : Int} (q0 t0 : Nat) (ha : ws[q0]? = some (a, .inl (cA, N, .inl (zF g)))) (ht : (tk K)[t0]? = some (cA, .boolean)) (hi : 0 ≤ z ∧ z < NI) (hNI : (N : Int) = NI) (hN : NI ≤ 2147483647) (hdg : decode cc pc = .ok (.baload, 1)) (kk : V p l e R s m args below meth c D A nL k n Q ws (pc + 1) lv (.int (zI (g z)) :: st)) : V p l e R s m args below meth c D A nL k n Q ws pc lv (.int (zI z) :: .ref a :: st) := by
  obtain ⟨i, rfl⟩ := Int.eq_ofNat_of_zero_le hi.1
  have hi' : i < N := by omega
  have hN' : N < 2147483648 := by omega
  exact fun H locs ls hP hD hS hl => va_zald C.hx C.hb C.hK hP q0 t0 ha ht (zI_in hi' hN') hdg (by rw [zI_cl (Nat.lt_trans hi' hN')]; exact kk H locs ls hP hD hS hl)
theorem v_iast (C : Cx p s m args c cc nL own D K A) {a N : Nat} {cA : ClassId} {g : Int → Int} {z v NI : Int} {ws' : va_W} (q0 t0 : Nat) (ha : ws[q0]? = some (a, .inl (cA, N, .inl (zF g)))) (ht : (tk K)[t0]? = some (cA, .int)) (hi : 0 ≤ z ∧ z < NI) (hNI : (N : Int) = NI) (hN : NI ≤ 2147483647) (hset : ws.set q0 (a, .inl (cA, N, .inl (zF (iset g z v)))) = ws') (hdg : decode cc pc = .ok (.iastore, 1)) (kk : V p l e R s m args below meth c D A nL k n Q ws' (pc + 1) lv st) : V p l e R s m args below meth c D A nL k n Q ws pc lv (.int (zI v) :: .int (zI z) :: .ref a :: st) := by
  obtain ⟨i, rfl⟩ := Int.eq_ofNat_of_zero_le hi.1
  have hi' : i < N := by omega
  have hN' : N < 2147483648 := by omega
  exact fun H locs ls hP hD hS hl => va_iast C.hx C.hb C.hK hP hD hS q0 t0 ha ht (zI_in hi' hN') hdg (fun H1 locs1 hP1 hD1 hS1 => by
    rw [zI_cl (Nat.lt_trans hi' hN'), zF_upd, hset] at hP1 hD1
    exact kk H1 locs1 ls hP1 hD1 hS1 hl)
theorem v_zast (C : Cx p s m args c cc nL own D K A) {a N : Nat} {cA : ClassId} {g : Int → Int} {z v NI : Int} {ws' : va_W} (q0 t0 : Nat) (ha : ws[q0]? = some (a, .inl (cA, N, .inl (zF g)))) (ht : (tk K)[t0]? = some (cA, .boolean)) (hi : 0 ≤ z ∧ z < NI) (hNI : (N : Int) = NI) (hN : NI ≤ 2147483647) (hv : v = 0 ∨ v = 1) (hset : ws.set q0 (a, .inl (cA, N, .inl (zF (iset g z v)))) = ws') (hdg : decode cc pc = .ok (.bastore, 1)) (kk : V p l e R s m args below meth c D A nL k n Q ws' (pc + 1) lv st) : V p l e R s m args below meth c D A nL k n Q ws pc lv (.int (zI v) :: .int (zI z) :: .ref a :: st) := by
  obtain ⟨i, rfl⟩ := Int.eq_ofNat_of_zero_le hi.1
  have hi' : i < N := by omega
  have hN' : N < 2147483648 := by omega
  exact fun H locs ls hP hD hS hl => va_zast C.hx C.hb C.hK hP hD hS q0 t0 ha ht (zI_in hi' hN') hdg (fun H1 locs1 hP1 hD1 hS1 => by
    rw [zI_cl (Nat.lt_trans hi' hN'), nar_z hv, zF_upd, hset] at hP1 hD1
    exact kk H1 locs1 ls hP1 hD1 hS1 hl)
theorem v_alen (C : Cx p s m args c cc nL own D K A) {a N : Nat} {cA : ClassId} {f : Nat → Int32} {NI : Int} (q0 t0 : Nat) {ty : FieldType} (ha : ws[q0]? = some (a, .inl (cA, N, .inl f))) (ht : (tk K)[t0]? = some (cA, ty)) (hNI : (N : Int) = NI) (hdg : decode cc pc = .ok (.arraylength, 1)) (kk : V p l e R s m args below meth c D A nL k n Q ws (pc + 1) lv (.int (zI NI) :: st)) : V p l e R s m args below meth c D A nL k n Q ws pc lv (.ref a :: st) := by
  subst hNI
  rw [zI_nat] at kk
  exact fun H locs ls hP hD hS hl => va_alen C.hx C.hb C.hK hP q0 t0 ha ht rfl hdg (kk H locs ls hP hD hS hl)
/-- a row of an array of arrays -/
theorem v_aald (C : Cx p s m args c cc nL own D K A) {a N : Nat} {cA : ClassId} {f : Nat → Option Nat} {z NI : Int} {y : Nat} (q0 t0 : Nat) (ha : ws[q0]? = some (a, .inl (cA, N, .inr (.inr (.inr (.inr f)))))) (ht : (tk K)[t0]? = some (cA, .array .int)) (hi : 0 ≤ z ∧ z < NI) (hNI : (N : Int) = NI) (hN : NI ≤ 2147483647) (hy : f (Int.toNat z) = some y) (hdg : decode cc pc = .ok (.aaload, 1)) (kk : V p l e R s m args below meth c D A nL k n Q ws (pc + 1) lv (.ref y :: st)) : V p l e R s m args below meth c D A nL k n Q ws pc lv (.int (zI z) :: .ref a :: st) := by
  obtain ⟨i, rfl⟩ := Int.eq_ofNat_of_zero_le hi.1
  have hi' : i < N := by omega
  have hN' : N < 2147483648 := by omega
  rw [Int.toNat_natCast] at hy
  intro H locs ls hP hD hS hl
  have hin := zI_in hi' hN'
  have hcl : (zI (i : Int)).toNatClampNeg = i := zI_cl (Nat.lt_trans hi' hN')
  have hv : va_rf (f (zI (i : Int)).toNatClampNeg) = .ref y := by rw [hcl, hy]; rfl
  exact W.aald (v := .ref y) (ty := .array .int) C.hx C.hb (hP q0 _ ha) ((C.hK.2 t0 _ ht).1 N (fun j => va_rf (f j))) rfl (fun q => by cases q) (by show ¬ (zI (i : Int) < 0 ∨ (arrV _ _ _).slots.size ≤ _); rw [arrV_size]; exact hin) (by show (arrV _ _ _).slots[_]? = _; rw [arrV_read _ _ (by rw [hcl]; exact hi'), hv]) rfl rfl hdg (kk H locs ls hP hD hS hl)
/-- Math.max -/
def wMax (own : String) (idx : Nat) : Prop := Cond.methodLink own idx Lib.Math.max.name ∈ kw ∧ Cond.static Lib.Math.max.name ∈ kw ∧ Cond.initialized "java/lang/Math" ∈ kw ∧ Cond.code Lib.Math.max.name Lib.Math.max.code 2 (some .int) ∈ kw
theorem v_max (C : Cx p s m args c cc nL own D K A) {a b : Int} {idx : Nat} (hw : wMax own idx) (ha : rg a) (hb : rg b) (hR : 1 ≤ R.frames ∧ 21 ≤ R.locals ∧ k ≤ R.cells ∧ n ≤ R.slots) (hcat : (st.map fun v => v.category).sum ≤ 8) (hdg : decode cc pc = .ok (.invokestatic idx, 3)) (kk : V p l e R s m args below meth c D A nL k n Q ws (pc + 3) lv (.int (zI (max a b)) :: st)) : V p l e R s m args below meth c D A nL k n Q ws pc lv (.int (zI b) :: .int (zI a) :: st) :=
  fun H locs ls hP hD hS hl => va_mmax C.hx C.hb (C.hml.trans hl.1.symm) C.hown (C.hts _ hw.1) (C.hts _ hw.2.1) (C.hts _ hw.2.2.1) (C.hts _ hw.2.2.2) hR.1 (by omega) hR.2.2.1 hR.2.2.2 hdg (by rw [zI_max ha hb]; exact kk H locs ls hP hD hS hl)
/-- System.arraycopy from the first place on -/
def wCpy (own : String) (idx : Nat) : Prop := Cond.methodLink own idx arraycopyName ∈ kw ∧ Cond.native arraycopyName ∈ kw ∧ Cond.static arraycopyName ∈ kw ∧ Cond.initialized "java/lang/System" ∈ kw
theorem nfw_cpy : nativeFrameWords "java/lang/System" "arraycopy" 5 ≤ 24 := by decide
theorem zF_cpy (g f : Int → Int) (n : Nat) : va_cpy (zF g) (zF f) 0 0 n = zF (icpy g f (n : Int)) := by
  funext j
  by_cases h : j < n
  · rw [pk_cpy_in (Nat.zero_le _) (by omega)]
    simp only [zF, icpy]
    rw [if_pos (by omega)]
    congr 2
    omega
  · rw [pk_cpy_out (by omega)]
    simp only [zF, icpy]
    rw [if_neg (by omega)]
theorem v_copy (C : Cx p s m args c cc nL own D K A) {a a0 N0 N1 idx : Nat} {c0 c1 : ClassId} {g f : Int → Int} {z NI0 NI1 : Int} {ws' : va_W} (hw : wCpy own idx) (q0 q1 t0 t1 : Nat) (ha0 : ws[q0]? = some (a0, .inl (c0, N0, .inl (zF g)))) (ha1 : ws[q1]? = some (a, .inl (c1, N1, .inl (zF f)))) (ht0 : (tk K)[t0]? = some (c0, .int)) (ht1 : (tk K)[t1]? = some (c1, .int)) (hn : 0 ≤ z ∧ z ≤ NI0 ∧ z ≤ NI1) (h0 : (N0 : Int) = NI0) (h1 : (N1 : Int) = NI1) (hN : NI0 ≤ 2147483647) (hR : 1 ≤ R.frames ∧ 43 ≤ R.locals) (hcat : (st.map fun v => v.category).sum ≤ 8) (hset : ws.set q1 (a, .inl (c1, N1, .inl (zF (icpy g f z)))) = ws') (hdg : decode cc pc = .ok (.invokestatic idx, 3)) (kk : V p l e R s m args below meth c D A nL k n Q ws' (pc + 3) lv st) : V p l e R s m args below meth c D A nL k n Q ws pc lv (.int (zI z) :: .int (zI 0) :: .ref a :: .int (zI 0) :: .ref a0 :: st) := by
  obtain ⟨i, rfl⟩ := Int.eq_ofNat_of_zero_le hn.1
  have hcl : (zI (i : Int)).toNatClampNeg = i := zI_cl (by omega)
  have hc0 : (zI 0).toNatClampNeg = 0 := rfl
  have hr : rg (i : Int) := ⟨by omega, by omega⟩
  have hw4 := nfw_cpy
  exact fun H locs ls hP hD hS hl => va_copyi C.hx C.hb (C.hml.trans hl.1.symm) C.hown (C.hts _ hw.1) (C.hts _ hw.2.1) (C.hts _ hw.2.2.1) (C.hts _ hw.2.2.2) C.hK hP hD hS q0 q1 t0 t1 ha0 ha1 ht0 ht1 rfl (by decide) (by decide) (fun q => by have := (zI_lt0 hr).mp q; omega) (by rw [hcl, hc0]; omega) (by rw [hcl, hc0]; omega) (fun _ _ => rfl) hR.1 (by omega) hdg (fun H1 locs1 hP1 hD1 hS1 => by
    rw [hcl, hc0, zF_cpy, hset] at hP1 hD1
    exact kk H1 locs1 ls hP1 hD1 hS1 hl)
/-- the same world in another order, or less of it -/
theorem v_ord {ws' : va_W} (is : List Nat) (hn : va_nd is = true) (h : is.map (fun i => ws[i]?) = ws'.map some) (kk : V p l e R s m args below meth c D A nL k n Q ws' pc lv st) : V p l e R s m args below meth c D A nL k n Q ws pc lv st := by
  intro H locs ls hP hD hS hl
  have h2 : is.filterMap (fun i => ws[i]?) = ws' := by
    have h3 : (is.map (fun i => ws[i]?)).filterMap id = (ws'.map some).filterMap id := by rw [h]
    simpa [List.filterMap_map] using h3
  exact kk H locs ls (hP.sub is h2) (hD.sub is hn h) hS hl
/-- behind a call: the world in its order, the stack as a list -/
theorem v_after {ws' : va_W} {st' : List Value} (is : List Nat) (hn : va_nd is = true) (h : is.map (fun i => ws[i]?) = ws'.map some) (hs : st = st') (kk : V p l e R s m args below meth c D A nL k n Q ws' pc lv st') : V p l e R s m args below meth c D A nL k n Q ws pc lv st := by
  subst hs
  exact v_ord is hn h kk
/-- fewer locals -/
theorem v_loc {lv' : List (Nat × Value)} (ks : List Nat) (h : lv_pick lv ks = lv') (kk : V p l e R s m args below meth c D A nL k n Q ws pc lv' st) : V p l e R s m args below meth c D A nL k n Q ws pc lv st :=
  fun H locs ls hP hD hS hl => kk H locs ls hP hD hS (lv_sub hl ks h)

/-! ===== BASE 4: contracts of methods that make nothing ===== -/
/-- behind it: an answer v and a world w1, at cells of wc, as Post says; nothing else has changed -/
def KQ (D : va_G) (wc : va_W) (sz : Nat) (Post : Option Value → va_W → Prop) : Array Value → State → Outcome → State → Prop :=
  fun _ st oc t => (∃ (v : Option Value) (w1 : va_W), oc = .returned v ∧ Post v w1 ∧ va_P D cls w1 t.heap ∧ va_D (va_A wc sz) w1) ∧ va_F (va_A wc sz) st t
def KP (D : va_G) (K : Nat → ClassId) (wc : va_W) (sz : Nat) (As : List Value) : Array Value → State → Prop :=
  va_Pc As (fun U => U.heap.size = sz ∧ va_P D cls wc U.heap ∧ va_K D cls (tk K) U ∧ va_D (fun _ => True) wc ∧ NW U)
def Kt (l : Launch) (D : va_G) (K : Nat → ClassId) (y : MethodName) (cc : ByteArray) (nL : Nat) (ret : Option FieldType) (fr lo : Nat) (As : List Value) (wc : va_W) (Post : Option Value → va_W → Prop) : Prop :=
  ∀ sz : Nat, Met l y (wk y cc nL ret) ({ frames := fr, cells := 0, slots := 0, locals := lo }) (KP D K wc sz As) (KQ D wc sz Post) 0 0 (va_A wc sz)
theorem KP_blind {wc : va_W} {sz : Nat} {As : List Value} : FrameBlind (KP D K wc sz As) := by
  intro a U g mk q
  obtain ⟨q0, q1, qP, qK, qD, qN⟩ := q
  exact ⟨q0, q1, qP, va_K.moved (u := U) (U := U.calling g mk a) (Vm.Alike.refl U.vm) qK, qD, NW.same rfl qN⟩
theorem v_iret {wc : va_W} {sz : Nat} {Post : Option Value → va_W → Prop} {x : Int32} (C : Cx p s m args c cc nL own D K (va_A wc sz)) (hr : meth.sig.returnType = some .int) (hlk : meth.locks = false) (hdg : decode cc pc = .ok (.ireturn, 1)) (h : Post (some (.int x)) ws) : V p l e R s m args below meth c D (va_A wc sz) nL 0 0 (MQ below (KQ D wc sz Post) args s 0 0 (va_A wc sz)) ws pc lv [.int x] :=
  fun H locs ls hP hD hS hl => W.iret C.hx C.hb hr (fun t ht hW => ⟨⟨some (.int x), ws, rfl, h, by rw [ht]; exact hP, hD⟩, hS.F ht⟩) hS.2.2 hdg hlk
theorem v_zret {wc : va_W} {sz : Nat} {Post : Option Value → va_W → Prop} {x : Int32} (C : Cx p s m args c cc nL own D K (va_A wc sz)) (hr : meth.sig.returnType = some .boolean) (hlk : meth.locks = false) (hn : narrow .boolean (.int x) = .int x) (hdg : decode cc pc = .ok (.ireturn, 1)) (h : Post (some (.int x)) ws) : V p l e R s m args below meth c D (va_A wc sz) nL 0 0 (MQ below (KQ D wc sz Post) args s 0 0 (va_A wc sz)) ws pc lv [.int x] :=
  fun H locs ls hP hD hS hl => W.zret C.hx C.hb hr hn (fun t ht hW => ⟨⟨some (.int x), ws, rfl, h, by rw [ht]; exact hP, hD⟩, hS.F ht⟩) hS.2.2 hdg hlk
theorem v_vret {wc : va_W} {sz : Nat} {Post : Option Value → va_W → Prop} (C : Cx p s m args c cc nL own D K (va_A wc sz)) (hr : meth.sig.returnType = none) (hlk : meth.locks = false) (hdg : decode cc pc = .ok (.return_, 1)) (h : Post none ws) : V p l e R s m args below meth c D (va_A wc sz) nL 0 0 (MQ below (KQ D wc sz Post) args s 0 0 (va_A wc sz)) ws pc lv [] :=
  fun H locs ls hP hD hS hl => W.vret C.hx C.hb hr (fun t ht hW => ⟨⟨none, ws, rfl, h, by rw [ht]; exact hP, hD⟩, hS.F ht⟩) hS.2.2 hdg hlk
theorem Kt.ofI {y : MethodName} {fr lo : Nat} {As : List Value} {wc : va_W} {Post : Option Value → va_W → Prop} (hy : plainName y.cls = true) (hlen : (lg_sl As).length ≤ nL) {lv0 : List (Nat × Value)} (hlv : lv_args 0 As = lv0)
    (body : ∀ (p : Program) (e : Env) (R : Room) (s : State) (m : MethodId) (args : Array Value) (below : List Frame) (meth : Method) (c : Code) (A : Nat → Prop) (Q : State → Prop), R.frames = fr → R.locals = lo → Cx p s m args c cc nL y.cls D K A →
      (∀ (ws : va_W) (pc : Nat) (lv : List (Nat × Value)) (x : Int32), decode cc pc = .ok (.ireturn, 1) → Post (some (.int x)) ws → V p l e R s m args below meth c D A nL 0 0 Q ws pc lv [.int x]) → V p l e R s m args below meth c D A nL 0 0 Q wc 0 lv0 []) : Kt l D K y cc nL (some .int) fr lo As wc Post := by
  intro sz
  subst hlv
  refine Met.ofW (cc := cc) (maxL := nL) (ret := (some .int)) hy rfl ?_
  intro p e s m args below meth c s₁ B hml hv
  obtain ⟨rfl, hsz, hP, hK, hD, hN⟩ := hv
  have hts := atoms_spec (ws := wk y cc nL (some .int)) B.pre
  have hown : s.vm.findClass y.cls = some m.cls := findClass_of_methodNamed B.named
  have hl := lv_entry As (n := nL) hlen
  have C : Cx p s m As.toArray c cc nL y.cls D K (va_A wc sz) := ⟨B.exec, B.bytes, hml, hown, fun w hw => hts w (List.mem_cons_of_mem _ hw), hK, fun q h => Or.inr (hsz ▸ h), hN⟩
  have hlk := B.notSynchronized
  have hr := B.returns
  rw [lg_entry_eq]
  exact body p e _ s m _ below meth c (va_A wc sz) _ rfl rfl C (fun ws pc lv x hdg h => v_iret C hr hlk hdg h) s.heap [] _ hP hD.self va_S.rf hl
theorem Kt.ofZ {y : MethodName} {fr lo : Nat} {As : List Value} {wc : va_W} {Post : Option Value → va_W → Prop} (hy : plainName y.cls = true) (hlen : (lg_sl As).length ≤ nL) {lv0 : List (Nat × Value)} (hlv : lv_args 0 As = lv0)
    (body : ∀ (p : Program) (e : Env) (R : Room) (s : State) (m : MethodId) (args : Array Value) (below : List Frame) (meth : Method) (c : Code) (A : Nat → Prop) (Q : State → Prop), R.frames = fr → R.locals = lo → Cx p s m args c cc nL y.cls D K A →
      (∀ (ws : va_W) (pc : Nat) (lv : List (Nat × Value)) (x : Int32), decode cc pc = .ok (.ireturn, 1) → narrow .boolean (.int x) = .int x → Post (some (.int x)) ws → V p l e R s m args below meth c D A nL 0 0 Q ws pc lv [.int x]) → V p l e R s m args below meth c D A nL 0 0 Q wc 0 lv0 []) : Kt l D K y cc nL (some .boolean) fr lo As wc Post := by
  intro sz
  subst hlv
  refine Met.ofW (cc := cc) (maxL := nL) (ret := (some .boolean)) hy rfl ?_
  intro p e s m args below meth c s₁ B hml hv
  obtain ⟨rfl, hsz, hP, hK, hD, hN⟩ := hv
  have hts := atoms_spec (ws := wk y cc nL (some .boolean)) B.pre
  have hown : s.vm.findClass y.cls = some m.cls := findClass_of_methodNamed B.named
  have hl := lv_entry As (n := nL) hlen
  have C : Cx p s m As.toArray c cc nL y.cls D K (va_A wc sz) := ⟨B.exec, B.bytes, hml, hown, fun w hw => hts w (List.mem_cons_of_mem _ hw), hK, fun q h => Or.inr (hsz ▸ h), hN⟩
  have hlk := B.notSynchronized
  have hr := B.returns
  rw [lg_entry_eq]
  exact body p e _ s m _ below meth c (va_A wc sz) _ rfl rfl C (fun ws pc lv x hdg hn h => v_zret C hr hlk hn hdg h) s.heap [] _ hP hD.self va_S.rf hl
theorem Kt.ofV {y : MethodName} {fr lo : Nat} {As : List Value} {wc : va_W} {Post : Option Value → va_W → Prop} (hy : plainName y.cls = true) (hlen : (lg_sl As).length ≤ nL) {lv0 : List (Nat × Value)} (hlv : lv_args 0 As = lv0)
    (body : ∀ (p : Program) (e : Env) (R : Room) (s : State) (m : MethodId) (args : Array Value) (below : List Frame) (meth : Method) (c : Code) (A : Nat → Prop) (Q : State → Prop), R.frames = fr → R.locals = lo → Cx p s m args c cc nL y.cls D K A →
      (∀ (ws : va_W) (pc : Nat) (lv : List (Nat × Value)), decode cc pc = .ok (.return_, 1) → Post none ws → V p l e R s m args below meth c D A nL 0 0 Q ws pc lv []) → V p l e R s m args below meth c D A nL 0 0 Q wc 0 lv0 []) : Kt l D K y cc nL none fr lo As wc Post := by
  intro sz
  subst hlv
  refine Met.ofW (cc := cc) (maxL := nL) (ret := none) hy rfl ?_
  intro p e s m args below meth c s₁ B hml hv
  obtain ⟨rfl, hsz, hP, hK, hD, hN⟩ := hv
  have hts := atoms_spec (ws := wk y cc nL none) B.pre
  have hown : s.vm.findClass y.cls = some m.cls := findClass_of_methodNamed B.named
  have hl := lv_entry As (n := nL) hlen
  have C : Cx p s m As.toArray c cc nL y.cls D K (va_A wc sz) := ⟨B.exec, B.bytes, hml, hown, fun w hw => hts w (List.mem_cons_of_mem _ hw), hK, fun q h => Or.inr (hsz ▸ h), hN⟩
  have hlk := B.notSynchronized
  have hr := B.returns
  rw [lg_entry_eq]
  exact body p e _ s m _ below meth c (va_A wc sz) _ rfl rfl C (fun ws pc lv hdg h => v_vret C hr hlk hdg h) s.heap [] _ hP hD.self va_S.rf hl
theorem map_pick {ws wc : va_W} {is : List Nat} (h : is.map (fun i => ws[i]?) = wc.map some) : is.filterMap (fun i => ws[i]?) = wc := by
  have h3 : (is.map (fun i => ws[i]?)).filterMap id = (wc.map some).filterMap id := by rw [h]
  simpa [List.filterMap_map] using h3
/-- the cells at some places -/
def pick (ws : va_W) (is : List Nat) : va_W := is.filterMap (fun i => ws[i]?)
theorem pick_map {ws : va_W} {is : List Nat} (h : is.all (fun i => decide (i < ws.length)) = true) : is.map (fun i => ws[i]?) = (pick ws is).map some := by
  unfold pick
  induction is with
  | nil => rfl
  | cons i is ih =>
    rw [List.all_cons, Bool.and_eq_true] at h
    have hi : i < ws.length := of_decide_eq_true h.1
    have e : ws[i]? = some ws[i] := List.getElem?_eq_getElem hi
    rw [List.map_cons, ih h.2, List.filterMap_cons, e]
    rfl
/-- behind a call: the callee's world comes back beside the rest -/
theorem v_run (C : Cx p s m args c cc nL own D K A) {wc : va_W} {Post : Option Value → va_W → Prop} {rest : List Value} {a : Array Value} (isC isR : List Nat) (hC : isC.map (fun i => ws[i]?) = wc.map some) (hb : isR.all (fun i => decide (i < ws.length)) = true) (hn : va_nd isR = true) (hdis : ∀ i ∈ isR, i ∉ isC)
    (hr : ∀ (H : Heap) (locs : List Loc) (ls : Array Slot), va_P D cls ws H → va_D A ws → va_S A s.heap H locs → lv_has ls nL lv → va_Run p l e R s m args below meth c H locs k n 0 0 (F0 m pc ls st) rest (KQ D wc H.size Post a) (va_A wc H.size))
    (kk : ∀ (v : Option Value) (w1 : va_W), Post v w1 → V p l e R s m args below meth c D A nL k n Q (pick ws isR ++ w1) (pc + 3) lv (v.toList ++ rest)) : V p l e R s m args below meth c D A nL k n Q ws pc lv st := by
  have hR := pick_map hb
  intro H locs ls hP hD hS hl T hT X
  have hF := va_free (wc := wc) hD hS C.hA isC hC
  obtain ⟨v, st₀, t, T', L, h0, X', hL, e1, e2, ⟨⟨v', w1, hv, hp, hP1, hD1⟩, hz, hk⟩, stp⟩ := hr H locs ls hP hD hS hl T hT X
  cases hv
  rw [h0] at hz hk
  have hk' : ∀ q : Nat, q < H.size → ¬ va_A wc H.size q → T'.heap[q]? = H[q]? := fun q h1 h2 => by rw [e1]; exact hk q h1 h2
  obtain ⟨hP2, hD2⟩ := va_join hP hD isC isR hC hR hn hdis hk' hF (by rw [e1]; exact hP1) hD1
  have hS2 : va_S A s.heap T'.heap (locs ++ L) := ⟨Nat.le_trans hS.1 (by rw [e1]; exact hz), fun q h1 h2 => by rw [e1, hk q (Nat.lt_of_lt_of_le h1 hS.1) (fun z => h2 (hF q z))]; exact hS.2.1 q h1 h2, fun q hq => by
    rcases List.mem_append.mp hq with h | h
    · exact hS.2.2 q h
    · exact hF _ (hL q h)⟩
  obtain ⟨t2, a1, b1⟩ := kk v w1 hp T'.heap (locs ++ L) ls hP2 hD2 hS2 hl T' rfl X'
  exact ⟨t2, stp t2 a1, b1⟩
/-- what a call by invokevirtual wants of the words -/
def wV (own : String) (idx : Nat) (y : MethodName) (bytes : ByteArray) (maxL : Nat) (ret : Option FieldType) (nA : Nat) : Prop :=
  Cond.methodLink own idx y ∈ kw ∧ Cond.instanceMethod y ∈ kw ∧ Cond.selects y.cls y y ∈ kw ∧ Cond.initialized y.cls ∈ kw ∧ Cond.code y bytes maxL ret ∈ kw ∧ y.cls ≠ "java/lang/invoke/MethodHandle" ∧ y.cls ≠ "java/lang/invoke/VarHandle" ∧ (parseMethodDescriptor y.desc).map (fun d => d.parameters.length) = some nA
def wS (own : String) (idx : Nat) (y : MethodName) (bytes : ByteArray) (maxL : Nat) (ret : Option FieldType) (nA : Nat) : Prop :=
  Cond.methodLink own idx y ∈ kw ∧ Cond.static y ∈ kw ∧ Cond.initialized y.cls ∈ kw ∧ Cond.code y bytes maxL ret ∈ kw ∧ y.cls ≠ "java/lang/invoke/MethodHandle" ∧ y.cls ≠ "java/lang/invoke/VarHandle" ∧ (parseMethodDescriptor y.desc).map (fun d => d.parameters.length) = some nA
/-- the room that a callee wants of its caller -/
def rOk (R : Room) (k n fr maxL lo : Nat) : Prop := fr + 1 ≤ R.frames ∧ 8 + (maxL + 11) + lo ≤ R.locals ∧ k ≤ R.cells ∧ n ≤ R.slots
theorem v_callV (C : Cx p s m args c cc nL own D K A) {y : MethodName} {bytes : ByteArray} {maxL idx fr lo b N ci nA : Nat} {ret : Option FieldType} {As rest : List Value} {wc : va_W} {Post : Option Value → va_W → Prop} {F : u_T} {fs : List Value} (hM : Kt l D K y bytes maxL ret fr lo (.ref b :: As) wc Post) (hw : wV own idx y bytes maxL ret nA) (hA : As.length = nA) (hR : rOk R k n fr maxL lo) (q0 : Nat) (he : wc[q0]? = some (b, .inr (ci, fs))) (hc : cls[ci]? = some (y.cls, F, N))
    (isC isR : List Nat) (hC : isC.map (fun i => ws[i]?) = wc.map some) (hnC : va_nd isC = true) (hRs : isR.all (fun i => decide (i < ws.length)) = true) (hn : va_nd isR = true) (hdis : ∀ i ∈ isR, i ∉ isC) (hst : st = As.reverse ++ .ref b :: rest) (hcat : (rest.map fun v => v.category).sum ≤ 8) (hdg : decode cc pc = .ok (.invokevirtual idx, 3))
    (kk : ∀ (v : Option Value) (w1 : va_W), Post v w1 → V p l e R s m args below meth c D A nL k n Q (pick ws isR ++ w1) (pc + 3) lv (v.toList ++ rest)) : V p l e R s m args below meth c D A nL k n Q ws pc lv st := by
  obtain ⟨w1, w2, w3, w4, w5, w6, w7, w8⟩ := hw
  subst hA
  refine v_run C (a := (Value.ref b :: As).toArray) isC isR hC hRs hn hdis (fun H locs ls hP hD hS hl => ?_) kk
  have hPc := hP.sub isC (map_pick hC)
  have hDc := hD.sub isC hnC hC
  exact va_runV (As := As) (rest := rest) ⟨C.hx, C.hb, C.hml, C.hown, C.hts⟩ (hM H.size) ⟨callB_of As.length C.hts (wk_good w5) rfl rfl rfl (C.hts _ w4) (C.hts _ w1) ⟨w6, w7, w8⟩ ⟨hR.1, hR.2.1⟩, C.hts _ w2, C.hts _ w3⟩ ⟨KP_blind, va_recv C.hK hPc hc he, fun U hU hW => ⟨rfl, by rw [hU], by rw [hU]; exact hPc, va_K.moved hW.alike C.hK, hDc.weaken (fun _ _ _ _ => trivial), NW.warm hW C.hN⟩⟩ rfl rfl hl.1 hst (lv_room hcat) hdg ⟨hR.2.2.1, hR.2.2.2⟩
theorem v_callS (C : Cx p s m args c cc nL own D K A) {y : MethodName} {bytes : ByteArray} {maxL idx fr lo nA : Nat} {ret : Option FieldType} {As rest : List Value} {wc : va_W} {Post : Option Value → va_W → Prop} (hM : Kt l D K y bytes maxL ret fr lo As wc Post) (hw : wS own idx y bytes maxL ret nA) (hA : As.length = nA) (hR : rOk R k n fr maxL lo)
    (isC isR : List Nat) (hC : isC.map (fun i => ws[i]?) = wc.map some) (hnC : va_nd isC = true) (hRs : isR.all (fun i => decide (i < ws.length)) = true) (hn : va_nd isR = true) (hdis : ∀ i ∈ isR, i ∉ isC) (hst : st = As.reverse ++ rest) (hcat : (rest.map fun v => v.category).sum ≤ 8) (hdg : decode cc pc = .ok (.invokestatic idx, 3))
    (kk : ∀ (v : Option Value) (w1 : va_W), Post v w1 → V p l e R s m args below meth c D A nL k n Q (pick ws isR ++ w1) (pc + 3) lv (v.toList ++ rest)) : V p l e R s m args below meth c D A nL k n Q ws pc lv st := by
  obtain ⟨w1, w2, w4, w5, w6, w7, w8⟩ := hw
  subst hA
  refine v_run C (a := As.toArray) isC isR hC hRs hn hdis (fun H locs ls hP hD hS hl => ?_) kk
  have hPc := hP.sub isC (map_pick hC)
  have hDc := hD.sub isC hnC hC
  exact va_runS (As := As) (rest := rest) ⟨C.hx, C.hb, C.hml, C.hown, C.hts⟩ (hM H.size) ⟨callB_of As.length C.hts (wk_good w5) rfl rfl rfl (C.hts _ w4) (C.hts _ w1) ⟨w6, w7, w8⟩ ⟨hR.1, hR.2.1⟩, C.hts _ w2⟩ ⟨KP_blind, fun U hU hW => ⟨rfl, by rw [hU], by rw [hU]; exact hPc, va_K.moved hW.alike C.hK, hDc.weaken (fun _ _ _ _ => trivial), NW.warm hW C.hN⟩⟩ rfl rfl hl.1 hst (lv_room hcat) hdg ⟨hR.2.2.1, hR.2.2.2⟩
/-! ===== BASE 5: what makes cells ===== -/
theorem v_newa (C : Cx p s m args c cc nL own D K A) {at0 : ArrayType} {N : Nat} {NI : Int} {ty : FieldType} {f : Nat → Int32} (t0 : Nat) {cA : ClassId} (hw : Cond.arrayClass (newarray.typeOf at0) ∈ kw) (hty : newarray.typeOf at0 = ty) (ht : (tk K)[t0]? = some (cA, ty)) (hra : ∀ c2, va_RA s c2 ty → va_RA s cA ty → c2 = cA) (hf : ∀ c2 : ClassId, vp_cell c2 (N, .inl f) = arrV c2 N (fun _ => defaultValue ty)) (hNI : (N : Int) = NI) (hN : NI ≤ 100000) (hby : N * componentBytes ty ≤ 536870912) (hR : k + 1 ≤ R.cells ∧ n + N ≤ R.slots) (hdg : decode cc pc = .ok (.newarray at0, 2))
    (kk : ∀ a : Nat, V p l e R s m args below meth c D A nL (k + 1) (n + N) Q (ws ++ [(a, .inl (cA, N, .inl f))]) (pc + 2) lv (.ref a :: st)) : V p l e R s m args below meth c D A nL k n Q ws pc lv (.int (zI NI) :: st) := by
  subst hNI
  have hr : rg (N : Int) := ⟨by omega, by omega⟩
  exact fun H locs ls hP hD hS hl => va_newa C.hx C.hb (C.hts _ hw) hty C.hK hP hD hS C.hA hf (fun q => by have := (zI_lt0 hr).mp q; omega) (zI_cl (by omega)) hby hR.1 hR.2 hdg (fun q c2 H1 hK1 hP1 hD1 hS1 => by
    have e2 : va_RA s c2 ty := (hK1.2 (tk K).length (c2, ty) (by simp)).2
    have e : c2 = cA := hra c2 e2 (C.hK.2 t0 _ ht).2
    subst e
    exact kk q H1 locs ls hP1 hD1 hS1 hl)
theorem ra_int {s : State} {c2 cA : ClassId} (h1 : va_RA s c2 .int) (h2 : va_RA s cA .int) : c2 = cA := Option.some.inj (Eq.trans (Eq.symm (h1 : s.vm.findClass _ = some c2)) h2)
theorem ra_bool {s : State} {c2 cA : ClassId} (h1 : va_RA s c2 .boolean) (h2 : va_RA s cA .boolean) : c2 = cA := Option.some.inj (Eq.trans (Eq.symm (h1 : s.vm.findClass _ = some c2)) h2)
theorem v_new (C : Cx p s m args c cc nL own D K A) {C' : String} {F : u_T} {N ci idx : Nat} {fs : List Value} (hin : ∀ w ∈ u_ws C' F N, w ∈ kw) (ty0 : Nat → FieldType) (hty : ∀ k, k < N → parseFieldDescriptor (F k).2.2.1 = some (ty0 k)) (hcl : Cond.classLink own idx C' ∈ kw) (hinst : Cond.instantiable C' N ∈ kw) (hini : Cond.initialized C' ∈ kw) (hc : cls[ci]? = some (C', F, N)) (hfs : ∀ j, j < N → defaultValue (ty0 j) = vp_V fs j) (hR : k + 1 ≤ R.cells ∧ n + N ≤ R.slots) (hdg : decode cc pc = .ok (.new idx, 3))
    (kk : ∀ a : Nat, V p l e R s m args below meth c D A nL (k + 1) (n + N) Q (ws ++ [(a, .inr (ci, fs))]) (pc + 3) lv (.ref a :: st)) : V p l e R s m args below meth c D A nL k n Q ws pc lv st :=
  fun H locs ls hP hD hS hl => va_new C.hx C.hb C.hts hin ty0 hty C.hown (C.hts _ hcl) (C.hts _ hinst) (C.hts _ hini) C.hK hP hD hS C.hA hc hfs hR.1 hR.2 hdg (fun q H1 hP1 hD1 hS1 => kk q H1 locs ls hP1 hD1 hS1 hl)
/-- Object.<init> -/
def wO (own : String) (idx : Nat) : Prop := Cond.methodLink own idx Lib.objectInit ∈ kw ∧ Cond.instanceMethod Lib.objectInit ∈ kw ∧ Cond.code Lib.objectInit ⟨#[0xb1]⟩ 1 none ∈ kw
theorem v_objInit (C : Cx p s m args c cc nL own D K A) {a idx : Nat} (hw : wO own idx) (hR : 1 ≤ R.frames ∧ 20 ≤ R.locals) (hcat : (st.map fun v => v.category).sum ≤ 8) (hdg : decode cc pc = .ok (.invokespecial idx, 3)) (kk : V p l e R s m args below meth c D A nL k n Q ws (pc + 3) lv st) : V p l e R s m args below meth c D A nL k n Q ws pc lv (.ref a :: st) :=
  fun H locs ls hP hD hS hl => W.objInit C.hx C.hb C.hown (C.hts _ hw.1) (C.hts _ hw.2.1) (C.hts _ hw.2.2) rfl (hl.1.trans C.hml.symm) rfl hdg hR.1 (by show 2 * 0 + _ + 12 ≤ _; omega) (kk H locs ls hP hD hS hl)
/-- a field that is no final one, any value -/
theorem v_putv (C : Cx p s m args c cc nL own D K A) {C' : String} {F : u_T} {N ci idx a : Nat} {fs : List Value} {v : Value} {ty : FieldType} {ws' : va_W} (hin : ∀ w ∈ u_ws C' F N, w ∈ kw) (ty0 : Nat → FieldType) (hty : ∀ k, k < N → parseFieldDescriptor (F k).2.2.1 = some (ty0 k)) (hnm : ∀ a, a < N → ∀ b, b < N → a ≠ b → (F a).2.1 ≠ (F b).2.1) (q0 : Nat) (he : ws[q0]? = some (a, .inr (ci, fs))) (hc : cls[ci]? = some (C', F, N)) (j : Nat) (hj : j < N) (hlk : Cond.fieldLink own idx (F j).1 (F j).2.1 (F j).2.2.1 ∈ kw) (hfin : (F j).2.2.2 = false) (hd : parseFieldDescriptor (F j).2.2.1 = some ty) (hn : narrow ty v = v) (hfit : fits ty v = true) (hlen : j < fs.length) (hset : ws.set q0 (a, .inr (ci, fs.set j v)) = ws') (hdg : decode cc pc = .ok (.putfield idx, 3)) (kk : V p l e R s m args below meth c D A nL k n Q ws' (pc + 3) lv st) : V p l e R s m args below meth c D A nL k n Q ws pc lv (v :: .ref a :: st) :=
  fun H locs ls hP hD hS hl => va_put C.hx C.hb C.hts hin ty0 hty hnm C.hown C.hK hP hD hS q0 he hc j hj (C.hts _ hlk) (fun _ h => h) hfin hd hn hfit hlen hdg (fun H1 locs1 hP1 hD1 hS1 => kk H1 locs1 ls (hset ▸ hP1) (hset ▸ hD1) hS1 hl)
/-- a final field, in a constructor -/
theorem v_putF (C : Cx p s m args c cc nL own D K A) {C' : String} {F : u_T} {N ci idx a : Nat} {fs : List Value} {v : Value} {ty : FieldType} {ws' : va_W} (hin2 : meth.name = "<init>") (hin : ∀ w ∈ u_ws C' F N, w ∈ kw) (ty0 : Nat → FieldType) (hty : ∀ k, k < N → parseFieldDescriptor (F k).2.2.1 = some (ty0 k)) (hnm : ∀ a, a < N → ∀ b, b < N → a ≠ b → (F a).2.1 ≠ (F b).2.1) (q0 : Nat) (he : ws[q0]? = some (a, .inr (ci, fs))) (hc : cls[ci]? = some (C', F, N)) (j : Nat) (hj : j < N) (hlk : Cond.fieldLink own idx (F j).1 (F j).2.1 (F j).2.2.1 ∈ kw) (hfin : (F j).2.2.2 = true) (hdecl : (F j).1 = own) (hd : parseFieldDescriptor (F j).2.2.1 = some ty) (hn : narrow ty v = v) (hfit : fits ty v = true) (hlen : j < fs.length) (hset : ws.set q0 (a, .inr (ci, fs.set j v)) = ws') (hdg : decode cc pc = .ok (.putfield idx, 3)) (kk : V p l e R s m args below meth c D A nL k n Q ws' (pc + 3) lv st) : V p l e R s m args below meth c D A nL k n Q ws pc lv (v :: .ref a :: st) :=
  fun H locs ls hP hD hS hl => va_putF C.hx C.hb C.hts hin ty0 hty hnm C.hown C.hK hP hD hS q0 he hc j hj (C.hts _ hlk) (fun _ h => h) hfin hin2 hdecl hd hn hfit hlen hdg (fun H1 locs1 hP1 hD1 hS1 => kk H1 locs1 ls (hset ▸ hP1) (hset ▸ hD1) hS1 hl)
/-- contracts of constructors -/
def Kn (l : Launch) (D : va_G) (K : Nat → ClassId) (y : MethodName) (cc : ByteArray) (nL : Nat) (fr mc ms lo : Nat) (As : List Value) (wc : va_W) (Post : Option Value → va_W → Prop) : Prop :=
  ∀ sz : Nat, Met l y (wk y cc nL none) ({ frames := fr, cells := mc, slots := ms, locals := lo }) (KP D K wc sz As) (KQ D wc sz Post) mc ms (va_A wc sz)
theorem Kn.of {y : MethodName} {fr mc ms lo : Nat} {As : List Value} {wc : va_W} {Post : Option Value → va_W → Prop} (hy : plainName y.cls = true) (hyn : y.name = "<init>") (hlen : (lg_sl As).length ≤ nL) {lv0 : List (Nat × Value)} (hlv : lv_args 0 As = lv0)
    (body : ∀ (p : Program) (e : Env) (R : Room) (s : State) (m : MethodId) (args : Array Value) (below : List Frame) (meth : Method) (c : Code) (A : Nat → Prop) (Q : State → Prop), R.frames = fr → R.cells = mc → R.slots = ms → R.locals = lo → meth.name = "<init>" → Cx p s m args c cc nL y.cls D K A →
      (∀ (ws : va_W) (pc : Nat) (lv : List (Nat × Value)), decode cc pc = .ok (.return_, 1) → Post none ws → V p l e R s m args below meth c D A nL mc ms Q ws pc lv []) → V p l e R s m args below meth c D A nL 0 0 Q wc 0 lv0 []) : Kn l D K y cc nL fr mc ms lo As wc Post := by
  intro sz
  subst hlv
  refine Met.ofW (cc := cc) (maxL := nL) (ret := none) hy rfl ?_
  intro p e s m args below meth c s₁ B hml hv
  obtain ⟨rfl, hsz, hP, hK, hD, hN⟩ := hv
  have hts := atoms_spec (ws := wk y cc nL none) B.pre
  have hown : s.vm.findClass y.cls = some m.cls := findClass_of_methodNamed B.named
  have hin : meth.name = "<init>" := (name_of_methodNamed B.named B.method).1.trans hyn
  have hl := lv_entry As (n := nL) hlen
  have C : Cx p s m As.toArray c cc nL y.cls D K (va_A wc sz) := ⟨B.exec, B.bytes, hml, hown, fun w hw => hts w (List.mem_cons_of_mem _ hw), hK, fun q h => Or.inr (hsz ▸ h), hN⟩
  have hlk := B.notSynchronized
  have hr := B.returns
  rw [lg_entry_eq]
  exact body p e _ s m _ below meth c (va_A wc sz) _ rfl rfl rfl rfl hin C (fun ws pc lv hdg h => fun H locs ls hP hD hS hl => W.vret C.hx C.hb hr (fun t ht hW => ⟨⟨none, ws, rfl, h, by rw [ht]; exact hP, hD⟩, hS.F ht⟩) hS.2.2 hdg hlk) s.heap [] _ hP hD.self va_S.rf hl
/-- behind a constructor -/
theorem v_runN (C : Cx p s m args c cc nL own D K A) {wc : va_W} {mc ms : Nat} {Post : Option Value → va_W → Prop} {rest : List Value} {a : Array Value} (isC isR : List Nat) (hC : isC.map (fun i => ws[i]?) = wc.map some) (hb : isR.all (fun i => decide (i < ws.length)) = true) (hn : va_nd isR = true) (hdis : ∀ i ∈ isR, i ∉ isC)
    (hr : ∀ (H : Heap) (locs : List Loc) (ls : Array Slot), va_P D cls ws H → va_D A ws → va_S A s.heap H locs → lv_has ls nL lv → va_Run p l e R s m args below meth c H locs k n mc ms (F0 m pc ls st) rest (KQ D wc H.size Post a) (va_A wc H.size))
    (kk : ∀ (v : Option Value) (w1 : va_W), Post v w1 → V p l e R s m args below meth c D A nL (k + mc) (n + ms) Q (pick ws isR ++ w1) (pc + 3) lv (v.toList ++ rest)) : V p l e R s m args below meth c D A nL k n Q ws pc lv st := by
  have hR := pick_map hb
  intro H locs ls hP hD hS hl T hT X
  have hF := va_free (wc := wc) hD hS C.hA isC hC
  obtain ⟨v, st₀, t, T', L, h0, X', hL, e1, e2, ⟨⟨v', w1, hv, hp, hP1, hD1⟩, hz, hk⟩, stp⟩ := hr H locs ls hP hD hS hl T hT X
  cases hv
  rw [h0] at hz hk
  have hk' : ∀ q : Nat, q < H.size → ¬ va_A wc H.size q → T'.heap[q]? = H[q]? := fun q h1 h2 => by rw [e1]; exact hk q h1 h2
  obtain ⟨hP2, hD2⟩ := va_join hP hD isC isR hC hR hn hdis hk' hF (by rw [e1]; exact hP1) hD1
  have hS2 : va_S A s.heap T'.heap (locs ++ L) := ⟨Nat.le_trans hS.1 (by rw [e1]; exact hz), fun q h1 h2 => by rw [e1, hk q (Nat.lt_of_lt_of_le h1 hS.1) (fun z => h2 (hF q z))]; exact hS.2.1 q h1 h2, fun q hq => by
    rcases List.mem_append.mp hq with h | h
    · exact hS.2.2 q h
    · exact hF _ (hL q h)⟩
  obtain ⟨t2, a1, b1⟩ := kk v w1 hp T'.heap (locs ++ L) ls hP2 hD2 hS2 hl T' rfl X'
  exact ⟨t2, stp t2 a1, b1⟩
def wI (own : String) (idx : Nat) (y : MethodName) (bytes : ByteArray) (maxL nA : Nat) : Prop :=
  Cond.methodLink own idx y ∈ kw ∧ Cond.instanceMethod y ∈ kw ∧ Cond.initialized y.cls ∈ kw ∧ Cond.code y bytes maxL none ∈ kw ∧ y.name = "<init>" ∧ y.cls ≠ "java/lang/invoke/MethodHandle" ∧ y.cls ≠ "java/lang/invoke/VarHandle" ∧ (parseMethodDescriptor y.desc).map (fun d => d.parameters.length) = some nA
theorem v_callI (C : Cx p s m args c cc nL own D K A) {y : MethodName} {bytes : ByteArray} {maxL idx fr mc ms lo b nA : Nat} {As rest : List Value} {wc : va_W} {Post : Option Value → va_W → Prop} (hM : Kn l D K y bytes maxL fr mc ms lo (.ref b :: As) wc Post) (hw : wI own idx y bytes maxL nA) (hA : As.length = nA) (hR : fr + 1 ≤ R.frames ∧ 8 + (maxL + 11) + lo ≤ R.locals ∧ k + mc ≤ R.cells ∧ n + ms ≤ R.slots)
    (isC isR : List Nat) (hC : isC.map (fun i => ws[i]?) = wc.map some) (hnC : va_nd isC = true) (hRs : isR.all (fun i => decide (i < ws.length)) = true) (hn : va_nd isR = true) (hdis : ∀ i ∈ isR, i ∉ isC) (hst : st = As.reverse ++ .ref b :: rest) (hcat : (rest.map fun v => v.category).sum ≤ 8) (hdg : decode cc pc = .ok (.invokespecial idx, 3))
    (kk : ∀ (v : Option Value) (w1 : va_W), Post v w1 → V p l e R s m args below meth c D A nL (k + mc) (n + ms) Q (pick ws isR ++ w1) (pc + 3) lv (v.toList ++ rest)) : V p l e R s m args below meth c D A nL k n Q ws pc lv st := by
  obtain ⟨w1, w2, w4, w5, wn, w6, w7, w8⟩ := hw
  subst hA
  refine v_runN C (a := (Value.ref b :: As).toArray) isC isR hC hRs hn hdis (fun H locs ls hP hD hS hl => ?_) kk
  have hPc := hP.sub isC (map_pick hC)
  have hDc := hD.sub isC hnC hC
  exact va_runI (As := As) (rest := rest) ⟨C.hx, C.hb, C.hml, C.hown, C.hts⟩ (hM H.size) ⟨callB_of As.length C.hts (wk_good w5) rfl rfl rfl (C.hts _ w4) (C.hts _ w1) ⟨w6, w7, w8⟩ ⟨hR.1, hR.2.1⟩, wn, C.hts _ w2⟩ ⟨KP_blind, fun U hU hW => ⟨rfl, by rw [hU], by rw [hU]; exact hPc, va_K.moved hW.alike C.hK, hDc.weaken (fun _ _ _ _ => trivial), NW.warm hW C.hN⟩⟩ rfl rfl hl.1 hst (lv_room hcat) hdg ⟨hR.2.2.1, hR.2.2.2⟩
/-- a constructor of a nest mate -/
def wJ (own : String) (idx : Nat) (y : MethodName) (bytes : ByteArray) (maxL nA : Nat) (host : String) : Prop :=
  (own, idx, y, host) ∈ nW ∧ Cond.instanceMethod y ∈ kw ∧ Cond.initialized y.cls ∈ kw ∧ Cond.code y bytes maxL none ∈ kw ∧ y.name = "<init>" ∧ y.cls ≠ "java/lang/invoke/MethodHandle" ∧ y.cls ≠ "java/lang/invoke/VarHandle" ∧ (parseMethodDescriptor y.desc).map (fun d => d.parameters.length) = some nA
theorem v_callJ (C : Cx p s m args c cc nL own D K A) {y : MethodName} {bytes : ByteArray} {maxL idx fr mc ms lo b nA : Nat} {As rest : List Value} {host : String} {wc : va_W} {Post : Option Value → va_W → Prop} (hM : Kn l D K y bytes maxL fr mc ms lo (.ref b :: As) wc Post) (hw : wJ own idx y bytes maxL nA host) (hA : As.length = nA) (hR : fr + 1 ≤ R.frames ∧ 8 + (maxL + 11) + lo ≤ R.locals ∧ k + mc ≤ R.cells ∧ n + ms ≤ R.slots)
    (isC isR : List Nat) (hC : isC.map (fun i => ws[i]?) = wc.map some) (hnC : va_nd isC = true) (hRs : isR.all (fun i => decide (i < ws.length)) = true) (hn : va_nd isR = true) (hdis : ∀ i ∈ isR, i ∉ isC) (hst : st = As.reverse ++ .ref b :: rest) (hcat : (rest.map fun v => v.category).sum ≤ 8) (hdg : decode cc pc = .ok (.invokespecial idx, 3))
    (kk : ∀ (v : Option Value) (w1 : va_W), Post v w1 → V p l e R s m args below meth c D A nL (k + mc) (n + ms) Q (pick ws isR ++ w1) (pc + 3) lv (v.toList ++ rest)) : V p l e R s m args below meth c D A nL k n Q ws pc lv st := by
  obtain ⟨w1, w2, w4, w5, wn, w6, w7, w8⟩ := hw
  subst hA
  refine v_runN C (a := (Value.ref b :: As).toArray) isC isR hC hRs hn hdis (fun H locs ls hP hD hS hl => ?_) kk
  have hPc := hP.sub isC (map_pick hC)
  have hDc := hD.sub isC hnC hC
  exact va_runIN (As := As) (rest := rest) (host := host) ⟨C.hx, C.hb, C.hml, C.hown, C.hts⟩ (hM H.size) ⟨va_cnB As.length C.hts (wk_good w5) rfl rfl rfl (C.hN.1 _ w1) (C.hts _ w4) ⟨w6, w7, w8⟩ ⟨hR.1, hR.2.1⟩, wn, C.hts _ w2⟩ ⟨KP_blind, fun U hU hW => ⟨rfl, by rw [hU], by rw [hU]; exact hPc, va_K.moved hW.alike C.hK, hDc.weaken (fun _ _ _ _ => trivial), NW.warm hW C.hN⟩⟩ rfl rfl hl.1 hst (lv_room hcat) hdg ⟨hR.2.2.1, hR.2.2.2⟩
/-- an array of references by another function that says the same of its places -/
theorem v_rows {a N : Nat} {cA : ClassId} {f f2 : Nat → Option Nat} (q0 : Nat) (ha : ws[q0]? = some (a, .inl (cA, N, .inr (.inr (.inr (.inr f)))))) (h : (List.range N).map f = (List.range N).map f2) (kk : V p l e R s m args below meth c D A nL k n Q (ws.set q0 (a, .inl (cA, N, .inr (.inr (.inr (.inr f2)))))) pc lv st) : V p l e R s m args below meth c D A nL k n Q ws pc lv st := by
  intro H locs ls hP hD hS hl
  have hf : ∀ j, j < N → f j = f2 j := fun j hj => by
    have := congrArg (fun x : List (Option Nat) => x[j]?) h
    simpa [List.getElem?_map, List.getElem?_range hj] using this
  have hcell : vp_cell cA (N, .inr (.inr (.inr (.inr f)))) = vp_cell cA (N, .inr (.inr (.inr (.inr f2)))) := by
    show arrV cA N (fun j => va_rf (f j)) = arrV cA N (fun j => va_rf (f2 j))
    unfold arrV
    congr 1
    apply Array.ext
    · simp
    · intro i h1 h2
      have hi : i < N := by simpa using h1
      simp [hf i hi]
  refine kk H locs ls (hP.set hD ha ?_ (fun q hq => rfl)) (hD.set ha) hS hl
  show H[a]? = some (vp_cell _ _)
  rw [← hcell]
  exact hP q0 _ ha
/-- more cells than are used -/
theorem v_widen {k' n' : Nat} (hk : k ≤ k') (hn : n ≤ n') (kk : V p l e R s m args below meth c D A nL k' n' Q ws pc lv st) : V p l e R s m args below meth c D A nL k n Q ws pc lv st :=
  fun H locs ls hP hD hS hl => W.widen hk hn (kk H locs ls hP hD hS hl)
/-- what a static call to a nest mate wants -/
def wN (own : String) (idx : Nat) (y : MethodName) (bytes : ByteArray) (maxL : Nat) (ret : Option FieldType) (nA : Nat) (host : String) : Prop :=
  (own, idx, y, host) ∈ nW ∧ Cond.static y ∈ kw ∧ Cond.initialized y.cls ∈ kw ∧ Cond.code y bytes maxL ret ∈ kw ∧ y.cls ≠ "java/lang/invoke/MethodHandle" ∧ y.cls ≠ "java/lang/invoke/VarHandle" ∧ (parseMethodDescriptor y.desc).map (fun d => d.parameters.length) = some nA
theorem v_callN (C : Cx p s m args c cc nL own D K A) {y : MethodName} {bytes : ByteArray} {maxL idx fr lo nA : Nat} {ret : Option FieldType} {As rest : List Value} {wc : va_W} {Post : Option Value → va_W → Prop} {host : String} (hM : Kt l D K y bytes maxL ret fr lo As wc Post) (hw : wN own idx y bytes maxL ret nA host) (hA : As.length = nA) (hR : rOk R k n fr maxL lo)
    (isC isR : List Nat) (hC : isC.map (fun i => ws[i]?) = wc.map some) (hnC : va_nd isC = true) (hRs : isR.all (fun i => decide (i < ws.length)) = true) (hn : va_nd isR = true) (hdis : ∀ i ∈ isR, i ∉ isC) (hst : st = As.reverse ++ rest) (hcat : (rest.map fun v => v.category).sum ≤ 8) (hdg : decode cc pc = .ok (.invokestatic idx, 3))
    (kk : ∀ (v : Option Value) (w1 : va_W), Post v w1 → V p l e R s m args below meth c D A nL k n Q (pick ws isR ++ w1) (pc + 3) lv (v.toList ++ rest)) : V p l e R s m args below meth c D A nL k n Q ws pc lv st := by
  obtain ⟨w1, w2, w4, w5, w6, w7, w8⟩ := hw
  subst hA
  refine v_run C (a := As.toArray) isC isR hC hRs hn hdis (fun H locs ls hP hD hS hl => ?_) kk
  have hPc := hP.sub isC (map_pick hC)
  have hDc := hD.sub isC hnC hC
  exact va_runSN (As := As) (rest := rest) (host := host) ⟨C.hx, C.hb, C.hml, C.hown, C.hts⟩ (hM H.size) ⟨va_cnB As.length C.hts (wk_good w5) rfl rfl rfl (C.hN.1 _ w1) (C.hts _ w4) ⟨w6, w7, w8⟩ ⟨hR.1, hR.2.1⟩, C.hts _ w2, trivial⟩ ⟨KP_blind, fun U hU hW => ⟨rfl, by rw [hU], by rw [hU]; exact hPc, va_K.moved hW.alike C.hK, hDc.weaken (fun _ _ _ _ => trivial), NW.warm hW C.hN⟩⟩ rfl rfl hl.1 hst (lv_room hcat) hdg ⟨hR.2.2.1, hR.2.2.2⟩
end VW
