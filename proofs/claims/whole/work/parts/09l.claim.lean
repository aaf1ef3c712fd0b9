
theorem nest_in : ∀ w ∈ nW, Cond.methodLinkNest w.1 w.2.1 w.2.2.1 w.2.2.2 ∈ lw_tbl := by decide +kernel
theorem over_in : Cond.arrayOver (.array .int) ∈ lw_tbl := by decide +kernel
def twr : List Cond := [.isRef (.static Bundle.tN "UNASSIGNED_STACK" Bundle.steD), .isRef (.static Bundle.tN "SUPPRESSED_SENTINEL" Bundle.listD)]
theorem tw_in : ∀ w ∈ twl, w ∈ lw_tbl ∨ w ∈ twr := by decide +kernel
set_option maxHeartbeats 4000000 in
set_option maxRecDepth 100000 in
theorem whole_start {I : s_LS → s_Mo → Prop} (hI : ∀ a0 a1 a2 a3 a4 a5 : Int, rg a0 → rg a1 → rg a2 → rg a3 → rg a4 → rg a5 → ∀ (sx : s_LS) (sm : s_Mo), I sx sm → stepP a0 a1 a2 a3 a4 a5 sx sm I) (h0 : I init_LS init_Mo) {p : Program} {e : Env} {s : State} {m : MethodId} {below : List Frame} {meth : Method} {c : Code} (l : Launch) (htr : l.stackTraces = false) {b L : Nat} {xs : Nat → Int32} (hL : L ≤ 3072) (C0 : lw_At p s m meth c b L xs) : W p l e room_1 s m #[Value.ref b] below meth c s.heap [] 0 0 (lw_Z below #[Value.ref b] s) (entryFrame m ([Value.ref b] : List Value).toArray 7) := by
  obtain ⟨hx, hb, hr, hml, hown, hts, hX, hbl, hlocks, hgv⟩ := id C0
  have hkw : ∀ w ∈ kw, w.before #[Value.ref b] s = true := fun w hw => hts w (kw_tbl hw)
  obtain ⟨c0, iS0, hKn0⟩ := u_known (C := R_LS) (T := F_LS) (N := 6) (n := 6) hkw in_LS (hkw _ mw_18)
  obtain ⟨c1, iS1, hKn1⟩ := u_known (C := R_Me) (T := F_Me) (N := 6) (n := 6) hkw in_Me (hkw _ mw_26)
  obtain ⟨c2, iS2, hKn2⟩ := u_known (C := R_Mn) (T := F_Mn) (N := 8) (n := 8) hkw in_Mn (hkw _ mw_62)
  obtain ⟨c3, iS3, hKn3⟩ := u_known (C := R_Sl) (T := F_Sl) (N := 5) (n := 5) hkw in_Sl (hkw _ mw_97)
  obtain ⟨c4, iS4, hKn4⟩ := u_known (C := R_So) (T := F_So) (N := 7) (n := 7) hkw in_So (hkw _ mw_124)
  obtain ⟨c5, iS5, hKn5⟩ := u_known (C := R_Ro) (T := F_Ro) (N := 1) (n := 1) hkw in_Ro (hkw _ mw_156)
  obtain ⟨c6, iS6, hKn6⟩ := u_known (C := R_Pr) (T := F_Pr) (N := 5) (n := 5) hkw in_Pr (hkw _ mw_168)
  obtain ⟨c7, iS7, hKn7⟩ := u_known (C := R_Mo) (T := F_Mo) (N := 28) (n := 28) hkw in_Mo (hkw _ mw_600)
  obtain ⟨D, hKc⟩ : ∃ D : va_G, ∀ (k : Nat) (q : vw_C), cls[k]? = some q → u_Kn s q.1 q.2.1 q.2.2 (D.1 k) (D.2 k) := by
    refine ⟨(fun k => if k = 0 then c0 else if k = 1 then c1 else if k = 2 then c2 else if k = 3 then c3 else if k = 4 then c4 else if k = 5 then c5 else if k = 6 then c6 else c7, fun k => if k = 0 then iS0 else if k = 1 then iS1 else if k = 2 then iS2 else if k = 3 then iS3 else if k = 4 then iS4 else if k = 5 then iS5 else if k = 6 then iS6 else iS7), ?_⟩
    intro k q hq
    match k, hq with
    | 0, hq => cases hq; exact hKn0
    | 1, hq => cases hq; exact hKn1
    | 2, hq => cases hq; exact hKn2
    | 3, hq => cases hq; exact hKn3
    | 4, hq => cases hq; exact hKn4
    | 5, hq => cases hq; exact hKn5
    | 6, hq => cases hq; exact hKn6
    | 7, hq => cases hq; exact hKn7
    | k + 8, hq => simp [cls] at hq
  obtain ⟨a0, ka0, ca0, fa0, ga0, ha0⟩ := Cond.arrayClass_spec (hkw _ ka_int)
  obtain ⟨a1, ka1, ca1, fa1, ga1, ha1⟩ := Cond.arrayClass_spec (hkw _ ka_boolean)
  obtain ⟨a2, ka2, ca2, fa2, ga2, ha2⟩ := Cond.arrayClass_spec (hkw _ ka_long)
  obtain ⟨ca3, a3, ka3, -, -, ga3, ha3, fa3⟩ := arrayOverA_spec (hts _ over_in)
  have hK : va_K D cls (tk (fun k => if k = 0 then a0 else if k = 1 then a1 else if k = 2 then a2 else a3)) s := by
    refine ⟨hKc, fun k q hq => ?_⟩
    match k, hq with
    | 0, hq => cases hq; exact ⟨fun n z => ⟨fun k h => (by cases h), ka0, ga0, ca0, ha0⟩, fa0⟩
    | 1, hq => cases hq; exact ⟨fun n z => ⟨fun k h => (by cases h), ka1, ga1, ca1, ha1⟩, fa1⟩
    | 2, hq => cases hq; exact ⟨fun n z => ⟨fun k h => (by cases h), ka2, ga2, ca2, ha2⟩, fa2⟩
    | 3, hq => cases hq; exact ⟨fun n z => ⟨fun k h => (by cases h), ka3, ga3, ca3, ha3⟩, fa3⟩
    | k + 4, hq => simp [tk] at hq
  have hN : NW s := ⟨fun w hw => va_Nw.of rfl (hts _ (nest_in w hw)), over_moved (Vm.Alike.refl _) (hts _ over_in)⟩
  have hgf := flat_of_before _ hgv
  have hTW : TW s := fun w hw => by
    rcases tw_in w hw with h | h
    · exact tw_heap (tw_ok w hw).1 rfl (fun _ _ h _ => h) (hts w h)
    · have h2 : w.before #[Value.ref b] s = true := by
        rcases List.mem_cons.mp h with rfl | h
        · exact hgf _ (by decide +kernel)
        · rcases List.mem_cons.mp h with rfl | h
          · exact hgf _ (by decide +kernel)
          · cases h
      exact tw_heap (tw_ok w hw).1 rfl (fun _ _ h _ => h) h2
  have hl := lv_entry ([.ref b]) (n := 7) (Nat.le_of_ble_eq_true rfl)
  rw [lg_entry_eq]
  exact law_start htr hL hr hlocks ⟨hx, hb, hml, hown, hkw, hK, fun _ h => h, hN⟩ hX hbl hTW hI h0 s.heap [] _ (fun k q h => by simp at h) ⟨fun i j p q h => by simp at h, fun k q h => by simp at h⟩ va_S.rf hl
set_option maxHeartbeats 4000000 in
theorem lw_walk {I : s_LS → s_Mo → Prop} (hI : ∀ a0 a1 a2 a3 a4 a5 : Int, rg a0 → rg a1 → rg a2 → rg a3 → rg a4 → rg a5 → ∀ (sx : s_LS) (sm : s_Mo), I sx sm → stepP a0 a1 a2 a3 a4 a5 sx sm I) (h0 : I init_LS init_Mo) (l : Launch) (htr : l.stackTraces = false) (b : Addr) (xs : List Int32) : MetFree l x (headSpec (Jvm.Cond.code x code maxLocals ret :: tables_1) room_1) (lw_P b xs) (fun _ _ _ _ _ => True) lw_Q := by
  refine MetFree.of_bodyS (code := code) (maxLocals := maxLocals) (ret := ret) (by decide) ?_ ?_
  · intro args s m h hn
    obtain ⟨meth, c, h1, h2, h3, h4, h5, h6, -, -⟩ := Cond.code_spec hn (atoms_spec (ws := Jvm.Cond.code x code maxLocals ret :: tables_1) h _ List.mem_cons_self)
    exact ⟨meth, c, h1, h2, h3, h4, h5, h6⟩
  · intro p e s m args below meth c s₁ B hml0 hP _
    obtain ⟨rfl, hx, hbd, hgv⟩ := hP
    obtain ⟨scr, harrAt, hlist, hof, hsmall⟩ := hx
    obtain ⟨hcb, hkn, -, -⟩ := State.arrayAt?_spec harrAt
    have hown : s.vm.findClass R_law = some m.cls := findClass_of_methodNamed B.named
    have hts0 : ∀ c ∈ (Jvm.Cond.code x code maxLocals ret :: tables_1), c.before #[Value.ref b] s = true := atoms_spec (ws := Jvm.Cond.code x code maxLocals ret :: tables_1) B.pre
    have hts : ∀ w ∈ lw_tbl, w.before #[Value.ref b] s = true := k2_hts_sels lw_privs (fun w hw => hts0 w (List.mem_cons_of_mem _ hw)) lw_privs_ok
    have hml : c.maxLocals = 7 := B.maxLocals_eq (hts0 _ List.mem_cons_self)
    have X₀ : Stand p l e room_1 s m #[Value.ref b] below meth c s₁ [] 0 0 := Stand.of_body B
    have hh0 : s₁.heap = s.heap := by rw [B.state]; rfl
    have hsz : scr.slots.size = xs.length := by rw [← Array.length_toList, hlist, List.length_map]
    have hval : ∀ j : Nat, j < xs.length → scr.slots[j]? = some (.int (xs.getD j 0)) := fun j hj => by
      rw [← Array.getElem?_toList, hlist]
      simp [hj]
    have hbl : b < s.heap.size := (Array.getElem?_eq_some_iff.mp hcb).1
    have hX : va_X b xs.length (fun j => xs.getD j 0) s s.heap := ⟨scr, hcb, hof, hkn, hsz, hval⟩
    have K : W p l e room_1 s m #[Value.ref b] below meth c s₁.heap [] 0 0 (lw_Z below #[Value.ref b] s) (entryFrame m ([Value.ref b] : List Value).toArray 7) := by
      rw [hh0]
      exact whole_start hI h0 l htr hbd ⟨B.exec, B.bytes, B.returns, hml, hown, hts, hX, hbl, B.notSynchronized, hgv⟩
    obtain ⟨t, a1, o, b1, b2, b3⟩ := K s₁ rfl X₀
    exact ⟨t, o, a1, b1, b2, b3⟩
theorem lw_pre_spec {args : Array Value} {s : State} (h : (Jvm.Cond.and given_1 narrow_1).before args s = true) (hr : rest_1_c.before args s = true) : ∃ (b : Addr) (xs : List Int32), lw_P b xs args s := by
  have hs := flat_of_before _ h
  have hq := flat_of_before _ hr
  have hc : (Cond.count 1).before args s = true := hs _ (by decide +kernel)
  have harr : (Cond.arrayOf (.arg 0) .int).before args s = true := hs _ (by decide +kernel)
  have hle : (Cond.le (.length (.arg 0)) (.int 3072)).before args s = true := hs _ (by decide +kernel)
  have hlen : (Cond.isInt (.length (.arg 0))).before args s = true := hq _ (by decide +kernel)
  have hall : (Cond.all (.arg 0) (.isInt (.elem (.arg 0) (.index 0)))).before args s = true := hq _ (by decide +kernel)
  obtain ⟨b, xs, hb, hx⟩ := State.ints_of_pre rfl harr hlen hall
  have hsm : xs.length < 2 ^ 31 := hx.choose_spec.2.2.2
  have hev : (Term.length (.arg 0)).eval args s none [] s = some (.int xs.length.toInt32) := hx.length_eval hb
  have hv := Cond.le_ints hev (show (Term.int 3072).eval args s none [] s = some (.int 3072) from rfl)
  have hd : xs.length.toInt32 ≤ 3072 := by
    simpa [Cond.before, Cond.holds, hv] using hle
  have hN : xs.length ≤ 3072 := (Int32.ofNat_le_ofNat hsm (by decide)).mp (show Int32.ofNat xs.length ≤ Int32.ofNat 3072 from hd)
  exact ⟨b, xs, Cond.one_arg hc (show args[0]? = some (.ref b) from hb), hx, hN, h⟩
theorem lw_comes {I : s_LS → s_Mo → Prop} (hI : ∀ a0 a1 a2 a3 a4 a5 : Int, rg a0 → rg a1 → rg a2 → rg a3 → rg a4 → rg a5 → ∀ (sx : s_LS) (sm : s_Mo), I sx sm → stepP a0 a1 a2 a3 a4 a5 sx sm I) (h0 : I init_LS init_Mo) (l : Launch) (htr : l.stackTraces = false) : Comes l x (Jvm.Cond.code x code maxLocals ret :: tables_1) room_1 (fun tb e args s => Calls_1 tb e args s ∧ rest_1 tb e args s ∧ Pre_1 tb e args s)
    (fun _ _ args s o t => lw_Q args s o t) := by
  intro p e ha hc hk s m args below hf hfit hheap happ hpre
  obtain ⟨b, xs, hP⟩ := lw_pre_spec hpre.2.2 hpre.2.1
  obtain ⟨k, o, h1, h2, h3, hQ⟩ := lw_walk hI h0 l htr b xs p e ha hc hk s m args below hf ((Spec.applies_iff_loose hf).mp happ).1 hP trivial
  exact ⟨k, o, h1, h2, h3, hQ⟩
theorem lw_frame {s t : State} {o : Outcome} {args : Array Value} (h : Framed s o t [] 601024 7293034) :
    Framed s o t (fieldLocs frame_1_writes args s ++ arrayLocs frame_1_arrays args s ++ staticLocs frame_1_statics s) 601024 7293034 := h
theorem lw_limb {I : s_LS → s_Mo → Prop} (hI : ∀ a0 a1 a2 a3 a4 a5 : Int, rg a0 → rg a1 → rg a2 → rg a3 → rg a4 → rg a5 → ∀ (sx : s_LS) (sm : s_Mo), I sx sm → stepP a0 a1 a2 a3 a4 a5 sx sm I) (h0 : I init_LS init_Mo) (L : Cond) (hL : ∀ (args : Array Value) (s t : State), L.after args s (.returned (some (.int 1))) t = true) :
    ArmFor flags0 classFile x code maxLocals ret World_1 tables_1 room_1 Calls_1 rest_1 Pre_1
      (fun tb e a s o t => postC L tb e a s o t ∧ Framed s o t (fieldLocs frame_1_writes a s ++ arrayLocs frame_1_arrays a s ++ staticLocs frame_1_statics s) 601024 7293034) := by
  intro l hfl _ _ p e ha hc hk s m args below hf hfit hheap happ hpre
  obtain ⟨k, o, h1, h2, h3, rfl, hF⟩ := lw_comes hI h0 l (by unfold Launch.stackTraces; rw [hfl]; decide +kernel) p e ha hc hk s m args below hf hfit hheap happ hpre
  exact ⟨k, _, h1, h2, h3, hL args s _, lw_frame hF⟩
theorem i_vc_of {I : s_LS → s_Mo → Prop} (hI : ∀ a0 a1 a2 a3 a4 a5 : Int, rg a0 → rg a1 → rg a2 → rg a3 → rg a4 → rg a5 → ∀ (sx : s_LS) (sm : s_Mo), I sx sm → stepP a0 a1 a2 a3 a4 a5 sx sm I) (h0 : I init_LS init_Mo) : Claimed_1_1 ∧ Claimed_1_2 := ⟨lw_limb hI h0 limb_1_1 (fun args s t => by simp [limb_1_1, Cond.after, Cond.holds, Cond.value]), lw_limb hI h0 limb_1_2 (fun args s t => Cond.after_iff.mpr (by
  first | (rw [show limb_1_2 = Cond.eq .result (.int 1) from rfl, Cond.eq_ints (x := 1) (y := 1) rfl rfl]; simp; done) | (simp [limb_1_2, Cond.value, Term.eval]; done)))⟩

