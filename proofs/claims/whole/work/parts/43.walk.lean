/-! ===== MEANING 33: the walk round a hole ===== -/
/-- how often the edge from c to j is open -/
def opn (nm : Int → Int) (n : Nat) (c : Int) (j : Nat) : Int := pos (En nm (3 * n) c (j : Int))
theorem opn_nn (nm : Int → Int) (n : Nat) (c : Int) (j : Nat) : 0 ≤ opn nm n c j := pos_nn _
theorem opn_le (nm : Int → Int) {n : Nat} (hn : n ≤ 120) (c : Int) (j : Nat) : opn nm n c j ≤ 360 := by
  have h := En_in nm c j (3 * n)
  unfold opn pos
  split <;> omega
theorem sm_mono {g : Nat → Int} (hg : ∀ i, 0 ≤ g i) {m n : Nat} (h : m ≤ n) : sm g m ≤ sm g n := by
  obtain ⟨d, rfl⟩ := Nat.le.dest h
  rw [sm_split]
  have := sm_nn (f := fun i => g (m + i)) (n := d) (fun i _ => hg _)
  omega
theorem sm_rg {g : Nat → Int} (h0 : ∀ i, 0 ≤ g i) (h1 : ∀ i, g i ≤ 360) (n : Nat) : 0 ≤ sm g n ∧ sm g n ≤ n * 360 := by
  refine ⟨sm_nn (fun i _ => h0 i), ?_⟩
  rw [← sm_const]
  exact sm_le (fun i _ => h1 i)
theorem e1_out {u v a j : Int} (h1 : u ≠ j) (h2 : v ≠ j) : e1 u v a j = 0 := by
  unfold e1
  rw [if_neg (fun w => h2 w.2), if_neg (fun w => h1 w.1)]
theorem e1_self {u v a : Int} (h : u ≠ v) : e1 u v a a = 0 := by
  unfold e1
  rw [if_neg (fun w => h (w.1.trans w.2.symm)), if_neg (fun w => h (w.1.trans w.2.symm))]
theorem En_self {nm : Int → Int} {nc : Int} {n : Nat} (hT : Tok nm nc n) (a : Int) : ∀ t : Nat, t ≤ n → En nm (3 * t) a a = 0
  | 0, _ => rfl
  | t + 1, h => by
    obtain ⟨d1, d2, d3⟩ := hT.2 t (by omega)
    rw [En_3, En_self hT a t (by omega), e1_self d1, e1_self d2, e1_self d3]
    rfl
theorem En_out {nm : Int → Int} {nc : Int} {n : Nat} (hT : Tok nm nc n) (a : Int) {j : Int} (hj : nc ≤ j) : ∀ t : Nat, t ≤ n → En nm (3 * t) a j = 0
  | 0, _ => rfl
  | t + 1, h => by
    have r0 := hT.1 (3 * t) (by omega) (by omega)
    have r1 := hT.1 (3 * t + 1) (by omega) (by omega)
    have r2 := hT.1 (3 * t + 2) (by omega) (by omega)
    rw [En_3, En_out hT a hj t (by omega), e1_out (by omega) (by omega), e1_out (by omega) (by omega), e1_out (by omega) (by omega)]
    rfl
theorem opn_self {nm : Int → Int} {nc : Int} {n : Nat} (hT : Tok nm nc n) (j : Nat) : opn nm n j j = 0 := by
  unfold opn
  rw [En_self hT _ n (Nat.le_refl n)]
  rfl
theorem opn_80 {nm : Int → Int} {nc n : Nat} (hT : Tok nm nc n) (hc : nc ≤ 80) (c : Int) : sm (fun j => pos (En nm (3 * n) c (j : Int))) 80 = sm (opn nm n c) nc := by
  show sm (opn nm n c) 80 = _
  rw [show 80 = nc + (80 - nc) by omega, sm_split]
  have : sm (fun i => opn nm n c (nc + i)) (80 - nc) = sm (fun _ => 0) (80 - nc) := by
    apply sm_congr
    intro i hi
    unfold opn
    rw [En_out hT c (j := ((nc + i : Nat) : Int)) (by omega) n (Nat.le_refl n)]
    rfl
  rw [this, sm_zero, Int.add_zero]
/-- the first that is more than 0 -/
def fg (g : Nat → Int) : Nat → Nat → Int
  | 0, _ => -1
  | k + 1, v => if 0 < g v then v else fg g k (v + 1)
/-- the only corner that an open edge goes to, or -1 -/
def nxt (nm : Int → Int) (n nc : Nat) (c : Int) : Int := if sm (opn nm n c) nc = 1 then fg (opn nm n c) nc 0 else -1
theorem fg_at {g : Nat → Int} {k : Nat} (h1 : 0 < g k) (h0 : ∀ i, i < k → g i = 0) : ∀ (j v : Nat), v ≤ k → k < v + j → fg g j v = k
  | 0, v => fun _ h => by omega
  | j + 1, v => by
    intro q1 q2
    show (if 0 < g v then (v : Int) else fg g j (v + 1)) = k
    by_cases e : v = k
    · rw [e, if_pos h1]
    · rw [if_neg (by rw [h0 v (by omega)]; omega)]
      exact fg_at h1 h0 j (v + 1) (by omega) (by omega)
theorem nxt_1 {nm : Int → Int} {n nc : Nat} {c : Int} (h : sm (opn nm n c) nc = 1) : ∃ k : Nat, k < nc ∧ nxt nm n nc c = k ∧ opn nm n c k = 1 ∧ ∀ i, i < nc → i ≠ k → opn nm n c i = 0 := by
  obtain ⟨k, hk, h1, h0⟩ := (sm_one (fun i _ => opn_nn nm n c i)).mp h
  refine ⟨k, hk, ?_, h1, h0⟩
  unfold nxt
  rw [if_pos h]
  exact fg_at (by omega) (fun i hi => h0 i (by omega) (by omega)) nc 0 (by omega) (by omega)
theorem nxt_0 {nm : Int → Int} {n nc : Nat} {c : Int} (h : sm (opn nm n c) nc ≠ 1) : nxt nm n nc c = -1 := if_neg h
theorem nxt_in (nm : Int → Int) (n nc : Nat) (c : Int) : -1 ≤ nxt nm n nc c ∧ nxt nm n nc c < nc := by
  by_cases h : sm (opn nm n c) nc = 1
  · obtain ⟨k, hk, e, -⟩ := nxt_1 h
    omega
  · rw [nxt_0 h]
    omega
/-! the reference -/
theorem m_only {c : Int} {s0 : s_Mo} {nm : Int → Int} {n nc : Nat} {Q : Int → Prop} (hT : Tok nm nc n) (hn : n ≤ 120) (hc : nc ≤ 80) (en : gMo_triangles s0 = n) (enm : gMo_named s0 = nm) (enc : gMo_corners s0 = nc) (h0 : 0 ≤ c ∧ c < nc) (h : Q (nxt nm n nc c)) : wp_Mo_only c s0 Q := by
  unfold wp_Mo_only
  rw [enc]
  intro P4 P27 h4 h27
  have hr : ∀ i : Int, 0 ≤ i → i < 3 * n → 0 ≤ nm i ∧ nm i < 80 := fun i i1 i2 => ⟨(hT.1 i i1 i2).1, by have := (hT.1 i i1 i2).2; omega⟩
  have key : ∀ (k v : Nat) (f : Int), v + k = nc → ((f = -1 ∧ sm (opn nm n c) v = 0) ∨ (0 ≤ f ∧ f < v ∧ opn nm n c f.toNat = 1 ∧ sm (opn nm n c) v = 1)) → P4 f v := by
    intro k
    induction k with
    | zero =>
      intro v f e hf
      have e : v = nc := by omega
      subst e
      apply h4
      refine ⟨⟨by omega, by omega⟩, ⟨by omega, by omega⟩, fun _ => ?_, fun q => by omega⟩
      rcases hf with ⟨f1, f2⟩ | ⟨f1, f2, f3, f4⟩
      · rw [nxt_0 (by omega)] at h
        rw [f1]
        exact h
      · obtain ⟨k, hk, ek, h1, hz⟩ := nxt_1 f4
        have : f.toNat = k := by
          by_cases w : f.toNat = k
          · exact w
          · have := hz f.toNat (by omega) w
            omega
        rw [ek] at h
        rw [show f = (k : Int) by omega]
        exact h
    | succ k ih =>
      intro v f e hf
      have hg := opn_nn nm n c v
      have hm := sm_mono (g := opn nm n c) (opn_nn nm n c) (m := v + 1) (n := nc) (by omega)
      rw [sm_s] at hm
      have rf : -1 ≤ f ∧ f < 80 := by
        rcases hf with ⟨f1, f2⟩ | ⟨f1, f2, f3, f4⟩ <;> omega
      have p27 : P27 f v (opn nm n c v) := by
        have hle := opn_le nm hn c v
        apply h27
        refine ⟨⟨by omega, by omega⟩, fun q => ⟨fun q1 => ?_, fun q1 => ⟨⟨by omega, by omega⟩, fun q2 => ?_, fun q2 => ?_⟩⟩, fun q => ?_⟩
        · have hs := sm_nn (f := opn nm n c) (n := v) (fun i _ => opn_nn nm n c i)
          rw [nxt_0 (by omega)] at h
          exact h
        · rcases hf with ⟨f1, f2⟩ | ⟨f1, f2, f3, f4⟩
          · refine ih (v + 1) v (by omega) (Or.inr ⟨by omega, by omega, ?_, ?_⟩)
            · rw [Int.toNat_natCast]
              omega
            · rw [sm_s]
              omega
          · omega
        · rcases hf with ⟨f1, f2⟩ | ⟨f1, f2, f3, f4⟩
          · omega
          · rw [nxt_0 (by omega)] at h
            exact h
        · refine ih (v + 1) f (by omega) ?_
          rw [sm_s, q]
          rcases hf with ⟨f1, f2⟩ | ⟨f1, f2, f3, f4⟩
          · exact Or.inl ⟨f1, by omega⟩
          · exact Or.inr ⟨f1, by omega, f3, by omega⟩
      apply h4
      refine ⟨⟨by omega, by omega⟩, ⟨by omega, by omega⟩, fun q => by omega, fun _ => ⟨⟨by omega, by omega⟩, fun q => ?_, fun q => ?_⟩⟩
      · exact m_open ⟨by omega, by omega⟩ ⟨by omega, by omega⟩ en hn enm hr p27
      · rw [q, opn_self hT v] at p27
        exact p27
  exact key nc 0 (-1) (by omega) (Or.inl ⟨rfl, rfl⟩)
theorem seen_mono {N : Int → Int} {first c : Int} {m n : Nat} (h : m ≤ n) (hs : seen N first c m = true) : seen N first c n = true := by
  obtain ⟨k, hk, e⟩ := seen_iff.mp hs
  exact seen_iff.mpr ⟨k, by omega, e⟩
theorem hf_s (N : Int → Int) (first : Int) (k n : Nat) : hf N first (k + 1) n = if N (vv N first n) < 0 then 0 else if seen N first (vv N first n) n = true then 0 else if vv N first (n + 1) = first then n + 1 else hf N first k (n + 1) := rfl
theorem m_hole {first : Int} {s0 : s_Mo} {nm : Int → Int} {n nc : Nat} {Q : Int → s_Mo → Prop} (hT : Tok nm nc n) (hn : n ≤ 120) (hc : nc ≤ 80) (en : gMo_triangles s0 = n) (enm : gMo_named s0 = nm) (enc : gMo_corners s0 = nc) (hF : 0 ≤ first ∧ first < nc)
    (h1 : okh (hf (nxt nm n nc) first 17 0) n → ∀ ri : Int → Int, (∀ k : Nat, k < hf (nxt nm n nc) first 17 0 → ri k = vv (nxt nm n nc) first k) → Q (hf (nxt nm n nc) first 17 0) (mkMo (gMo_thrown s0) (gMo_corners s0) (gMo_px s0) (gMo_py s0) (gMo_pz s0) (gMo_triangles s0) (gMo_named s0) (gMo_joined s0) (gMo_dropped s0) (gMo_closed s0) (gMo_layers s0) (gMo_thickness s0) (gMo_cuts s0) (gMo_cx s0) (gMo_cy s0) (gMo_cz s0) (gMo_solids s0) (gMo_shell s0) (gMo_skin s0) (gMo_period s0) (gMo_reach s0) (gMo_gap s0) (gMo_bytes s0) (gMo_played s0) (gMo_at s0) (gMo_program s0) (gMo_beads s0) (ri)))
    (h0 : ¬ okh (hf (nxt nm n nc) first 17 0) n → ∀ ri : Int → Int, Q 0 (mkMo (gMo_thrown s0) (gMo_corners s0) (gMo_px s0) (gMo_py s0) (gMo_pz s0) (gMo_triangles s0) (gMo_named s0) (gMo_joined s0) (gMo_dropped s0) (gMo_closed s0) (gMo_layers s0) (gMo_thickness s0) (gMo_cuts s0) (gMo_cx s0) (gMo_cy s0) (gMo_cz s0) (gMo_solids s0) (gMo_shell s0) (gMo_skin s0) (gMo_period s0) (gMo_reach s0) (gMo_gap s0) (gMo_bytes s0) (gMo_played s0) (gMo_at s0) (gMo_program s0) (gMo_beads s0) (ri))) : wp_Mo_hole first s0 Q := by
  unfold wp_Mo_hole
  intro P4 P27 h4 h27
  have hN := nxt_in nm n nc
  have hO := fun (ri : Int → Int) (c : Int) (hc0 : 0 ≤ c ∧ c < nc) (R : Int → Prop) (hR : R (nxt nm n nc c)) => (m_only (s0 := (mkMo (gMo_thrown s0) (gMo_corners s0) (gMo_px s0) (gMo_py s0) (gMo_pz s0) (gMo_triangles s0) (gMo_named s0) (gMo_joined s0) (gMo_dropped s0) (gMo_closed s0) (gMo_layers s0) (gMo_thickness s0) (gMo_cuts s0) (gMo_cx s0) (gMo_cy s0) (gMo_cz s0) (gMo_solids s0) (gMo_shell s0) (gMo_skin s0) (gMo_period s0) (gMo_reach s0) (gMo_gap s0) (gMo_bytes s0) (gMo_played s0) (gMo_at s0) (gMo_program s0) (gMo_beads s0) (ri))) hT hn hc en enm enc hc0 hR : wp_Mo_only c (mkMo (gMo_thrown s0) (gMo_corners s0) (gMo_px s0) (gMo_py s0) (gMo_pz s0) (gMo_triangles s0) (gMo_named s0) (gMo_joined s0) (gMo_dropped s0) (gMo_closed s0) (gMo_layers s0) (gMo_thickness s0) (gMo_cuts s0) (gMo_cx s0) (gMo_cy s0) (gMo_cz s0) (gMo_solids s0) (gMo_shell s0) (gMo_skin s0) (gMo_period s0) (gMo_reach s0) (gMo_gap s0) (gMo_bytes s0) (gMo_played s0) (gMo_at s0) (gMo_program s0) (gMo_beads s0) (ri)) R)
  generalize hNN : nxt nm n nc = N at *
  have hzero : hf N first 17 0 = 0 → ∀ ri : Int → Int, Q 0 (mkMo (gMo_thrown s0) (gMo_corners s0) (gMo_px s0) (gMo_py s0) (gMo_pz s0) (gMo_triangles s0) (gMo_named s0) (gMo_joined s0) (gMo_dropped s0) (gMo_closed s0) (gMo_layers s0) (gMo_thickness s0) (gMo_cuts s0) (gMo_cx s0) (gMo_cy s0) (gMo_cz s0) (gMo_solids s0) (gMo_shell s0) (gMo_skin s0) (gMo_period s0) (gMo_reach s0) (gMo_gap s0) (gMo_bytes s0) (gMo_played s0) (gMo_at s0) (gMo_program s0) (gMo_beads s0) (ri)) := fun e => h0 (fun w => by unfold okh at w; omega)
  have key : ∀ (k v : Nat) (ri : Int → Int), v + k = 17 → (∀ j : Nat, j < v → ri j = vv N first j) → (∀ j : Nat, j ≤ v → 0 ≤ vv N first j ∧ vv N first j < nc) → hf N first k v = hf N first 17 0 → P4 v (vv N first v) (mkMo (gMo_thrown s0) (gMo_corners s0) (gMo_px s0) (gMo_py s0) (gMo_pz s0) (gMo_triangles s0) (gMo_named s0) (gMo_joined s0) (gMo_dropped s0) (gMo_closed s0) (gMo_layers s0) (gMo_thickness s0) (gMo_cuts s0) (gMo_cx s0) (gMo_cy s0) (gMo_cz s0) (gMo_solids s0) (gMo_shell s0) (gMo_skin s0) (gMo_period s0) (gMo_reach s0) (gMo_gap s0) (gMo_bytes s0) (gMo_played s0) (gMo_at s0) (gMo_program s0) (gMo_beads s0) (ri)) := by
    intro k
    induction k with
    | zero =>
      intro v ri e hri hvv eH
      have e : v = 17 := by omega
      subst e
      apply h4
      exact ⟨by decide, fun _ => hzero eH.symm ri, fun q => absurd q (by decide)⟩
    | succ k ih =>
      intro v ri e hri hvv eH
      rw [hf_s] at eH
      have hv := hvv v (Nat.le_refl v)
      apply h4
      refine ⟨⟨by omega, by omega⟩, fun q => by omega, fun _ => hO ri _ hv _ ?_⟩
      have hNv := hN (vv N first v)
      refine ⟨⟨by omega, by omega⟩, fun q => ?_, fun q => ?_⟩
      · rw [if_neg (by omega)] at eH
        have p27 : ∀ (j i : Nat), i + j = v → seen N first (vv N first v) i = false → P27 v (vv N first v) (N (vv N first v)) i (mkMo (gMo_thrown s0) (gMo_corners s0) (gMo_px s0) (gMo_py s0) (gMo_pz s0) (gMo_triangles s0) (gMo_named s0) (gMo_joined s0) (gMo_dropped s0) (gMo_closed s0) (gMo_layers s0) (gMo_thickness s0) (gMo_cuts s0) (gMo_cx s0) (gMo_cy s0) (gMo_cz s0) (gMo_solids s0) (gMo_shell s0) (gMo_skin s0) (gMo_period s0) (gMo_reach s0) (gMo_gap s0) (gMo_bytes s0) (gMo_played s0) (gMo_at s0) (gMo_program s0) (gMo_beads s0) (ri)) := by
          intro j
          induction j with
          | zero =>
            intro i ei hs
            have ei : i = v := by omega
            subst ei
            rw [hs, if_neg (by decide)] at eH
            have ev : vv N first (i + 1) = N (vv N first i) := rfl
            have hri' : ∀ j : Nat, j < i + 1 → iset ri i (vv N first i) j = vv N first j := by
              intro j hj
              by_cases w : j = i
              · rw [w, iset_s]
              · rw [iset_n _ _ (by omega)]
                exact hri j (by omega)
            apply h27
            refine ⟨⟨by omega, by omega⟩, ⟨by omega, by omega⟩, fun _ => ⟨⟨by omega, by omega⟩, ⟨by omega, by omega⟩, ⟨by omega, by omega⟩, fun q2 => ?_, fun q2 => ?_⟩, fun q2 => by omega⟩
            · rw [if_neg (by rw [ev]; exact q2)] at eH
              refine ih (i + 1) (iset ri i (vv N first i)) (by omega) hri' (fun j hj => ?_) eH
              by_cases w : j = i + 1
              · rw [w, ev]
                omega
              · exact hvv j (by omega)
            · rw [if_pos (by rw [ev]; exact q2)] at eH
              rw [← eH] at h1 h0
              refine ⟨⟨by omega, by omega⟩, fun q3 => h0 (fun w => by unfold okh at w; omega) _, fun q3 => ⟨fun q4 => h0 (fun w => by unfold okh at w; omega) _, fun q4 => ?_⟩⟩
              refine ⟨⟨by show -2147483648 ≤ gMo_triangles s0 + ((i : Int) + 1) - 2; omega, by show gMo_triangles s0 + ((i : Int) + 1) - 2 ≤ 2147483647; omega⟩, fun q5 => h0 (fun w => ?_) _, fun q5 => h1 ⟨by omega, by omega, ?_⟩ _ hri'⟩
              · have q5 : 120 < gMo_triangles s0 + ((i : Int) + 1) - 2 := q5
                unfold okh at w
                omega
              · have q5 : gMo_triangles s0 + ((i : Int) + 1) - 2 ≤ 120 := q5
                omega
          | succ j ih2 =>
            intro i ei hs
            have hvi := hvv i (by omega)
            have er : ri i = vv N first i := hri i (by omega)
            apply h27
            refine ⟨⟨by omega, by omega⟩, ⟨by omega, by omega⟩, fun q2 => by omega, fun _ => ⟨⟨by omega, by omega⟩, ?_⟩⟩
            show rg (ri i) ∧ rg (vv N first v) ∧ (ri i ≠ vv N first v → _) ∧ (ri i = vv N first v → _)
            rw [er]
            refine ⟨⟨by omega, by omega⟩, ⟨by omega, by omega⟩, fun q2 => ih2 (i + 1) (by omega) ?_, fun q2 => ?_⟩
            · show (seen N first (vv N first v) i || decide (vv N first i = vv N first v)) = false
              rw [hs, decide_eq_false q2]
              rfl
            · rw [if_pos (seen_iff.mpr ⟨i, by omega, q2⟩)] at eH
              exact hzero eH.symm ri
        exact p27 v 0 (by omega) rfl
      · rw [if_pos q] at eH
        exact hzero eH.symm ri
  exact key 17 0 (gMo_ring s0) (by omega) (fun j hj => by omega) (fun j hj => by
    have : j = 0 := by omega
    subst this
    exact hF) rfl
/-! the class -/
theorem m_isInHole {c : Int} {n : Nat} {s0 : s_Mn} {N : Int → Int} {first : Int} {Q : Int → Prop} (hn : n ≤ 16) (rc : rg c) (hh : ∀ k : Nat, k < n → gMn_hole s0 k = vv N first k) (hv : ∀ k : Nat, k < n → rg (vv N first k)) (h : Q (b01 (seen N first c n))) : wp_Mn_isInHole c n s0 Q := by
  unfold wp_Mn_isInHole
  intro P2 h2
  have key : ∀ (k i : Nat), i + k = n → seen N first c i = false → P2 i := by
    intro k
    induction k with
    | zero =>
      intro i e hs
      have e : i = n := by omega
      subst e
      rw [hs] at h
      apply h2
      exact ⟨⟨by omega, by omega⟩, ⟨by omega, by omega⟩, fun _ => h, fun q => by omega⟩
    | succ k ih =>
      intro i e hs
      have ev := hh i (by omega)
      apply h2
      rw [ev]
      refine ⟨⟨by omega, by omega⟩, ⟨by omega, by omega⟩, fun q => by omega, fun _ => ⟨⟨by omega, by omega⟩, hv i (by omega), rc, fun q => ih (i + 1) (by omega) ?_, fun q => ?_⟩⟩
      · show (seen N first c i || decide (vv N first i = c)) = false
        rw [hs, decide_eq_false q]
        rfl
      · rw [seen_iff.mpr ⟨i, by omega, q⟩] at h
        exact h
  exact key n 0 (by omega) rfl
theorem m_nextCorner {c : Int} {s0 : s_Mn} {nm : Int → Int} {n nc : Nat} {Q : Int → Prop} (hb : BO (gMn_balance s0) (gMn_openFrom s0) (En nm (3 * n))) (hn : n ≤ 120) (hc : nc ≤ 80) (h0 : 0 ≤ c ∧ c < nc) (hs : sm (opn nm n c) nc = 1) (h : Q (nxt nm n nc c)) : wp_Mn_nextCorner c nc s0 Q := by
  obtain ⟨k0, hk, ek, h1, hz⟩ := nxt_1 hs
  rw [ek] at h
  unfold wp_Mn_nextCorner
  intro P2 h2
  have key : ∀ (k v : Nat), v + k = nc → v ≤ k0 → P2 v := by
    intro k
    induction k with
    | zero =>
      intro v e hv
      omega
    | succ k ih =>
      intro v e hv
      have eb := hb.1 c v h0.1 (by omega) (by omega) (by omega)
      have hE := En_in nm c v (3 * n)
      have eo : opn nm n c v = pos (En nm (3 * n) c v) := rfl
      apply h2
      rw [eb]
      refine ⟨⟨by omega, by omega⟩, ⟨by omega, by omega⟩, fun q => by omega, fun _ => ⟨⟨by omega, by omega⟩, ⟨by omega, by omega⟩, fun q => ?_, fun q => ?_⟩⟩
      · have w : v ≠ k0 := by
          intro w
          rw [w] at eo
          rw [h1] at eo
          unfold pos at eo
          rw [w] at q
          rw [if_neg (by omega)] at eo
          omega
        exact ih (v + 1) (by omega) (by omega)
      · have w : v = k0 := by
          by_cases w : v = k0
          · exact w
          · have hz' := hz v (by omega) w
            rw [hz'] at eo
            unfold pos at eo
            rw [if_pos q] at eo
            omega
        rw [w]
        exact h
  exact key nc 0 (by omega) (by omega)
theorem m_walkHole {first : Int} {s0 : s_Mn} {nm : Int → Int} {n nc : Nat} {Q : Int → s_Mn → Prop} (hT : Tok nm nc n) (hn : n ≤ 120) (hc : nc ≤ 80) (hb : BO (gMn_balance s0) (gMn_openFrom s0) (En nm (3 * n))) (hF : 0 ≤ first ∧ first < nc)
    (h : ∀ ho : Int → Int, (∀ k : Nat, k < hf (nxt nm n nc) first 16 0 → ho k = vv (nxt nm n nc) first k) → Q (hf (nxt nm n nc) first 16 0) (mkMn (gMn_joined s0) (gMn_dropped s0) (gMn_closed s0) (gMn_lowestHere s0) (gMn_counted s0) (gMn_balance s0) (gMn_openFrom s0) ho)) : wp_Mn_walkHole first nc s0 Q := by
  unfold wp_Mn_walkHole
  intro P5 h5
  have hN := nxt_in nm n nc
  have hO : ∀ c : Int, 0 ≤ c → c < nc → gMn_openFrom s0 c = sm (opn nm n c) nc := fun c c0 c1 => (hb.2.1 c c0 (by omega)).trans (opn_80 hT hc c)
  have hR : ∀ c : Int, rg (sm (opn nm n c) nc) := by
    intro c
    have := sm_rg (opn_nn nm n c) (opn_le nm hn c) nc
    exact ⟨by omega, by omega⟩
  have hX := fun (ho : Int → Int) (c : Int) (hc0 : 0 ≤ c ∧ c < nc) (hs : sm (opn nm n c) nc = 1) (R : Int → Prop) (hR : R (nxt nm n nc c)) => (m_nextCorner (s0 := mkMn (gMn_joined s0) (gMn_dropped s0) (gMn_closed s0) (gMn_lowestHere s0) (gMn_counted s0) (gMn_balance s0) (gMn_openFrom s0) ho) hb hn hc hc0 hs hR : wp_Mn_nextCorner c nc (mkMn (gMn_joined s0) (gMn_dropped s0) (gMn_closed s0) (gMn_lowestHere s0) (gMn_counted s0) (gMn_balance s0) (gMn_openFrom s0) ho) R)
  have hP : ∀ c : Int, sm (opn nm n c) nc = 1 ↔ 0 ≤ nxt nm n nc c := by
    intro c
    constructor
    · intro w
      obtain ⟨k, hk, ek, -⟩ := nxt_1 w
      omega
    · intro w
      by_cases w2 : sm (opn nm n c) nc = 1
      · exact w2
      · rw [nxt_0 w2] at w
        omega
  generalize hNN : nxt nm n nc = N at *
  have hzero : hf N first 16 0 = 0 → ∀ ho : Int → Int, Q 0 (mkMn (gMn_joined s0) (gMn_dropped s0) (gMn_closed s0) (gMn_lowestHere s0) (gMn_counted s0) (gMn_balance s0) (gMn_openFrom s0) ho) := by
    intro e ho
    rw [e] at h
    exact h ho (fun k hk => by omega)
  have key : ∀ (k v : Nat) (ho : Int → Int), v + k = 16 → (∀ j : Nat, j < v → ho j = vv N first j) → (∀ j : Nat, j ≤ v → 0 ≤ vv N first j ∧ vv N first j < nc) → hf N first k v = hf N first 16 0 → P5 (vv N first v) v (mkMn (gMn_joined s0) (gMn_dropped s0) (gMn_closed s0) (gMn_lowestHere s0) (gMn_counted s0) (gMn_balance s0) (gMn_openFrom s0) ho) := by
    intro k
    induction k with
    | zero =>
      intro v ho e hho hvv eH
      have e : v = 16 := by omega
      subst e
      apply h5
      exact ⟨by decide, fun _ => hzero eH.symm ho, fun q => absurd q (by decide)⟩
    | succ k ih =>
      intro v ho e hho hvv eH
      rw [hf_s] at eH
      have hv := hvv v (Nat.le_refl v)
      have hNv := hN (vv N first v)
      have ev : vv N first (v + 1) = N (vv N first v) := rfl
      apply h5
      refine ⟨⟨by omega, by omega⟩, fun q => by omega, fun _ => ⟨⟨hv.1, by omega⟩, ?_⟩⟩
      show rg (gMn_openFrom s0 (vv N first v)) ∧ (gMn_openFrom s0 (vv N first v) ≠ 1 → _) ∧ (gMn_openFrom s0 (vv N first v) = 1 → _)
      rw [hO _ hv.1 hv.2]
      refine ⟨hR _, fun q => ?_, fun q => ?_⟩
      · rw [if_pos (by
          by_cases w : N (vv N first v) < 0
          · exact w
          · exact absurd ((hP _).mpr (by omega)) q)] at eH
        exact hzero eH.symm ho
      · have q0 := (hP _).mp q
        rw [if_neg (by omega)] at eH
        refine m_isInHole (s0 := mkMn (gMn_joined s0) (gMn_dropped s0) (gMn_closed s0) (gMn_lowestHere s0) (gMn_counted s0) (gMn_balance s0) (gMn_openFrom s0) ho) (N := N) (first := first) (by omega) ⟨by omega, by omega⟩ hho (fun j hj => by
          have := hvv j (by omega)
          exact ⟨by omega, by omega⟩) ⟨b01_r _, fun q2 => ⟨⟨by omega, by omega⟩, ?_⟩, fun q2 => ?_⟩
        · rw [b01_eq0] at q2
          rw [q2, if_neg (by decide)] at eH
          have hho' : ∀ j : Nat, j < v + 1 → iset ho v (vv N first v) j = vv N first j := by
            intro j hj
            by_cases w : j = v
            · rw [w, iset_s]
            · rw [iset_n _ _ (by omega)]
              exact hho j (by omega)
          refine hX (iset ho v (vv N first v)) _ hv q _ ⟨⟨by omega, by omega⟩, ⟨by omega, by omega⟩, fun q3 => ?_, fun q3 => ?_⟩
          · rw [if_neg (by rw [ev]; exact q3)] at eH
            refine ih (v + 1) (iset ho v (vv N first v)) (by omega) hho' (fun j hj => ?_) eH
            by_cases w : j = v + 1
            · rw [w, ev]
              omega
            · exact hvv j (by omega)
          · rw [if_pos (by rw [ev]; exact q3)] at eH
            rw [← eH] at h
            exact h _ hho'
        · rw [if_pos ((b01_eq1 _).mp ((b01_01 _).resolve_left q2))] at eH
          exact hzero eH.symm ho
  exact key 16 0 (gMn_hole s0) (by omega) (fun j hj => by omega) (fun j hj => by
    have : j = 0 := by omega
    subst this
    exact hF) rfl
