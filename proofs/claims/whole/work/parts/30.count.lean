/-! ===== MEANING 20: overhang, volume ===== -/
/-- the cells of a row -/
def pc (r : Int) : Int := sm (fun i => b01 (bt r i)) 12
theorem bc_mono {x : Int} {P Q : Int → Prop} (hm : ∀ z, P z → Q z) : wp_Int_bitCount x P → wp_Int_bitCount x Q := by
  unfold wp_Int_bitCount
  repeat (refine And.imp id ?_)
  exact hm _
set_option maxRecDepth 100000 in
theorem bc_all : ∀ n : Nat, n < 4096 → wp_Int_bitCount (n : Int) (fun z => z = pc (n : Int)) := by
  unfold wp_Int_bitCount
  decide +kernel
theorem m_bitCount {r : Int} {Q : Int → Prop} (hr : row r) (h : Q (pc r)) : wp_Int_bitCount r Q := by
  obtain ⟨n, rfl⟩ := Int.eq_ofNat_of_zero_le hr.1
  exact bc_mono (fun z hz => by rw [hz]; exact h) (bc_all n (by omega))
theorem m_count {f t : Int} {n0 : Nat} {g : Int → Int} {Q : Int → Prop} (hf : 0 ≤ f ∧ f ≤ t ∧ t ≤ n0 ∧ n0 ≤ 288) (hr : ∀ i : Int, f ≤ i → i < t → row (g i)) (h : Q (sm (fun j => pc (g (f + j))) (t - f).toNat)) : wp_LS_countCells f t n0 g Q := by
  unfold wp_LS_countCells
  intro P5 h5
  have key : ∀ k j : Nat, j + k = (t - f).toNat → P5 (sm (fun j => pc (g (f + j))) j) (f + j) := by
    intro k
    induction k with
    | zero =>
      intro j hj
      apply h5
      have e : j = (t - f).toNat := by omega
      subst e
      exact ⟨⟨by omega, by omega⟩, ⟨by omega, by omega⟩, fun _ => h, fun q => by omega⟩
    | succ k ih =>
      intro j hj
      have h4 := ih (j + 1) (by omega)
      apply h5
      refine ⟨⟨by omega, by omega⟩, ⟨by omega, by omega⟩, fun q => by omega, fun _ => ⟨⟨by omega, by omega⟩, m_bitCount (hr _ (by omega) (by omega)) ?_⟩⟩
      rw [sm_s, show f + ((j + 1 : Nat) : Int) = f + j + 1 by omega] at h4
      exact h4
  have h0 := key (t - f).toNat 0 (by omega)
  rw [sm_0, show f + ((0 : Nat) : Int) = f by omega] at h0
  exact h0
theorem m_Mo_overhang {l : Int} {s0 : s_Mo} {Q : Int → s_Mo → Prop} (hk : kOk s0) (rl : rg l) (h : Q (sm (fun x => sm (fun y => b01 (decide (0 ≤ l ∧ l < gMo_layers s0) && hgs (som s0) (gMo_reach s0).toNat l x y)) 12) 12) (mkMo (0) (gMo_corners s0) (gMo_px s0) (gMo_py s0) (gMo_pz s0) (gMo_triangles s0) (gMo_named s0) (gMo_joined s0) (gMo_dropped s0) (gMo_closed s0) (gMo_layers s0) (gMo_thickness s0) (gMo_cuts s0) (gMo_cx s0) (gMo_cy s0) (gMo_cz s0) (gMo_solids s0) (gMo_shell s0) (gMo_skin s0) (gMo_period s0) (gMo_reach s0) (gMo_gap s0) (gMo_bytes s0) (gMo_played s0) (gMo_at s0) (gMo_program s0) (gMo_beads s0) (gMo_ring s0))) : wp_Mo_overhang l s0 Q := by
  unfold wp_Mo_overhang
  intro P9 P18 h9 h18
  generalize hf : (fun (x y : Nat) => b01 (decide (0 ≤ l ∧ l < gMo_layers s0) && hgs (som s0) (gMo_reach s0).toNat l x y)) = f
  have hf2 : ∀ a b : Nat, b01 (decide (0 ≤ l ∧ l < gMo_layers s0) && hgs (som s0) (gMo_reach s0).toNat l a b) = f a b := fun a b => by rw [← hf]
  have h : Q (sm (fun x => sm (fun y => f x y) 12) 12) (mkMo (0) (gMo_corners s0) (gMo_px s0) (gMo_py s0) (gMo_pz s0) (gMo_triangles s0) (gMo_named s0) (gMo_joined s0) (gMo_dropped s0) (gMo_closed s0) (gMo_layers s0) (gMo_thickness s0) (gMo_cuts s0) (gMo_cx s0) (gMo_cy s0) (gMo_cz s0) (gMo_solids s0) (gMo_shell s0) (gMo_skin s0) (gMo_period s0) (gMo_reach s0) (gMo_gap s0) (gMo_bytes s0) (gMo_played s0) (gMo_at s0) (gMo_program s0) (gMo_beads s0) (gMo_ring s0)) := by rw [← hf]; exact h
  have hly := hk.1
  have hk0 : kOk (mkMo (0) (gMo_corners s0) (gMo_px s0) (gMo_py s0) (gMo_pz s0) (gMo_triangles s0) (gMo_named s0) (gMo_joined s0) (gMo_dropped s0) (gMo_closed s0) (gMo_layers s0) (gMo_thickness s0) (gMo_cuts s0) (gMo_cx s0) (gMo_cy s0) (gMo_cz s0) (gMo_solids s0) (gMo_shell s0) (gMo_skin s0) (gMo_period s0) (gMo_reach s0) (gMo_gap s0) (gMo_bytes s0) (gMo_played s0) (gMo_at s0) (gMo_program s0) (gMo_beads s0) (gMo_ring s0)) := hk
  generalize hS : (mkMo (0) (gMo_corners s0) (gMo_px s0) (gMo_py s0) (gMo_pz s0) (gMo_triangles s0) (gMo_named s0) (gMo_joined s0) (gMo_dropped s0) (gMo_closed s0) (gMo_layers s0) (gMo_thickness s0) (gMo_cuts s0) (gMo_cx s0) (gMo_cy s0) (gMo_cz s0) (gMo_solids s0) (gMo_shell s0) (gMo_skin s0) (gMo_period s0) (gMo_reach s0) (gMo_gap s0) (gMo_bytes s0) (gMo_played s0) (gMo_at s0) (gMo_program s0) (gMo_beads s0) (gMo_ring s0)) = S at *
  have eS1 : gMo_layers S = gMo_layers s0 := by rw [← hS]
  have eS2 : som S = som s0 := by rw [← hS]
  have eS3 : gMo_reach S = gMo_reach s0 := by rw [← hS]
  have inner : ∀ (a : Nat), a < 12 → ∀ T : Int, P9 (T + sm (fun b => f a b) 12) (a + 1) S → ∀ k b : Nat, b + k = 12 → P18 (T + sm (fun b => f a b) b) a b S := by
    intro a ha T hn k
    induction k with
    | zero =>
      intro b hb
      apply h18
      have e : b = 12 := by omega
      subst e
      exact ⟨⟨by omega, by omega⟩, fun _ => hn, fun q => by omega⟩
    | succ k ih =>
      intro b hb
      have h4 := ih (b + 1) (by omega)
      rw [sm_s, show ((b + 1 : Nat) : Int) = (b : Int) + 1 from rfl, ← hf2] at h4
      apply h18
      rw [eS1]
      refine ⟨⟨by omega, by omega⟩, fun q => by omega, fun _ => ?_⟩
      refine m_in rl (by decide) ⟨by omega, by omega⟩ (fun q1 q2 => ⟨by decide, fun q => absurd q (by decide), fun _ => ?_⟩) (fun q1 => ⟨by decide, fun _ => ?_, fun q => absurd rfl q⟩)
      · refine m_hangs hk0 ⟨by omega, by omega⟩ ⟨by omega, by omega⟩ ⟨by omega, by omega⟩ ?_
        rw [eS2, eS3]
        rw [decide_eq_true (show 0 ≤ l ∧ l < gMo_layers s0 from ⟨q1, by omega⟩), Bool.true_and] at h4
        rw [Int.add_assoc, Int.add_assoc]
        cases hg : hgs (som s0) (gMo_reach s0).toNat l a b with
        | false =>
          rw [hg] at h4
          exact ⟨by decide, fun _ => h4, fun q => absurd rfl q⟩
        | true =>
          rw [hg] at h4
          exact ⟨by decide, fun q => absurd q (by decide), fun _ => h4⟩
      · rw [decide_eq_false (by omega), Bool.false_and] at h4
        rw [Int.add_assoc]
        exact h4
  have outer : ∀ k a : Nat, a + k = 12 → P9 (sm (fun a => sm (fun b => f a b) 12) a) a S := by
    intro k
    induction k with
    | zero =>
      intro a ha
      apply h9
      have e : a = 12 := by omega
      subst e
      exact ⟨⟨by omega, by omega⟩, fun _ => h, fun q => by omega⟩
    | succ k ih =>
      intro a ha
      have h4 := ih (a + 1) (by omega)
      rw [sm_s, show ((a + 1 : Nat) : Int) = (a : Int) + 1 from rfl] at h4
      apply h9
      refine ⟨⟨by omega, by omega⟩, fun q => by omega, fun _ => ?_⟩
      have h5 := inner a (by omega) _ h4 12 0 (by omega)
      rw [sm_0, Int.add_zero] at h5
      exact h5
  exact outer 12 0 (by omega)
theorem t_overhang {a1 : Int} (r1 : rg a1) {sx : s_LS} {sm_ : s_Mo} (hi : Inv sx sm_) : wp_LS_overhang a1 sx (fun r1 => wp_Mo_overhang a1 sm_ (fun r2 u3 => r1 = r2 ∧ Inv sx u3)) := by
  have hI : Inv sx (mkMo (0) (gMo_corners sm_) (gMo_px sm_) (gMo_py sm_) (gMo_pz sm_) (gMo_triangles sm_) (gMo_named sm_) (gMo_joined sm_) (gMo_dropped sm_) (gMo_closed sm_) (gMo_layers sm_) (gMo_thickness sm_) (gMo_cuts sm_) (gMo_cx sm_) (gMo_cy sm_) (gMo_cz sm_) (gMo_solids sm_) (gMo_shell sm_) (gMo_skin sm_) (gMo_period sm_) (gMo_reach sm_) (gMo_gap sm_) (gMo_bytes sm_) (gMo_played sm_) (gMo_at sm_) (gMo_program sm_) (gMo_beads sm_) (gMo_ring sm_)) := hi
  have hk := kOk_of hi
  have h3 := hi.2.2.1
  obtain ⟨-, -, -, -, -, -, -, -, -, -, -, hh⟩ := hi.2.2.2.1
  have ec : gSl_count (gLS_slices sx) = gMo_layers sm_ := h3.1
  have hly := h3.2.2.1
  unfold wp_LS_overhang wp_Sl_hasLayer
  rw [ec]
  have mo0 : ¬ (0 ≤ a1 ∧ a1 < gMo_layers sm_) → wp_Mo_overhang a1 sm_ (fun r2 u3 => 0 = r2 ∧ Inv sx u3) := fun g => by
    refine m_Mo_overhang hk r1 ⟨?_, hI⟩
    rw [decide_eq_false g]
    rfl
  refine ⟨r1, fun q => ⟨by decide, fun _ => mo0 (by omega), fun q => absurd rfl q⟩, fun q1 => ⟨⟨by omega, by omega⟩, fun q => ⟨by decide, fun _ => mo0 (by omega), fun q => absurd rfl q⟩, fun q2 => ⟨by decide, fun q => absurd q (by decide), fun _ => ?_⟩⟩⟩
  refine m_count ⟨by omega, by omega, by omega, by omega⟩ (fun i i1 i2 => ?_) (m_Mo_overhang hk r1 ⟨?_, hI⟩)
  · have := (hh a1 (i - a1 * 12) q1 q2 (by omega) (by omega)).1
    rw [show a1 * 12 + (i - a1 * 12) = i by omega] at this
    exact this
  · rw [show (a1 * 12 + 12 - a1 * 12).toNat = 12 by omega, sm_swap]
    apply sm_congr
    intro y hy
    unfold pc
    apply sm_congr
    intro x hx
    rw [(hh a1 y q1 q2 (by omega) (by omega)).2 x hx, decide_eq_true (show 0 ≤ a1 ∧ a1 < gMo_layers sm_ from ⟨q1, q2⟩), Bool.true_and]
