/-! ===== MEANING 21: volume ===== -/
theorem m_Mo_volume {kn : Int} {s0 : s_Mo} {Q : Int → s_Mo → Prop} (hk : kOk s0) (rk : 0 ≤ kn ∧ kn ≤ 6) (h : Q (sm (fun l => sm (fun x => sm (fun y => b01 (decide (kdm s0 l x y = kn))) 12) 12) (gMo_layers s0).toNat) (mkMo (0) (gMo_corners s0) (gMo_px s0) (gMo_py s0) (gMo_pz s0) (gMo_triangles s0) (gMo_named s0) (gMo_joined s0) (gMo_dropped s0) (gMo_closed s0) (gMo_layers s0) (gMo_thickness s0) (gMo_cuts s0) (gMo_cx s0) (gMo_cy s0) (gMo_cz s0) (gMo_solids s0) (gMo_shell s0) (gMo_skin s0) (gMo_period s0) (gMo_reach s0) (gMo_gap s0) (gMo_bytes s0) (gMo_played s0) (gMo_at s0) (gMo_program s0) (gMo_beads s0) (gMo_ring s0))) : wp_Mo_volume kn s0 Q := by
  unfold wp_Mo_volume
  intro P21 P32 P42 h21 h32 h42
  generalize hf : (fun (l x y : Nat) => b01 (decide (kdm s0 l x y = kn))) = f
  have hf2 : ∀ l a b : Nat, b01 (decide (kdm s0 l a b = kn)) = f l a b := fun l a b => by rw [← hf]
  have h : Q (sm (fun l => sm (fun x => sm (fun y => f l x y) 12) 12) (gMo_layers s0).toNat) (mkMo (0) (gMo_corners s0) (gMo_px s0) (gMo_py s0) (gMo_pz s0) (gMo_triangles s0) (gMo_named s0) (gMo_joined s0) (gMo_dropped s0) (gMo_closed s0) (gMo_layers s0) (gMo_thickness s0) (gMo_cuts s0) (gMo_cx s0) (gMo_cy s0) (gMo_cz s0) (gMo_solids s0) (gMo_shell s0) (gMo_skin s0) (gMo_period s0) (gMo_reach s0) (gMo_gap s0) (gMo_bytes s0) (gMo_played s0) (gMo_at s0) (gMo_program s0) (gMo_beads s0) (gMo_ring s0)) := by rw [← hf]; exact h
  have hly := hk.1
  have rkn : rg kn := ⟨by omega, by omega⟩
  have hk0 : kOk (mkMo (0) (gMo_corners s0) (gMo_px s0) (gMo_py s0) (gMo_pz s0) (gMo_triangles s0) (gMo_named s0) (gMo_joined s0) (gMo_dropped s0) (gMo_closed s0) (gMo_layers s0) (gMo_thickness s0) (gMo_cuts s0) (gMo_cx s0) (gMo_cy s0) (gMo_cz s0) (gMo_solids s0) (gMo_shell s0) (gMo_skin s0) (gMo_period s0) (gMo_reach s0) (gMo_gap s0) (gMo_bytes s0) (gMo_played s0) (gMo_at s0) (gMo_program s0) (gMo_beads s0) (gMo_ring s0)) := hk
  generalize hS : (mkMo (0) (gMo_corners s0) (gMo_px s0) (gMo_py s0) (gMo_pz s0) (gMo_triangles s0) (gMo_named s0) (gMo_joined s0) (gMo_dropped s0) (gMo_closed s0) (gMo_layers s0) (gMo_thickness s0) (gMo_cuts s0) (gMo_cx s0) (gMo_cy s0) (gMo_cz s0) (gMo_solids s0) (gMo_shell s0) (gMo_skin s0) (gMo_period s0) (gMo_reach s0) (gMo_gap s0) (gMo_bytes s0) (gMo_played s0) (gMo_at s0) (gMo_program s0) (gMo_beads s0) (gMo_ring s0)) = S at *
  have eS1 : gMo_layers S = gMo_layers s0 := by rw [← hS]
  have eS2 : ∀ l x y, kdm S l x y = kdm s0 l x y := fun l x y => by rw [← hS]; rfl
  have inner : ∀ (l a : Nat), l < 24 → a < 12 → ∀ T : Int, P32 (T + sm (fun b => f l a b) 12) l (a + 1) S → ∀ k b : Nat, b + k = 12 → P42 (T + sm (fun b => f l a b) b) l a b S := by
    intro l a hl ha T hn k
    induction k with
    | zero =>
      intro b hb
      apply h42
      have e : b = 12 := by omega
      subst e
      exact ⟨⟨by omega, by omega⟩, fun _ => hn, fun q => by omega⟩
    | succ k ih =>
      intro b hb
      have h4 := ih (b + 1) (by omega)
      rw [sm_s, show ((b + 1 : Nat) : Int) = (b : Int) + 1 from rfl, ← hf2] at h4
      apply h42
      refine ⟨⟨by omega, by omega⟩, fun q => by omega, fun _ => ?_⟩
      refine m_kindOf hk0 ⟨by omega, by omega⟩ ⟨by omega, by omega⟩ ⟨by omega, by omega⟩ ?_
      rw [eS2]
      have hr : 0 ≤ kdm s0 l a b ∧ kdm s0 l a b < 7 := kd_rg _ _ _ _ _ _ _ _ _ _
      rw [Int.add_assoc, Int.add_assoc]
      refine ⟨⟨by omega, by omega⟩, rkn, fun q => ?_, fun q => ?_⟩
      · rw [decide_eq_false q] at h4
        exact h4
      · rw [decide_eq_true q] at h4
        exact h4
  have mid : ∀ (l : Nat), l < 24 → ∀ T : Int, P21 (T + sm (fun a => sm (fun b => f l a b) 12) 12) (l + 1) S → ∀ k a : Nat, a + k = 12 → P32 (T + sm (fun a => sm (fun b => f l a b) 12) a) l a S := by
    intro l hl T hn k
    induction k with
    | zero =>
      intro a ha
      apply h32
      have e : a = 12 := by omega
      subst e
      exact ⟨⟨by omega, by omega⟩, fun _ => hn, fun q => by omega⟩
    | succ k ih =>
      intro a ha
      have h4 := ih (a + 1) (by omega)
      rw [sm_s, show ((a + 1 : Nat) : Int) = (a : Int) + 1 from rfl, ← Int.add_assoc] at h4
      apply h32
      refine ⟨⟨by omega, by omega⟩, fun q => by omega, fun _ => ?_⟩
      have h5 := inner l a hl (by omega) _ h4 12 0 (by omega)
      rw [sm_0, Int.add_zero] at h5
      exact h5
  have outer : ∀ k l : Nat, l + k = (gMo_layers s0).toNat → P21 (sm (fun l => sm (fun a => sm (fun b => f l a b) 12) 12) l) l S := by
    intro k
    induction k with
    | zero =>
      intro l hl
      apply h21
      rw [eS1]
      have e : l = (gMo_layers s0).toNat := by omega
      subst e
      exact ⟨⟨by omega, by omega⟩, ⟨by omega, by omega⟩, fun _ => h, fun q => by omega⟩
    | succ k ih =>
      intro l hl
      have h4 := ih (l + 1) (by omega)
      rw [sm_s, show ((l + 1 : Nat) : Int) = (l : Int) + 1 from rfl] at h4
      apply h21
      rw [eS1]
      refine ⟨⟨by omega, by omega⟩, ⟨by omega, by omega⟩, fun q => by omega, fun _ => ?_⟩
      have h5 := mid l (by omega) _ h4 12 0 (by omega)
      rw [sm_0, Int.add_zero] at h5
      exact h5
  exact m_in1 rkn (by decide) (by decide) rk.1 rk.2 ⟨by decide, fun _ => outer (gMo_layers s0).toNat 0 (by omega), fun q => absurd q (by decide)⟩
theorem t_volume {a1 : Int} (r1 : rg a1) {sx : s_LS} {sm_ : s_Mo} (hi : Inv sx sm_) : wp_LS_volume a1 sx (fun r1 => wp_Mo_volume a1 sm_ (fun r2 u3 => r1 = r2 ∧ Inv sx u3)) := by
  have hI : Inv sx (mkMo (0) (gMo_corners sm_) (gMo_px sm_) (gMo_py sm_) (gMo_pz sm_) (gMo_triangles sm_) (gMo_named sm_) (gMo_joined sm_) (gMo_dropped sm_) (gMo_closed sm_) (gMo_layers sm_) (gMo_thickness sm_) (gMo_cuts sm_) (gMo_cx sm_) (gMo_cy sm_) (gMo_cz sm_) (gMo_solids sm_) (gMo_shell sm_) (gMo_skin sm_) (gMo_period sm_) (gMo_reach sm_) (gMo_gap sm_) (gMo_bytes sm_) (gMo_played sm_) (gMo_at sm_) (gMo_program sm_) (gMo_beads sm_) (gMo_ring sm_)) := hi
  have hk := kOk_of hi
  have h3 := hi.2.2.1
  obtain ⟨-, -, -, -, -, -, -, -, -, -, hh, -⟩ := hi.2.2.2.1
  have ec : gSl_count (gLS_slices sx) = gMo_layers sm_ := h3.1
  have hly := h3.2.2.1
  have mo0 : ¬ (0 ≤ a1 ∧ a1 ≤ 6) → wp_Mo_volume a1 sm_ (fun r2 u3 => -1 = r2 ∧ Inv sx u3) := by
    intro g
    unfold wp_Mo_volume
    intro P21 P32 P42 h21 h32 h42
    exact m_in0 r1 (by decide) (by decide) (by omega) ⟨by decide, fun q => absurd rfl q, fun _ => ⟨rfl, hI⟩⟩
  unfold wp_LS_volume
  rw [ec]
  refine ⟨r1, fun q => mo0 (by omega), fun q1 => ⟨fun q => mo0 (by omega), fun q2 => ⟨⟨q1, q2⟩, ?_⟩⟩⟩
  refine m_count ⟨by omega, by omega, by omega, by omega⟩ (fun i i1 i2 => ?_) (m_Mo_volume hk ⟨q1, by omega⟩ ⟨?_, hI⟩)
  · have := (hh a1 (i / 12) (i % 12) q1 q2 (by omega) (by omega) (by omega) (by omega)).1
    rw [show i / 12 * 12 + i % 12 = i by omega] at this
    exact this
  · rw [show (gMo_layers sm_ * 12 - 0).toNat = (gMo_layers sm_).toNat * 12 by omega, sm_flat]
    apply sm_congr
    intro l hl
    rw [sm_swap]
    apply sm_congr
    intro y hy
    unfold pc
    apply sm_congr
    intro x hx
    have := (hh a1 l y q1 q2 (by omega) (by omega) (by omega) (by omega)).2 x hx
    rw [show (0 : Int) + ((l * 12 + y : Nat) : Int) = (l : Int) * 12 + y by omega, this]
    rfl
