/-! ===== MEANING 19: solid, kind ===== -/
theorem t_solid {a1 a2 a3 : Int} (r1 : rg a1) (r2 : rg a2) (r3 : rg a3) {sx : s_LS} {sm : s_Mo} (hi : Inv sx sm) : wp_LS_solid a1 a2 a3 sx (fun r1 => wp_Mo_solid a1 a2 a3 sm (fun r2 u3 => r1 = r2 ∧ Inv sx u3)) := by
  have hI : Inv sx (mkMo (0) (gMo_corners sm) (gMo_px sm) (gMo_py sm) (gMo_pz sm) (gMo_triangles sm) (gMo_named sm) (gMo_joined sm) (gMo_dropped sm) (gMo_closed sm) (gMo_layers sm) (gMo_thickness sm) (gMo_cuts sm) (gMo_cx sm) (gMo_cy sm) (gMo_cz sm) (gMo_solids sm) (gMo_shell sm) (gMo_skin sm) (gMo_period sm) (gMo_reach sm) (gMo_gap sm) (gMo_bytes sm) (gMo_played sm) (gMo_at sm) (gMo_program sm) (gMo_beads sm) (gMo_ring sm)) := hi
  have hk := kOk_of hI
  have hs := SlOk_of hi.2.2.1
  have mo : ∀ z : Int, z = b01 (som sm a1 a2 a3) → wp_Mo_solid a1 a2 a3 sm (fun r2 u3 => z = r2 ∧ Inv sx u3) := by
    intro z hz
    unfold wp_Mo_solid
    refine m_isSolid hk r1 r2 r3 ?_
    have e : som (mkMo (0) (gMo_corners sm) (gMo_px sm) (gMo_py sm) (gMo_pz sm) (gMo_triangles sm) (gMo_named sm) (gMo_joined sm) (gMo_dropped sm) (gMo_closed sm) (gMo_layers sm) (gMo_thickness sm) (gMo_cuts sm) (gMo_cx sm) (gMo_cy sm) (gMo_cz sm) (gMo_solids sm) (gMo_shell sm) (gMo_skin sm) (gMo_period sm) (gMo_reach sm) (gMo_gap sm) (gMo_bytes sm) (gMo_played sm) (gMo_at sm) (gMo_program sm) (gMo_beads sm) (gMo_ring sm)) a1 a2 a3 = som sm a1 a2 a3 := rfl
    rw [e]
    cases hb : som sm a1 a2 a3 with
    | false =>
      rw [hb] at hz
      exact ⟨by decide, fun _ => ⟨hz, hI⟩, fun q => absurd rfl q⟩
    | true =>
      rw [hb] at hz
      exact ⟨by decide, fun q => absurd q (by decide), fun _ => ⟨hz, hI⟩⟩
  unfold wp_LS_solid
  refine ⟨r2, fun q => mo 0 (by rw [show som sm a1 a2 a3 = false from sol_out (by omega)]; rfl), fun q => ⟨fun q2 => mo 0 (by rw [show som sm a1 a2 a3 = false from sol_out (by omega)]; rfl), fun q2 => ?_⟩⟩
  refine m_solidRow hs r1 r3 (fun r hr hb => ⟨⟨by omega, by omega⟩, row_rg hr, mo _ ?_⟩)
  rw [bit_at hr, hb, show ((a2.toNat : Nat) : Int) = a2 by omega]
theorem kd_rg (so : Int → Int → Int → Bool) (n : Int) (sh sk : Nat) (pe : Int) (re ga : Nat) (l x y : Int) : 0 ≤ kd so n sh sk pe re ga l x y ∧ kd so n sh sk pe re ga l x y < 7 := by
  unfold kd
  split
  · omega
  · split
    · split
      · omega
      · split <;> omega
    · split
      · omega
      · split
        · omega
        · split <;> omega
theorem m_kindAt {l x y : Int} {s0 : s_So} {ly : Int} {so : Int → Int} {sh sk pe re ga : Int} {Q : Int → Prop} (hr : RSo s0 ly so sh sk pe re ga) (hly : ly ≤ 24) (hl : 0 ≤ l ∧ l < ly) (hx : 0 ≤ x ∧ x < 12) (hy : 0 ≤ y ∧ y < 12) (h : Q (kd (sol ly so) ly sh.toNat sk.toNat pe re.toNat ga.toNat l x y)) : wp_So_kindAt l x y s0 Q := by
  obtain ⟨-, -, -, -, -, -, -, -, -, -, hrow, -⟩ := hr
  have hkr := kd_rg (sol ly so) ly sh.toNat sk.toNat pe re.toNat ga.toNat l x y
  generalize hK : kd (sol ly so) ly sh.toNat sk.toNat pe re.toNat ga.toNat l x y = K at *
  unfold wp_So_kindAt
  intro P3 h3
  have key : ∀ (k : Nat) (v : Int), v + k = 7 → 1 ≤ v → (K = 0 ∨ v ≤ K) → P3 v := by
    intro k
    induction k with
    | zero =>
      intro v hv h1 hK2
      apply h3
      have e : K = 0 := by omega
      rw [e] at h
      exact ⟨⟨by omega, by omega⟩, fun _ => h, fun q => by omega⟩
    | succ k ih =>
      intro v hv h1 hK2
      apply h3
      obtain ⟨w1, w2⟩ := hrow v l y (by omega) (by omega) hl.1 hl.2 hy.1 hy.2
      have w3 := w2 x.toNat (by omega)
      rw [show ((x.toNat : Nat) : Int) = x by omega, hK] at w3
      refine ⟨⟨by omega, by omega⟩, fun q => by omega, fun _ => ⟨⟨by omega, by omega⟩, ⟨by omega, by omega⟩, ⟨by omega, by omega⟩, row_rg w1, fun q => ?_, fun q => ?_⟩⟩
      · rw [bit_at w1, w3] at q
        by_cases e : K = v
        · rw [decide_eq_true e] at q
          exact absurd rfl q
        · exact ih (v + 1) (by omega) (by omega) (by omega)
      · rw [bit_at w1, w3] at q
        by_cases e : K = v
        · rw [← e]
          exact h
        · rw [decide_eq_false e] at q
          cases q
  exact key 6 1 (by omega) (by omega) (by omega)
theorem t_kind {a1 a2 a3 : Int} (r1 : rg a1) (r2 : rg a2) (r3 : rg a3) {sx : s_LS} {sm : s_Mo} (hi : Inv sx sm) : wp_LS_kind a1 a2 a3 sx (fun r1 => wp_Mo_kind a1 a2 a3 sm (fun r2 u3 => r1 = r2 ∧ Inv sx u3)) := by
  have hI : Inv sx (mkMo (0) (gMo_corners sm) (gMo_px sm) (gMo_py sm) (gMo_pz sm) (gMo_triangles sm) (gMo_named sm) (gMo_joined sm) (gMo_dropped sm) (gMo_closed sm) (gMo_layers sm) (gMo_thickness sm) (gMo_cuts sm) (gMo_cx sm) (gMo_cy sm) (gMo_cz sm) (gMo_solids sm) (gMo_shell sm) (gMo_skin sm) (gMo_period sm) (gMo_reach sm) (gMo_gap sm) (gMo_bytes sm) (gMo_played sm) (gMo_at sm) (gMo_program sm) (gMo_beads sm) (gMo_ring sm)) := hi
  have hk := kOk_of hI
  have h3 := hi.2.2.1
  have h4 := hi.2.2.2.1
  have ec : gSl_count (gLS_slices sx) = gMo_layers sm := h3.1
  have hly := h3.2.2.1
  have mo : ∀ z : Int, (sm3 a1 ∧ sm3 a2 ∧ sm3 a3) → z = kdm sm a1 a2 a3 → wp_Mo_kind a1 a2 a3 sm (fun r2 u3 => z = r2 ∧ Inv sx u3) := by
    intro z g hz
    unfold wp_Mo_kind
    exact m_kindOf hk g.1 g.2.1 g.2.2 ⟨hz, hI⟩
  have mo0 : ¬ (0 ≤ a1 ∧ a1 < gMo_layers sm ∧ 0 ≤ a2 ∧ a2 < 12 ∧ 0 ≤ a3 ∧ a3 < 12) → wp_Mo_kind a1 a2 a3 sm (fun r2 u3 => 0 = r2 ∧ Inv sx u3) := by
    intro g
    unfold wp_Mo_kind wp_Mo_kindOf
    intro P51 P77 P159 h51 h77 h159
    have hq : (0 : Int) = 0 ∧ Inv sx (mkMo (0) (gMo_corners sm) (gMo_px sm) (gMo_py sm) (gMo_pz sm) (gMo_triangles sm) (gMo_named sm) (gMo_joined sm) (gMo_dropped sm) (gMo_closed sm) (gMo_layers sm) (gMo_thickness sm) (gMo_cuts sm) (gMo_cx sm) (gMo_cy sm) (gMo_cz sm) (gMo_solids sm) (gMo_shell sm) (gMo_skin sm) (gMo_period sm) (gMo_reach sm) (gMo_gap sm) (gMo_bytes sm) (gMo_played sm) (gMo_at sm) (gMo_program sm) (gMo_beads sm) (gMo_ring sm)) := ⟨rfl, hI⟩
    clear h51 h77 h159
    refine m_in r1 (by decide) ⟨by show -2147483648 ≤ gMo_layers sm - 1; omega, by show gMo_layers sm - 1 ≤ 2147483647; omega⟩ (fun q1 q2 => ⟨by decide, fun q => absurd q (by decide), fun _ => ?_⟩) (fun _ => ⟨by decide, fun _ => hq, fun q => absurd rfl q⟩)
    have q2 : a1 ≤ gMo_layers sm - 1 := q2
    refine m_in r2 (by decide) (by decide) (fun q3 q4 => ⟨by decide, fun q => absurd q (by decide), fun _ => ?_⟩) (fun _ => ⟨by decide, fun _ => hq, fun q => absurd rfl q⟩)
    exact m_in0 r3 (by decide) (by decide) (by omega) ⟨by decide, fun q => absurd rfl q, fun _ => hq⟩
  unfold wp_LS_kind wp_Sl_hasRow wp_Sl_hasLayer
  rw [ec]
  by_cases g : 0 ≤ a1 ∧ a1 < gMo_layers sm ∧ 0 ≤ a2 ∧ a2 < 12 ∧ 0 ≤ a3 ∧ a3 < 12
  · obtain ⟨g1, g2, g3, g4, g5, g6⟩ := g
    have hq : wp_So_kindAt a1 a2 a3 (gLS_sorter sx) (fun r4 => wp_Mo_kind a1 a2 a3 sm (fun r2 u3 => r4 = r2 ∧ Inv sx u3)) := m_kindAt h4 hly.2 ⟨g1, g2⟩ ⟨g3, g4⟩ ⟨g5, g6⟩ (mo _ ⟨⟨by omega, by omega⟩, ⟨by omega, by omega⟩, ⟨by omega, by omega⟩⟩ rfl)
    exact ⟨r1, fun q => by omega, fun _ => ⟨⟨by omega, by omega⟩, fun q => by omega, fun _ => ⟨by decide, fun q => absurd q (by decide), fun _ => ⟨r3, fun q => by omega, fun _ => ⟨fun q => by omega, fun _ => ⟨by decide, fun q => absurd q (by decide), fun _ => ⟨r2, fun q => by omega, fun _ => ⟨fun q => by omega, fun _ => hq⟩⟩⟩⟩⟩⟩⟩⟩
  · have z := mo0 g
    have m1 : ∀ P : Int → Prop, P 0 → (0 ≤ a1 ∧ a1 < gMo_layers sm ∧ 0 ≤ a3 ∧ a3 < 12 → P 1) → (rg a1 ∧ ((a1 < 0 → (rg 0 ∧ ((0 = 0 → P 0) ∧ ((0 : Int) ≠ 0 → True)))) ∧ (0 ≤ a1 → True))) := fun P p0 p1 => ⟨r1, fun q => ⟨by decide, fun _ => p0, fun _ => trivial⟩, fun _ => trivial⟩
    clear m1
    refine ⟨r1, fun q => ⟨by decide, fun _ => ⟨by decide, fun _ => z, fun q => absurd rfl q⟩, fun q => absurd rfl q⟩, fun q1 => ⟨⟨by omega, by omega⟩, fun q => ⟨by decide, fun _ => ⟨by decide, fun _ => z, fun q => absurd rfl q⟩, fun q => absurd rfl q⟩, fun q2 => ⟨by decide, fun q => absurd q (by decide), fun _ => ⟨r3, fun q => ⟨by decide, fun _ => z, fun q => absurd rfl q⟩, fun q3 => ⟨fun q => ⟨by decide, fun _ => z, fun q => absurd rfl q⟩, fun q4 => ⟨by decide, fun q => absurd q (by decide), fun _ => ⟨r2, fun _ => z, fun q5 => ⟨fun _ => z, fun q6 => absurd ⟨q1, q2, q5, q6, q3, q4⟩ g⟩⟩⟩⟩⟩⟩⟩⟩
