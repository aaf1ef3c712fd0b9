/-! ===== MEANING 23: paths, path ===== -/
theorem ki_of {sx : s_LS} {sm : s_Mo} (hi : Inv sx sm) {l : Int} (hl : 0 ≤ l ∧ l < gMo_layers sm) : ∀ (x y : Nat), x < 12 → y < 12 → ∀ R : Int → Prop, R (kfm sm l (12 * y + x)) → wp_So_kindAt l x y (gLS_sorter sx) R := by
  intro x y hx hy R h
  have h4 := hi.2.2.2.1
  have hly := hi.2.2.1.2.2.1
  refine m_kindAt h4 hly.2 hl ⟨by omega, by omega⟩ ⟨by omega, by omega⟩ ?_
  unfold kfm kdm at h
  rw [show (12 * y + x) % 12 = x by omega, show (12 * y + x) / 12 = y by omega] at h
  exact h
theorem m_hasLayer {l : Int} {s0 : s_Sl} {Q : Int → Prop} (rl : rg l) (hc : 0 ≤ gSl_count s0 ∧ gSl_count s0 ≤ 24) (h1 : 0 ≤ l → l < gSl_count s0 → Q 1) (h0 : ¬ (0 ≤ l ∧ l < gSl_count s0) → Q 0) : wp_Sl_hasLayer l s0 Q :=
  ⟨rl, fun q => h0 (by omega), fun q => ⟨⟨by omega, by omega⟩, fun q2 => h0 (by omega), fun q2 => h1 q q2⟩⟩
theorem t_paths {a1 : Int} (r1 : rg a1) {sx : s_LS} {sm : s_Mo} (hi : Inv sx sm) : wp_LS_paths a1 sx (fun r1 u2 => wp_Mo_paths a1 sm (fun r3 u4 => r1 = r3 ∧ Inv u2 u4)) := by
  have hI : Inv sx (mkMo (0) (gMo_corners sm) (gMo_px sm) (gMo_py sm) (gMo_pz sm) (gMo_triangles sm) (gMo_named sm) (gMo_joined sm) (gMo_dropped sm) (gMo_closed sm) (gMo_layers sm) (gMo_thickness sm) (gMo_cuts sm) (gMo_cx sm) (gMo_cy sm) (gMo_cz sm) (gMo_solids sm) (gMo_shell sm) (gMo_skin sm) (gMo_period sm) (gMo_reach sm) (gMo_gap sm) (gMo_bytes sm) (gMo_played sm) (gMo_at sm) (gMo_program sm) (gMo_beads sm) (gMo_ring sm)) := hi
  have hk := kOk_of hI
  have h3 := hi.2.2.1
  have ec : gSl_count (gLS_slices sx) = gMo_layers sm := h3.1
  have hly := h3.2.2.1
  unfold wp_LS_paths
  refine m_hasLayer r1 (by rw [ec]; exact hly) (fun q1 q2 => ⟨by decide, fun q => absurd q (by decide), fun _ => ?_⟩) (fun q => ⟨by decide, fun _ => ?_, fun q => absurd rfl q⟩)
  · rw [ec] at q2
    refine m_findRuns (ki_of hi ⟨q1, q2⟩) (kfm_rg sm a1) (fun u hu => ?_)
    unfold wp_Mo_paths
    refine m_pathsOf hk ⟨q1, q2⟩ ⟨rfl, hI⟩
  · rw [ec] at q
    unfold wp_Mo_paths wp_Mo_pathsOf
    intro P2 h2
    apply h2
    exact m_in0 r1 (by decide) ⟨by show -2147483648 ≤ gMo_layers sm - 1; omega, by show gMo_layers sm - 1 ≤ 2147483647; omega⟩ (by show a1 < 0 ∨ gMo_layers sm - 1 < a1; omega) ⟨by decide, fun _ => ⟨rfl, hI⟩, fun q => absurd rfl q⟩
/-- the reference throws -/
theorem m_Mo_path0 {a1 a2 a3 : Int} {s0 : s_Mo} {Q : Int → s_Mo → Prop} (hk : kOk s0) (r1 : rg a1) (r2 : rg a2) (r3 : rg a3) (g : ¬ (0 ≤ a1 ∧ a1 < gMo_layers s0) ∨ a2 < 0 ∨ ¬ (0 ≤ a3 ∧ a3 ≤ 3) ∨ ((0 ≤ a1 ∧ a1 < gMo_layers s0) ∧ (rk (kfm s0 a1) 144 : Int) ≤ a2)) (h : Q 0 (mkMo (1) (gMo_corners s0) (gMo_px s0) (gMo_py s0) (gMo_pz s0) (gMo_triangles s0) (gMo_named s0) (gMo_joined s0) (gMo_dropped s0) (gMo_closed s0) (gMo_layers s0) (gMo_thickness s0) (gMo_cuts s0) (gMo_cx s0) (gMo_cy s0) (gMo_cz s0) (gMo_solids s0) (gMo_shell s0) (gMo_skin s0) (gMo_period s0) (gMo_reach s0) (gMo_gap s0) (gMo_bytes s0) (gMo_played s0) (gMo_at s0) (gMo_program s0) (gMo_beads s0) (gMo_ring s0))) : wp_Mo_path a1 a2 a3 s0 Q := by
  have hly := hk.1
  unfold wp_Mo_path
  intro P50 h50
  have hz : P50 (-1) 1 s0 := by
    apply h50
    exact ⟨by decide, fun q => absurd q (by decide), fun _ => h⟩
  clear h50 h
  refine m_in r1 (by decide) ⟨by omega, by omega⟩ (fun q1 q2 => ⟨by decide, fun q => absurd q (by decide), fun _ => ⟨r2, fun _ => hz, fun q3 => ?_⟩⟩) (fun _ => ⟨by decide, fun _ => hz, fun q => absurd rfl q⟩)
  refine m_in r3 (by decide) (by decide) (fun q4 q5 => ⟨by decide, fun q => absurd q (by decide), fun _ => ?_⟩) (fun _ => ⟨by decide, fun _ => hz, fun q => absurd rfl q⟩)
  have hg : (rk (kfm s0 a1) 144 : Int) ≤ a2 := by omega
  have e2 : a2 = ((a2.toNat : Nat) : Int) := by omega
  rw [e2]
  refine m_begins hk ⟨by omega, by omega⟩ (by rw [← e2]; exact r2) (fun c c1 c2 c3 => ?_) (fun _ => ⟨by decide, fun _ => hz, fun q => absurd q (by decide)⟩)
  have := rk_lt c1 c2
  omega
def pv (kf : Nat → Int) (c : Nat) (w : Int) : Int := if w = 0 then kf c else if w = 1 then ((c % 12 : Nat) : Int) else if w = 2 then ((c / 12 : Nat) : Int) else (lnt kf c 144 : Int)
theorem m_Mo_path1 {a1 a2 a3 : Int} {s0 : s_Mo} {Q : Int → s_Mo → Prop} (hk : kOk s0) (r1 : rg a1) (r2 : rg a2) (r3 : rg a3) (g1 : 0 ≤ a1 ∧ a1 < gMo_layers s0) (g2 : 0 ≤ a2 ∧ a2 < (rk (kfm s0 a1) 144 : Int)) (g3 : 0 ≤ a3 ∧ a3 ≤ 3) (h : ∀ c : Nat, c < 144 → stt (kfm s0 a1) c = true → (rk (kfm s0 a1) c : Int) = a2 → Q (pv (kfm s0 a1) c a3) (mkMo (0) (gMo_corners s0) (gMo_px s0) (gMo_py s0) (gMo_pz s0) (gMo_triangles s0) (gMo_named s0) (gMo_joined s0) (gMo_dropped s0) (gMo_closed s0) (gMo_layers s0) (gMo_thickness s0) (gMo_cuts s0) (gMo_cx s0) (gMo_cy s0) (gMo_cz s0) (gMo_solids s0) (gMo_shell s0) (gMo_skin s0) (gMo_period s0) (gMo_reach s0) (gMo_gap s0) (gMo_bytes s0) (gMo_played s0) (gMo_at s0) (gMo_program s0) (gMo_beads s0) (gMo_ring s0))) : wp_Mo_path a1 a2 a3 s0 Q := by
  have hly := hk.1
  unfold wp_Mo_path
  intro P50 h50
  refine m_in1 r1 (by decide) ⟨by omega, by omega⟩ g1.1 (by omega) ⟨by decide, fun q => absurd q (by decide), fun _ => ⟨r2, fun q => by omega, fun q3 => ?_⟩⟩
  refine m_in1 r3 (by decide) (by decide) g3.1 g3.2 ⟨by decide, fun q => absurd q (by decide), fun _ => ?_⟩
  have e2 : a2 = ((a2.toNat : Nat) : Int) := by omega
  have hb : wp_Mo_begins a1 ((a2.toNat : Nat) : Int) s0 (fun r6 => rg r6 ∧ ((r6 < 0 → P50 r6 1 s0) ∧ (0 ≤ r6 → P50 r6 0 s0))) := by
    refine m_begins hk ⟨by omega, by omega⟩ (by rw [← e2]; exact r2) (fun c c1 c2 c3 => ⟨⟨by omega, by omega⟩, fun q => by omega, fun _ => ?_⟩) (fun q => by omega)
    have hq := h c c1 c2 (by omega)
    apply h50
    have hk0 : kOk (mkMo (0) (gMo_corners s0) (gMo_px s0) (gMo_py s0) (gMo_pz s0) (gMo_triangles s0) (gMo_named s0) (gMo_joined s0) (gMo_dropped s0) (gMo_closed s0) (gMo_layers s0) (gMo_thickness s0) (gMo_cuts s0) (gMo_cx s0) (gMo_cy s0) (gMo_cz s0) (gMo_solids s0) (gMo_shell s0) (gMo_skin s0) (gMo_period s0) (gMo_reach s0) (gMo_gap s0) (gMo_bytes s0) (gMo_played s0) (gMo_at s0) (gMo_program s0) (gMo_beads s0) (gMo_ring s0)) := hk
    refine ⟨⟨by omega, by omega⟩, fun _ => ⟨r3, fun w0 => ⟨fun w1 => ⟨fun w2 => ?_, fun w2 => ?_⟩, fun w1 => ?_⟩, fun w0 => ?_⟩, fun q => by omega⟩
    · refine m_longAt hk0 ⟨by omega, by omega⟩ c1 ?_
      unfold pv at hq
      rw [if_neg w0, if_neg w1, if_neg w2] at hq
      exact hq
    · unfold pv at hq
      rw [if_neg w0, if_neg w1, if_pos w2] at hq
      rw [td12]
      exact hq
    · unfold pv at hq
      rw [if_neg w0, if_pos w1] at hq
      rw [tm12]
      exact hq
    · refine m_kc hk0 ⟨by omega, by omega⟩ c1 ?_
      unfold pv at hq
      rw [if_pos w0] at hq
      exact hq
  rw [← e2] at hb
  exact hb
theorem t_path {a1 a2 a3 : Int} (r1 : rg a1) (r2 : rg a2) (r3 : rg a3) {sx : s_LS} {sm : s_Mo} (hi : Inv sx sm) : (wp_LS_path a1 a2 a3 sx (fun r1 u2 => rg r1 ∧ (rg r1 ∧ (wp_Mo_path a1 a2 a3 sm (fun r3 u4 => wp_Mo_thrown u4 (fun r5 => r5 = 0 ∧ (r1 = r3 ∧ (Inv u2 u4)))))))) ∨ (wt_LS_path a1 a2 a3 sx (fun u2 => wp_Mo_path a1 a2 a3 sm (fun r6 u7 => wp_Mo_thrown u7 (fun r8 => r8 = 1 ∧ (Inv u2 u7))))) := by
  have hk := kOk_of hi
  have hI0 : Inv sx (mkMo (0) (gMo_corners sm) (gMo_px sm) (gMo_py sm) (gMo_pz sm) (gMo_triangles sm) (gMo_named sm) (gMo_joined sm) (gMo_dropped sm) (gMo_closed sm) (gMo_layers sm) (gMo_thickness sm) (gMo_cuts sm) (gMo_cx sm) (gMo_cy sm) (gMo_cz sm) (gMo_solids sm) (gMo_shell sm) (gMo_skin sm) (gMo_period sm) (gMo_reach sm) (gMo_gap sm) (gMo_bytes sm) (gMo_played sm) (gMo_at sm) (gMo_program sm) (gMo_beads sm) (gMo_ring sm)) := hi
  have hI1 : Inv sx (mkMo (1) (gMo_corners sm) (gMo_px sm) (gMo_py sm) (gMo_pz sm) (gMo_triangles sm) (gMo_named sm) (gMo_joined sm) (gMo_dropped sm) (gMo_closed sm) (gMo_layers sm) (gMo_thickness sm) (gMo_cuts sm) (gMo_cx sm) (gMo_cy sm) (gMo_cz sm) (gMo_solids sm) (gMo_shell sm) (gMo_skin sm) (gMo_period sm) (gMo_reach sm) (gMo_gap sm) (gMo_bytes sm) (gMo_played sm) (gMo_at sm) (gMo_program sm) (gMo_beads sm) (gMo_ring sm)) := hi
  have h3 := hi.2.2.1
  have ec : gSl_count (gLS_slices sx) = gMo_layers sm := h3.1
  have hly := h3.2.2.1
  have hle := rk_le (kfm sm a1) 144
  by_cases g : (0 ≤ a1 ∧ a1 < gMo_layers sm) ∧ (0 ≤ a2 ∧ a2 < (rk (kfm sm a1) 144 : Int)) ∧ (0 ≤ a3 ∧ a3 ≤ 3)
  · obtain ⟨g1, g2, g3⟩ := g
    refine Or.inl ?_
    unfold wp_LS_path
    refine ⟨r3, fun q => by omega, fun _ => ⟨fun q => by omega, fun _ => ⟨r2, fun q => by omega, fun _ => ?_⟩⟩⟩
    refine m_hasLayer r1 (by rw [ec]; exact hly) (fun q1 q2 => ⟨by decide, fun q => absurd q (by decide), fun _ => ?_⟩) (fun q => by rw [ec] at q; omega)
    refine m_findRuns (ki_of hi g1) (kfm_rg sm a1) (fun u hu => ⟨⟨by omega, by omega⟩, fun q => ⟨⟨by omega, by omega⟩, ?_⟩, fun q => by omega⟩)
    have hv : ∀ c : Nat, c < 144 → stt (kfm sm a1) c = true → (rk (kfm sm a1) c : Int) = a2 → u (4 * a2 + a3) = pv (kfm sm a1) c a3 := by
      intro c c1 c2 c3
      obtain ⟨v1, v2, v3, v4⟩ := hu c c1 c2
      rw [c3] at v1 v2 v3 v4
      unfold pv
      by_cases w0 : a3 = 0
      · rw [if_pos w0, w0, Int.add_zero]
        exact v1
      · rw [if_neg w0]
        by_cases w1 : a3 = 1
        · rw [if_pos w1, w1]
          exact v2
        · rw [if_neg w1]
          by_cases w2 : a3 = 2
          · rw [if_pos w2, w2]
            exact v3
          · rw [if_neg w2, show a3 = 3 by omega]
            exact v4
    have hrg : ∀ c : Nat, c < 144 → rg (pv (kfm sm a1) c a3) := by
      intro c c1
      have := kfm_rg sm a1 c
      have := lnt_row (kfm sm a1) c 144
      unfold pv
      split
      · exact ⟨by omega, by omega⟩
      · split
        · exact ⟨by omega, by omega⟩
        · split
          · exact ⟨by omega, by omega⟩
          · exact ⟨by omega, by omega⟩
    have hex : ∃ c : Nat, c < 144 ∧ stt (kfm sm a1) c = true ∧ (rk (kfm sm a1) c : Int) = a2 := by
      have key : ∀ n : Nat, a2 < (rk (kfm sm a1) n : Int) → ∃ c : Nat, c < n ∧ stt (kfm sm a1) c = true ∧ (rk (kfm sm a1) c : Int) = a2 := by
        intro n
        induction n with
        | zero =>
          intro w
          rw [rk_0] at w
          omega
        | succ n ih =>
          intro w
          by_cases hs : stt (kfm sm a1) n = true
          · by_cases e : (rk (kfm sm a1) n : Int) = a2
            · exact ⟨n, by omega, hs, e⟩
            · rw [rk_t hs] at w
              obtain ⟨c, c1, c2⟩ := ih (by omega)
              exact ⟨c, by omega, c2⟩
          · rw [rk_f hs] at w
            obtain ⟨c, c1, c2⟩ := ih w
            exact ⟨c, by omega, c2⟩
      exact key 144 g2.2
    obtain ⟨c, c1, c2, c3⟩ := hex
    have hR : rg (u (4 * a2 + a3)) := by
      rw [hv c c1 c2 c3]
      exact hrg c c1
    refine ⟨hR, hR, ?_⟩
    refine m_Mo_path1 hk r1 r2 r3 g1 g2 g3 (fun c' d1 d2 d3 => ⟨rfl, hv c' d1 d2 d3, hI0⟩)
  · refine Or.inr ?_
    have hm : ∀ u : s_Ro, wp_Mo_path a1 a2 a3 sm (fun r6 u7 => wp_Mo_thrown u7 (fun r8 => r8 = 1 ∧ (Inv (mkLS (gLS_mesh sx) (gLS_mender sx) (gLS_slices sx) (gLS_sorter sx) u (gLS_printer sx)) u7))) := fun u => m_Mo_path0 hk r1 r2 r3 (by omega) ⟨rfl, hI1⟩
    have hm0 := hm (gLS_router sx)
    unfold wt_LS_path
    refine ⟨r3, fun q => hm0, fun q1 => ⟨fun q => hm0, fun q2 => ⟨r2, fun q => hm0, fun q3 => ?_⟩⟩⟩
    refine m_hasLayer r1 (by rw [ec]; exact hly) (fun q4 q5 => ⟨by decide, fun q => absurd q (by decide), fun _ => ?_⟩) (fun q => ⟨by decide, fun _ => hm0, fun q => absurd rfl q⟩)
    rw [ec] at q5
    refine m_findRuns (ki_of hi ⟨q4, q5⟩) (kfm_rg sm a1) (fun u hu => ⟨⟨by omega, by omega⟩, fun q => by omega, fun q => hm u⟩)
