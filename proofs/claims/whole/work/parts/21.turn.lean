/-! ===== MEANING 11: turn ===== -/
/-- the first v places of g, the rest of f -/
def mix (f g : Int → Int) (v : Int) : Int → Int := fun i => if 0 ≤ i ∧ i < v then g i else f i
theorem mix_0 (f g : Int → Int) : mix f g 0 = f := by
  funext i
  unfold mix
  rw [if_neg (by omega)]
theorem mix_at (f g : Int → Int) (v : Int) : mix f g v v = f v := by
  unfold mix
  rw [if_neg (by omega)]
theorem mix_s (f g : Int → Int) {v : Int} (h : 0 ≤ v) : mix f g (v + 1) = iset (mix f g v) v (g v) := by
  funext i
  unfold mix iset
  dsimp only
  by_cases h1 : i = v
  · subst h1
    rw [if_pos (by omega), if_pos rfl]
  · rw [if_neg h1]
    by_cases h2 : 0 ≤ i ∧ i < v
    · rw [if_pos (by omega), if_pos h2]
    · rw [if_neg (by omega), if_neg h2]
theorem mix_same {f g : Int → Int} (h : ∀ i, g i = f i) (v : Int) : mix f g v = f := by
  funext i
  unfold mix
  split
  · exact h i
  · rfl
abbrev p3 : Type := (Int → Int) × (Int → Int) × (Int → Int)
def gx (a : Int) (p : p3) : Int → Int := fun i => if a = 0 then p.1 i else if a = 1 then p.2.2 i else 120 - p.2.1 i
def gy (a : Int) (p : p3) : Int → Int := fun i => if a = 0 then 120 - p.2.2 i else if a = 1 then p.2.1 i else p.1 i
def gz (a : Int) (p : p3) : Int → Int := fun i => if a = 0 then p.2.1 i else if a = 1 then 120 - p.1 i else p.2.2 i
def tqv (a : Int) (p : p3) (v : Int) : p3 := (mix p.1 (gx a p) v, mix p.2.1 (gy a p) v, mix p.2.2 (gz a p) v)
def tqn (a nc : Int) (p : p3) : Nat → p3
  | 0 => p
  | k + 1 => tqv a (tqn a nc p k) nc
theorem tqv_0 (a : Int) (p : p3) : tqv a p 0 = p := by
  unfold tqv
  rw [mix_0, mix_0, mix_0]
def ok3 (p : p3) : Prop := ∀ i : Int, (0 ≤ p.1 i ∧ p.1 i ≤ 120) ∧ (0 ≤ p.2.1 i ∧ p.2.1 i ≤ 120) ∧ (0 ≤ p.2.2 i ∧ p.2.2 i ≤ 120)
theorem tqv_ok {a v : Int} {p : p3} (h : ok3 p) : ok3 (tqv a p v) := by
  intro i
  have := h i
  unfold tqv mix gx gy gz
  dsimp only
  split
  · split
    · omega
    · split <;> omega
  · omega
theorem tqn_ok {a nc : Int} {p : p3} (h : ok3 p) : ∀ k, ok3 (tqn a nc p k)
  | 0 => h
  | k + 1 => tqv_ok (tqn_ok h k)
def meT (p : p3) (nc nt : Int) (nm : Int → Int) : s_Me := mkMe p.1 p.2.1 p.2.2 nc nm nt
def moT (s : s_Mo) (p : p3) : s_Mo := (mkMo (0) (gMo_corners s) (p.1) (p.2.1) (p.2.2) (gMo_triangles s) (gMo_named s) (gMo_joined s) (gMo_dropped s) (gMo_closed s) (gMo_layers s) (gMo_thickness s) (gMo_cuts s) (gMo_cx s) (gMo_cy s) (gMo_cz s) (gMo_solids s) (gMo_shell s) (gMo_skin s) (gMo_period s) (gMo_reach s) (gMo_gap s) (gMo_bytes s) (gMo_played s) (gMo_at s) (gMo_program s) (gMo_beads s) (gMo_ring s))
theorem m_Me_turn {a nc nt : Int} {nm : Int → Int} {p : p3} {Q : s_Me → Prop} (ra : 0 ≤ a ∧ a ≤ 2) (hc : 0 ≤ nc ∧ nc ≤ 80) (h : Q (meT (tqv a p nc) nc nt nm)) : wp_Me_turnQuarter a (meT p nc nt nm) Q := by
  unfold wp_Me_turnQuarter
  intro P hP
  have key : ∀ k : Nat, ∀ v : Int, 0 ≤ v → v ≤ nc → nc - v = k → P v (meT (tqv a p v) nc nt nm) := by
    intro k
    induction k with
    | zero =>
      intro v h1 h2 h3
      have e : v = nc := by omega
      subst e
      apply hP
      unfold meT
      exact ⟨⟨by omega, by omega⟩, ⟨by show -2147483648 ≤ v; omega, by show v ≤ 2147483647; omega⟩, fun _ => h, fun q => absurd q (by show ¬ v < v; omega)⟩
    | succ k ih =>
      intro v h1 h2 h3
      have h4 := ih (v + 1) (by omega) (by omega) (by omega)
      apply hP
      unfold meT tqv at h4 ⊢
      dsimp only [gMe_x, gMe_y, gMe_z, gMe_corners, gMe_named, gMe_triangles, mkMe, gMn_joined, gMn_dropped, gMn_closed, gMn_lowestHere, gMn_counted, gMn_balance, gMn_openFrom, gMn_hole, mkMn, gSl_count, gSl_ends, gSl_thickness, gSl_mesh, gSl_solidRows, mkSl, gSo_rowsOfKind0, gSo_rowsOfKind1, gSo_rowsOfKind2, gSo_rowsOfKind3, gSo_rowsOfKind4, gSo_rowsOfKind5, gSo_rowsOfKind6, gSo_hanging, gSo_shell, gSo_skin, gSo_period, gSo_reach, gSo_gap, mkSo, gRo_runs, mkRo, gPr_program, gPr_length, gPr_beads, gPr_at, gPr_layer, mkPr, gLS_mesh, gLS_mender, gLS_slices, gLS_sorter, gLS_router, gLS_printer, mkLS, gMo_thrown, gMo_corners, gMo_px, gMo_py, gMo_pz, gMo_triangles, gMo_named, gMo_joined, gMo_dropped, gMo_closed, gMo_layers, gMo_thickness, gMo_cuts, gMo_cx, gMo_cy, gMo_cz, gMo_solids, gMo_shell, gMo_skin, gMo_period, gMo_reach, gMo_gap, gMo_bytes, gMo_played, gMo_at, gMo_program, gMo_beads, gMo_ring, mkMo] at h4 ⊢
      rw [mix_s _ _ h1, mix_s _ _ h1, mix_s _ _ h1] at h4
      refine ⟨⟨by omega, by omega⟩, ⟨by omega, by omega⟩, fun q => by omega, fun _ => ⟨⟨by omega, by omega⟩, ⟨by omega, by omega⟩, fun q => ⟨fun q2 => ?_, fun q2 => ?_⟩, fun q => ?_⟩⟩
      · rw [mix_at, mix_at]
        have e1 : gx a p v = 120 - p.2.1 v := by unfold gx; rw [if_neg q, if_neg q2]
        have e2 : gy a p v = p.1 v := by unfold gy; rw [if_neg q, if_neg q2]
        have e3 : iset (mix p.2.2 (gz a p) v) v (gz a p v) = mix p.2.2 (gz a p) v := by
          rw [← mix_s _ _ h1, mix_same (fun i => by unfold gz; rw [if_neg q, if_neg q2]), mix_same (fun i => by unfold gz; rw [if_neg q, if_neg q2])]
        rw [e1, e2, e3] at h4
        exact h4
      · rw [mix_at, mix_at]
        have e1 : gx a p v = p.2.2 v := by unfold gx; rw [if_neg q, if_pos q2]
        have e2 : gz a p v = 120 - p.1 v := by unfold gz; rw [if_neg q, if_pos q2]
        have e3 : iset (mix p.2.1 (gy a p) v) v (gy a p v) = mix p.2.1 (gy a p) v := by
          rw [← mix_s _ _ h1, mix_same (fun i => by unfold gy; rw [if_neg q, if_pos q2]), mix_same (fun i => by unfold gy; rw [if_neg q, if_pos q2])]
        rw [e1, e2, e3] at h4
        exact h4
      · rw [mix_at, mix_at]
        have e1 : gy a p v = 120 - p.2.2 v := by unfold gy; rw [if_pos q]
        have e2 : gz a p v = p.2.1 v := by unfold gz; rw [if_pos q]
        have e3 : iset (mix p.1 (gx a p) v) v (gx a p v) = mix p.1 (gx a p) v := by
          rw [← mix_s _ _ h1, mix_same (fun i => by unfold gx; rw [if_pos q]), mix_same (fun i => by unfold gx; rw [if_pos q])]
        rw [e1, e2, e3] at h4
        exact h4
  have h0 := key nc.toNat 0 (by omega) (by omega) (by omega)
  rw [tqv_0] at h0
  exact h0
theorem m_LS_turn {a n nc nt : Int} {nm : Int → Int} {p : p3} {s0 : s_LS} {Q : Int → s_LS → Prop} (ra : 0 ≤ a ∧ a ≤ 2) (rn : 0 ≤ n ∧ n ≤ 3) (hc : 0 ≤ nc ∧ nc ≤ 80) (hm : gLS_mesh s0 = meT p nc nt nm) (h : Q 1 (mkLS (meT (tqn a nc p n.toNat) nc nt nm) (gLS_mender s0) (gLS_slices s0) (gLS_sorter s0) (gLS_router s0) (gLS_printer s0))) : wp_LS_turn a n s0 Q := by
  unfold wp_LS_turn
  intro P hP
  have key : ∀ k : Nat, ∀ v : Nat, (v : Int) ≤ n → n - v = k → P v (mkLS (meT (tqn a nc p v) nc nt nm) (gLS_mender s0) (gLS_slices s0) (gLS_sorter s0) (gLS_router s0) (gLS_printer s0)) := by
    intro k
    induction k with
    | zero =>
      intro v h2 h3
      have e : v = n.toNat := by omega
      subst e
      apply hP
      exact ⟨⟨by omega, by omega⟩, ⟨by omega, by omega⟩, fun _ => h, fun q => by omega⟩
    | succ k ih =>
      intro v h2 h3
      have h4 := ih (v + 1) (by omega) (by omega)
      apply hP
      refine ⟨⟨by omega, by omega⟩, ⟨by omega, by omega⟩, fun q => by omega, fun _ => ?_⟩
      exact m_Me_turn ra hc h4
  have h0 := key n.toNat 0 (by omega) (by omega)
  have e0 : mkLS (meT (tqn a nc p 0) nc nt nm) (gLS_mender s0) (gLS_slices s0) (gLS_sorter s0) (gLS_router s0) (gLS_printer s0) = s0 := by
    show mkLS (meT p nc nt nm) _ _ _ _ _ = s0
    rw [← hm]
  rw [e0] at h0
  exact ⟨⟨by omega, by omega⟩, fun q => by omega, fun _ => ⟨fun q => by omega, fun _ => ⟨⟨by omega, by omega⟩, fun q => by omega, fun _ => ⟨fun _ => h0, fun q => by omega⟩⟩⟩⟩
theorem m_LS_turn0 {a n : Int} {s0 : s_LS} {Q : Int → s_LS → Prop} (ra : rg a) (rn : rg n) (g : ¬ ((0 ≤ a ∧ a ≤ 2) ∧ (0 ≤ n ∧ n ≤ 3))) (h : Q 0 s0) : wp_LS_turn a n s0 Q := by
  unfold wp_LS_turn
  intro P hP
  clear hP
  repeat' first | (exact h) | (intro _) | (refine And.intro ?_ ?_) | omega | (exfalso; omega)
theorem m_Mo_turn {a n : Int} {s0 : s_Mo} {Q : Int → s_Mo → Prop} (ra : 0 ≤ a ∧ a ≤ 2) (rn : 0 ≤ n ∧ n ≤ 3) (hc : 0 ≤ gMo_corners s0 ∧ gMo_corners s0 ≤ 80) (h : Q 1 (moT s0 (tqn a (gMo_corners s0) (gMo_px s0, gMo_py s0, gMo_pz s0) n.toNat))) : wp_Mo_turn a n s0 Q := by
  unfold wp_Mo_turn
  intro P27 P35 P101 P132 h27 h35 h101 h132
  generalize hp0 : (gMo_px s0, gMo_py s0, gMo_pz s0) = p0 at h
  have quarter : ∀ (v : Int) (p : p3), P27 (v + 1) (moT s0 (tqv a p (gMo_corners s0))) → P35 v 0 (moT s0 p) := by
    intro v p hn
    have key : ∀ k : Nat, ∀ w : Int, 0 ≤ w → w ≤ gMo_corners s0 → gMo_corners s0 - w = k → P35 v w (moT s0 (tqv a p w)) := by
      intro k
      induction k with
      | zero =>
        intro w h1 h2 h3
        have e : w = gMo_corners s0 := by omega
        apply h35
        show rg w ∧ rg (gMo_corners s0) ∧ ((gMo_corners s0 ≤ w → _) ∧ (w < gMo_corners s0 → _))
        refine ⟨⟨by omega, by omega⟩, ⟨by omega, by omega⟩, fun _ => ?_, fun q => by omega⟩
        rw [e]
        exact hn
      | succ k ih =>
        intro w h1 h2 h3
        have h4 := ih (w + 1) (by omega) (by omega) (by omega)
        unfold moT tqv at h4 ⊢
        dsimp only [gMe_x, gMe_y, gMe_z, gMe_corners, gMe_named, gMe_triangles, mkMe, gMn_joined, gMn_dropped, gMn_closed, gMn_lowestHere, gMn_counted, gMn_balance, gMn_openFrom, gMn_hole, mkMn, gSl_count, gSl_ends, gSl_thickness, gSl_mesh, gSl_solidRows, mkSl, gSo_rowsOfKind0, gSo_rowsOfKind1, gSo_rowsOfKind2, gSo_rowsOfKind3, gSo_rowsOfKind4, gSo_rowsOfKind5, gSo_rowsOfKind6, gSo_hanging, gSo_shell, gSo_skin, gSo_period, gSo_reach, gSo_gap, mkSo, gRo_runs, mkRo, gPr_program, gPr_length, gPr_beads, gPr_at, gPr_layer, mkPr, gLS_mesh, gLS_mender, gLS_slices, gLS_sorter, gLS_router, gLS_printer, mkLS, gMo_thrown, gMo_corners, gMo_px, gMo_py, gMo_pz, gMo_triangles, gMo_named, gMo_joined, gMo_dropped, gMo_closed, gMo_layers, gMo_thickness, gMo_cuts, gMo_cx, gMo_cy, gMo_cz, gMo_solids, gMo_shell, gMo_skin, gMo_period, gMo_reach, gMo_gap, gMo_bytes, gMo_played, gMo_at, gMo_program, gMo_beads, gMo_ring, mkMo] at h4 ⊢
        rw [mix_s _ _ h1, mix_s _ _ h1, mix_s _ _ h1] at h4
        have h80 : 0 ≤ w ∧ w < 80 := ⟨h1, by omega⟩
        have rra : rg a := ⟨by omega, by omega⟩
        apply h35
        dsimp only [gMe_x, gMe_y, gMe_z, gMe_corners, gMe_named, gMe_triangles, mkMe, gMn_joined, gMn_dropped, gMn_closed, gMn_lowestHere, gMn_counted, gMn_balance, gMn_openFrom, gMn_hole, mkMn, gSl_count, gSl_ends, gSl_thickness, gSl_mesh, gSl_solidRows, mkSl, gSo_rowsOfKind0, gSo_rowsOfKind1, gSo_rowsOfKind2, gSo_rowsOfKind3, gSo_rowsOfKind4, gSo_rowsOfKind5, gSo_rowsOfKind6, gSo_hanging, gSo_shell, gSo_skin, gSo_period, gSo_reach, gSo_gap, mkSo, gRo_runs, mkRo, gPr_program, gPr_length, gPr_beads, gPr_at, gPr_layer, mkPr, gLS_mesh, gLS_mender, gLS_slices, gLS_sorter, gLS_router, gLS_printer, mkLS, gMo_thrown, gMo_corners, gMo_px, gMo_py, gMo_pz, gMo_triangles, gMo_named, gMo_joined, gMo_dropped, gMo_closed, gMo_layers, gMo_thickness, gMo_cuts, gMo_cx, gMo_cy, gMo_cz, gMo_solids, gMo_shell, gMo_skin, gMo_period, gMo_reach, gMo_gap, gMo_bytes, gMo_played, gMo_at, gMo_program, gMo_beads, gMo_ring, mkMo]
        refine ⟨⟨by omega, by omega⟩, ⟨by have := hc.1; dsimp only [gMe_x, gMe_y, gMe_z, gMe_corners, gMe_named, gMe_triangles, mkMe, gMn_joined, gMn_dropped, gMn_closed, gMn_lowestHere, gMn_counted, gMn_balance, gMn_openFrom, gMn_hole, mkMn, gSl_count, gSl_ends, gSl_thickness, gSl_mesh, gSl_solidRows, mkSl, gSo_rowsOfKind0, gSo_rowsOfKind1, gSo_rowsOfKind2, gSo_rowsOfKind3, gSo_rowsOfKind4, gSo_rowsOfKind5, gSo_rowsOfKind6, gSo_hanging, gSo_shell, gSo_skin, gSo_period, gSo_reach, gSo_gap, mkSo, gRo_runs, mkRo, gPr_program, gPr_length, gPr_beads, gPr_at, gPr_layer, mkPr, gLS_mesh, gLS_mender, gLS_slices, gLS_sorter, gLS_router, gLS_printer, mkLS, gMo_thrown, gMo_corners, gMo_px, gMo_py, gMo_pz, gMo_triangles, gMo_named, gMo_joined, gMo_dropped, gMo_closed, gMo_layers, gMo_thickness, gMo_cuts, gMo_cx, gMo_cy, gMo_cz, gMo_solids, gMo_shell, gMo_skin, gMo_period, gMo_reach, gMo_gap, gMo_bytes, gMo_played, gMo_at, gMo_program, gMo_beads, gMo_ring, mkMo] at *; omega, by have := hc.2; dsimp only [gMe_x, gMe_y, gMe_z, gMe_corners, gMe_named, gMe_triangles, mkMe, gMn_joined, gMn_dropped, gMn_closed, gMn_lowestHere, gMn_counted, gMn_balance, gMn_openFrom, gMn_hole, mkMn, gSl_count, gSl_ends, gSl_thickness, gSl_mesh, gSl_solidRows, mkSl, gSo_rowsOfKind0, gSo_rowsOfKind1, gSo_rowsOfKind2, gSo_rowsOfKind3, gSo_rowsOfKind4, gSo_rowsOfKind5, gSo_rowsOfKind6, gSo_hanging, gSo_shell, gSo_skin, gSo_period, gSo_reach, gSo_gap, mkSo, gRo_runs, mkRo, gPr_program, gPr_length, gPr_beads, gPr_at, gPr_layer, mkPr, gLS_mesh, gLS_mender, gLS_slices, gLS_sorter, gLS_router, gLS_printer, mkLS, gMo_thrown, gMo_corners, gMo_px, gMo_py, gMo_pz, gMo_triangles, gMo_named, gMo_joined, gMo_dropped, gMo_closed, gMo_layers, gMo_thickness, gMo_cuts, gMo_cx, gMo_cy, gMo_cz, gMo_solids, gMo_shell, gMo_skin, gMo_period, gMo_reach, gMo_gap, gMo_bytes, gMo_played, gMo_at, gMo_program, gMo_beads, gMo_ring, mkMo] at *; omega⟩, fun q => by dsimp only [gMe_x, gMe_y, gMe_z, gMe_corners, gMe_named, gMe_triangles, mkMe, gMn_joined, gMn_dropped, gMn_closed, gMn_lowestHere, gMn_counted, gMn_balance, gMn_openFrom, gMn_hole, mkMn, gSl_count, gSl_ends, gSl_thickness, gSl_mesh, gSl_solidRows, mkSl, gSo_rowsOfKind0, gSo_rowsOfKind1, gSo_rowsOfKind2, gSo_rowsOfKind3, gSo_rowsOfKind4, gSo_rowsOfKind5, gSo_rowsOfKind6, gSo_hanging, gSo_shell, gSo_skin, gSo_period, gSo_reach, gSo_gap, mkSo, gRo_runs, mkRo, gPr_program, gPr_length, gPr_beads, gPr_at, gPr_layer, mkPr, gLS_mesh, gLS_mender, gLS_slices, gLS_sorter, gLS_router, gLS_printer, mkLS, gMo_thrown, gMo_corners, gMo_px, gMo_py, gMo_pz, gMo_triangles, gMo_named, gMo_joined, gMo_dropped, gMo_closed, gMo_layers, gMo_thickness, gMo_cuts, gMo_cx, gMo_cy, gMo_cz, gMo_solids, gMo_shell, gMo_skin, gMo_period, gMo_reach, gMo_gap, gMo_bytes, gMo_played, gMo_at, gMo_program, gMo_beads, gMo_ring, mkMo] at *; omega, fun _ => ⟨h80, rra, fun q => ⟨fun q2 => ?_, fun q2 => ?_⟩, fun q => ?_⟩⟩
        · have e1 : gx a p w = 120 - p.2.1 w := by unfold gx; rw [if_neg q, if_neg q2]
          have e2 : gy a p w = p.1 w := by unfold gy; rw [if_neg q, if_neg q2]
          have e3 : gz a p w = p.2.2 w := by unfold gz; rw [if_neg q, if_neg q2]
          rw [e1, e2, e3] at h4
          rw [mix_at, mix_at, mix_at]
          apply h101
          refine ⟨h80, rra, fun _ => ⟨fun _ => ?_, fun q3 => absurd q3 q2⟩, fun q3 => absurd q3 q⟩
          apply h132
          exact ⟨h80, rra, fun _ => ⟨fun _ => ⟨h80, h4⟩, fun q3 => absurd q3 q2⟩, fun q3 => absurd q3 q⟩
        · have e1 : gx a p w = p.2.2 w := by unfold gx; rw [if_neg q, if_pos q2]
          have e2 : gy a p w = p.2.1 w := by unfold gy; rw [if_neg q, if_pos q2]
          have e3 : gz a p w = 120 - p.1 w := by unfold gz; rw [if_neg q, if_pos q2]
          rw [e1, e2, e3] at h4
          rw [mix_at, mix_at, mix_at]
          apply h101
          refine ⟨h80, rra, fun _ => ⟨fun q3 => absurd q2 q3, fun _ => ?_⟩, fun q3 => absurd q3 q⟩
          apply h132
          exact ⟨h80, rra, fun _ => ⟨fun q3 => absurd q2 q3, fun _ => ⟨h80, h4⟩⟩, fun q3 => absurd q3 q⟩
        · have e1 : gx a p w = p.1 w := by unfold gx; rw [if_pos q]
          have e2 : gy a p w = 120 - p.2.2 w := by unfold gy; rw [if_pos q]
          have e3 : gz a p w = p.2.1 w := by unfold gz; rw [if_pos q]
          rw [e1, e2, e3] at h4
          rw [mix_at, mix_at, mix_at]
          apply h101
          refine ⟨h80, rra, fun q3 => absurd q q3, fun _ => ?_⟩
          apply h132
          exact ⟨h80, rra, fun q3 => absurd q q3, fun _ => ⟨h80, h4⟩⟩
    have h0 := key (gMo_corners s0).toNat 0 (by omega) (by omega) (by omega)
    rw [tqv_0] at h0
    exact h0
  have key : ∀ k : Nat, ∀ v : Nat, (v : Int) ≤ n → n - v = k → P27 v (moT s0 (tqn a (gMo_corners s0) p0 v)) := by
    intro k
    induction k with
    | zero =>
      intro v h2 h3
      have e : v = n.toNat := by omega
      subst e
      apply h27
      exact ⟨⟨by omega, by omega⟩, ⟨by omega, by omega⟩, fun _ => h, fun q => by omega⟩
    | succ k ih =>
      intro v h2 h3
      have h4 := ih (v + 1) (by omega) (by omega)
      apply h27
      refine ⟨⟨by omega, by omega⟩, ⟨by omega, by omega⟩, fun q => by omega, fun _ => ?_⟩
      exact quarter _ _ h4
  have h0 := key n.toNat 0 (by omega) (by omega)
  have e0 : moT s0 (tqn a (gMo_corners s0) p0 0) = (mkMo (0) (gMo_corners s0) (gMo_px s0) (gMo_py s0) (gMo_pz s0) (gMo_triangles s0) (gMo_named s0) (gMo_joined s0) (gMo_dropped s0) (gMo_closed s0) (gMo_layers s0) (gMo_thickness s0) (gMo_cuts s0) (gMo_cx s0) (gMo_cy s0) (gMo_cz s0) (gMo_solids s0) (gMo_shell s0) (gMo_skin s0) (gMo_period s0) (gMo_reach s0) (gMo_gap s0) (gMo_bytes s0) (gMo_played s0) (gMo_at s0) (gMo_program s0) (gMo_beads s0) (gMo_ring s0)) := by rw [← hp0]; rfl
  rw [e0] at h0
  clear quarter key h27 h35 h101 h132 e0 hp0 h
  simp only [wp_Mo_in]
  repeat' first | (exact h0) | (intro _) | (refine And.intro ?_ ?_) | omega | (exfalso; omega)
theorem m_Mo_turn0 {a n : Int} {s0 : s_Mo} {Q : Int → s_Mo → Prop} (ra : rg a) (rn : rg n) (g : ¬ ((0 ≤ a ∧ a ≤ 2) ∧ (0 ≤ n ∧ n ≤ 3))) (h : Q 0 (mkMo (0) (gMo_corners s0) (gMo_px s0) (gMo_py s0) (gMo_pz s0) (gMo_triangles s0) (gMo_named s0) (gMo_joined s0) (gMo_dropped s0) (gMo_closed s0) (gMo_layers s0) (gMo_thickness s0) (gMo_cuts s0) (gMo_cx s0) (gMo_cy s0) (gMo_cz s0) (gMo_solids s0) (gMo_shell s0) (gMo_skin s0) (gMo_period s0) (gMo_reach s0) (gMo_gap s0) (gMo_bytes s0) (gMo_played s0) (gMo_at s0) (gMo_program s0) (gMo_beads s0) (gMo_ring s0))) : wp_Mo_turn a n s0 Q := by
  unfold wp_Mo_turn
  intro P27 P35 P101 P132 h27 h35 h101 h132
  clear h27 h35 h101 h132
  simp only [wp_Mo_in]
  repeat' first | (exact h) | (intro _) | (refine And.intro ?_ ?_) | omega | (exfalso; omega)
theorem t_turn {a1 a2 : Int} (r1 : rg a1) (r2 : rg a2) {sx : s_LS} {sm : s_Mo} (hi : Inv sx sm) : wp_LS_turn a1 a2 sx (fun r1 u2 => wp_Mo_turn a1 a2 sm (fun r3 u4 => r1 = r3 ∧ Inv u2 u4)) := by
  have hI := hi
  obtain ⟨⟨e1, hc, ht, hp, hn⟩, h2, h3, h4, h5⟩ := hi
  by_cases g : (0 ≤ a1 ∧ a1 ≤ 2) ∧ (0 ≤ a2 ∧ a2 ≤ 3)
  · refine m_LS_turn (p := (gMo_px sm, gMo_py sm, gMo_pz sm)) g.1 g.2 hc e1 ?_
    refine m_Mo_turn g.1 g.2 hc ⟨rfl, ⟨rfl, hc, ht, tqn_ok (p := (gMo_px sm, gMo_py sm, gMo_pz sm)) hp _, hn⟩, h2, h3, h4, h5⟩
  · exact m_LS_turn0 r1 r2 g (m_Mo_turn0 r1 r2 g ⟨rfl, hI⟩)
