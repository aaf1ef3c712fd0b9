/-! ===== MEANING 12: play ===== -/
/-- a bead on each of k cells from b on -/
def layN (be : Int → Int) (b : Int) : Nat → Int → Int
  | 0 => be
  | k + 1 => iset (layN be b k) (b + k) (layN be b k (b + k) + 1)
/-- n commands at the most, of which v are done; k: a bound on those that are left -/
def plr (pr : Int → Int) (ln n : Int) : Nat → Int → Int → Int → (Int → Int) → Int × Int × Int × (Int → Int)
  | 0, v, pl, at_, be => (v, pl, at_, be)
  | k + 1, v, pl, at_, be => if n ≤ v ∨ ln ≤ pl then (v, pl, at_, be) else if pr pl = 200 then plr pr ln n k (v + 1) (pl + 1) (at_ + 1) be else plr pr ln n k (v + 1) (pl + 5) at_ (layN be (144 * at_ + 12 * pr (pl + 2) + pr (pl + 1)) (pr (pl + 4)).toNat)
theorem m_layRun {x y cn ln pl at_ : Int} {pr be : Int → Int} {Q : s_Pr → Prop} (hx : 0 ≤ x ∧ 0 ≤ cn ∧ x + cn ≤ 12) (hy : 0 ≤ y ∧ y < 12) (ha : 0 ≤ at_ ∧ at_ < 24) (h : Q (mkPr pr ln (layN be (144 * at_ + 12 * y + x) cn.toNat) pl at_)) : wp_Pr_layRun x y cn (mkPr pr ln be pl at_) Q := by
  unfold wp_Pr_layRun
  intro P hP
  simp only [wp_LS_cellIndex] at hP
  have key : ∀ k : Nat, ∀ v : Nat, (v : Int) ≤ cn → cn - v = k → P v (mkPr pr ln (layN be (144 * at_ + 12 * y + x) v) pl at_) := by
    intro k
    induction k with
    | zero =>
      intro v h2 h3
      have e : v = cn.toNat := by omega
      subst e
      apply hP
      exact ⟨⟨by omega, by omega⟩, ⟨by omega, by omega⟩, fun _ => h, fun q => by omega⟩
    | succ k ih =>
      intro v h2 h3
      have h4 := ih (v + 1) (by omega) (by omega)
      apply hP
      dsimp only [gMe_x, gMe_y, gMe_z, gMe_corners, gMe_named, gMe_triangles, mkMe, gMn_joined, gMn_dropped, gMn_closed, gMn_lowestHere, gMn_counted, gMn_balance, gMn_openFrom, gMn_hole, mkMn, gSl_count, gSl_ends, gSl_thickness, gSl_mesh, gSl_solidRows, mkSl, gSo_rowsOfKind0, gSo_rowsOfKind1, gSo_rowsOfKind2, gSo_rowsOfKind3, gSo_rowsOfKind4, gSo_rowsOfKind5, gSo_rowsOfKind6, gSo_hanging, gSo_shell, gSo_skin, gSo_period, gSo_reach, gSo_gap, mkSo, gRo_runs, mkRo, gPr_program, gPr_length, gPr_beads, gPr_at, gPr_layer, mkPr, gLS_mesh, gLS_mender, gLS_slices, gLS_sorter, gLS_router, gLS_printer, mkLS, gMo_thrown, gMo_corners, gMo_px, gMo_py, gMo_pz, gMo_triangles, gMo_named, gMo_joined, gMo_dropped, gMo_closed, gMo_layers, gMo_thickness, gMo_cuts, gMo_cx, gMo_cy, gMo_cz, gMo_solids, gMo_shell, gMo_skin, gMo_period, gMo_reach, gMo_gap, gMo_bytes, gMo_played, gMo_at, gMo_program, gMo_beads, gMo_ring, mkMo] at h4 ⊢
      refine ⟨⟨by omega, by omega⟩, ⟨by omega, by omega⟩, fun q => by omega, fun _ => ⟨⟨by omega, by omega⟩, ?_⟩⟩
      have e : (at_ * 12 + y) * 12 + (x + (v : Int)) = 144 * at_ + 12 * y + x + v := by omega
      rw [e]
      exact h4
  exact key cn.toNat 0 (by omega) (by omega)
theorem m_play {n ln : Int} {pr : Int → Int} {P : Int → s_Pr → Prop} {Q : Int → s_Pr → Prop} (rn : rg n) (hl : ln ≤ 17304)
    (hP : ∀ (v2 : Int) (s0 : s_Pr), (rg v2 ∧ rg n ∧ ((n ≤ v2 → (Q v2 s0)) ∧ (v2 < n → (rg (gPr_at s0) ∧ rg (gPr_length s0) ∧ (((gPr_length s0) ≤ (gPr_at s0) → (Q v2 s0)) ∧ ((gPr_at s0) < (gPr_length s0) → ((0 ≤ (gPr_at s0) ∧ (gPr_at s0) < 17304) ∧ (rg ((gPr_program s0) (gPr_at s0)) ∧ ((((gPr_program s0) (gPr_at s0)) ≠ 200 → ((0 ≤ ((gPr_at s0) + 1) ∧ ((gPr_at s0) + 1) < 17304) ∧ ((0 ≤ ((gPr_at s0) + 2) ∧ ((gPr_at s0) + 2) < 17304) ∧ ((0 ≤ ((gPr_at s0) + 4) ∧ ((gPr_at s0) + 4) < 17304) ∧ (wp_Pr_layRun ((gPr_program s0) ((gPr_at s0) + 1)) ((gPr_program s0) ((gPr_at s0) + 2)) ((gPr_program s0) ((gPr_at s0) + 4)) s0 (fun u10 => P (v2 + 1) (mkPr (gPr_program u10) (gPr_length u10) (gPr_beads u10) ((gPr_at u10) + 5) (gPr_layer u10)))))))) ∧ (((gPr_program s0) (gPr_at s0)) = 200 → (P (v2 + 1) (mkPr (gPr_program s0) (gPr_length s0) (gPr_beads s0) ((gPr_at s0) + 1) ((gPr_layer s0) + 1))))))))))))) → P v2 s0) :
    ∀ (k : Nat) (v pl at_ : Int) (be : Int → Int), okp pr ln k pl at_ → 0 ≤ v → v ≤ pl → pl ≤ ln → Q (plr pr ln n k v pl at_ be).1 (mkPr pr ln (plr pr ln n k v pl at_ be).2.2.2 (plr pr ln n k v pl at_ be).2.1 (plr pr ln n k v pl at_ be).2.2.1) → P v (mkPr pr ln be pl at_) := by
  intro k
  induction k with
  | zero =>
    intro v pl at_ be hk h0 h1 h2 hq
    have hk : pl = ln := hk
    apply hP
    dsimp only [gMe_x, gMe_y, gMe_z, gMe_corners, gMe_named, gMe_triangles, mkMe, gMn_joined, gMn_dropped, gMn_closed, gMn_lowestHere, gMn_counted, gMn_balance, gMn_openFrom, gMn_hole, mkMn, gSl_count, gSl_ends, gSl_thickness, gSl_mesh, gSl_solidRows, mkSl, gSo_rowsOfKind0, gSo_rowsOfKind1, gSo_rowsOfKind2, gSo_rowsOfKind3, gSo_rowsOfKind4, gSo_rowsOfKind5, gSo_rowsOfKind6, gSo_hanging, gSo_shell, gSo_skin, gSo_period, gSo_reach, gSo_gap, mkSo, gRo_runs, mkRo, gPr_program, gPr_length, gPr_beads, gPr_at, gPr_layer, mkPr, gLS_mesh, gLS_mender, gLS_slices, gLS_sorter, gLS_router, gLS_printer, mkLS, gMo_thrown, gMo_corners, gMo_px, gMo_py, gMo_pz, gMo_triangles, gMo_named, gMo_joined, gMo_dropped, gMo_closed, gMo_layers, gMo_thickness, gMo_cuts, gMo_cx, gMo_cy, gMo_cz, gMo_solids, gMo_shell, gMo_skin, gMo_period, gMo_reach, gMo_gap, gMo_bytes, gMo_played, gMo_at, gMo_program, gMo_beads, gMo_ring, mkMo]
    exact ⟨⟨by omega, by omega⟩, rn, fun _ => hq, fun _ => ⟨⟨by omega, by omega⟩, ⟨by omega, by omega⟩, fun _ => hq, fun q => by omega⟩⟩
  | succ k ih =>
    intro v pl at_ be hk h0 h1 h2 hq
    unfold plr at hq
    apply hP
    dsimp only [gMe_x, gMe_y, gMe_z, gMe_corners, gMe_named, gMe_triangles, mkMe, gMn_joined, gMn_dropped, gMn_closed, gMn_lowestHere, gMn_counted, gMn_balance, gMn_openFrom, gMn_hole, mkMn, gSl_count, gSl_ends, gSl_thickness, gSl_mesh, gSl_solidRows, mkSl, gSo_rowsOfKind0, gSo_rowsOfKind1, gSo_rowsOfKind2, gSo_rowsOfKind3, gSo_rowsOfKind4, gSo_rowsOfKind5, gSo_rowsOfKind6, gSo_hanging, gSo_shell, gSo_skin, gSo_period, gSo_reach, gSo_gap, mkSo, gRo_runs, mkRo, gPr_program, gPr_length, gPr_beads, gPr_at, gPr_layer, mkPr, gLS_mesh, gLS_mender, gLS_slices, gLS_sorter, gLS_router, gLS_printer, mkLS, gMo_thrown, gMo_corners, gMo_px, gMo_py, gMo_pz, gMo_triangles, gMo_named, gMo_joined, gMo_dropped, gMo_closed, gMo_layers, gMo_thickness, gMo_cuts, gMo_cx, gMo_cy, gMo_cz, gMo_solids, gMo_shell, gMo_skin, gMo_period, gMo_reach, gMo_gap, gMo_bytes, gMo_played, gMo_at, gMo_program, gMo_beads, gMo_ring, mkMo] at hq ⊢
    by_cases hn : n ≤ v ∨ ln ≤ pl
    · rw [if_pos hn] at hq
      exact ⟨⟨by omega, by omega⟩, rn, fun _ => hq, fun _ => ⟨⟨by omega, by omega⟩, ⟨by omega, by omega⟩, fun _ => hq, fun q => by omega⟩⟩
    · rw [if_neg hn] at hq
      have hk : pl = ln ∨ (pl < ln ∧ ((pr pl = 200 ∧ -1 ≤ at_ ∧ at_ < 23 ∧ okp pr ln k (pl + 1) (at_ + 1)) ∨ (pr pl = 201 ∧ pl + 5 ≤ ln ∧ (0 ≤ at_ ∧ at_ < 24) ∧ (0 ≤ pr (pl + 1) ∧ 0 ≤ pr (pl + 4) ∧ pr (pl + 1) + pr (pl + 4) ≤ 12) ∧ (0 ≤ pr (pl + 2) ∧ pr (pl + 2) < 12) ∧ okp pr ln k (pl + 5) at_))) := hk
      refine ⟨⟨by omega, by omega⟩, rn, fun q => by omega, fun _ => ⟨⟨by omega, by omega⟩, ⟨by omega, by omega⟩, fun q => by omega, fun _ => ⟨⟨by omega, by omega⟩, ?_⟩⟩⟩
      rcases hk with hk | ⟨-, hk⟩
      · omega
      · rcases hk with ⟨e, a1, a2, hk⟩ | ⟨e, a1, a2, a3, a4, hk⟩
        · rw [if_pos e] at hq
          exact ⟨⟨by omega, by omega⟩, fun q => absurd e q, fun _ => ih (v + 1) (pl + 1) (at_ + 1) be hk (by omega) (by omega) (by omega) hq⟩
        · rw [if_neg (by omega)] at hq
          refine ⟨⟨by omega, by omega⟩, fun q => ⟨⟨by omega, by omega⟩, ⟨by omega, by omega⟩, ⟨by omega, by omega⟩, ?_⟩, fun q => by omega⟩
          exact m_layRun a3 a4 a2 (ih (v + 1) (pl + 5) at_ _ hk (by omega) (by omega) (by omega) hq)
theorem plr_ok {n ln : Int} {pr : Int → Int} : ∀ (k : Nat) (v pl at_ : Int) (be : Int → Int), okp pr ln k pl at_ → 0 ≤ pl → pl ≤ ln → (∃ j, okp pr ln j (plr pr ln n k v pl at_ be).2.1 (plr pr ln n k v pl at_ be).2.2.1) ∧ 0 ≤ (plr pr ln n k v pl at_ be).2.1 ∧ (plr pr ln n k v pl at_ be).2.1 ≤ ln := by
  intro k
  induction k with
  | zero =>
    intro v pl at_ be hk h1 h2
    exact ⟨⟨0, hk⟩, h1, h2⟩
  | succ k ih =>
    intro v pl at_ be hk h1 h2
    unfold plr
    by_cases hn : n ≤ v ∨ ln ≤ pl
    · rw [if_pos hn]
      exact ⟨⟨k + 1, hk⟩, h1, h2⟩
    · rw [if_neg hn]
      have hk : pl = ln ∨ (pl < ln ∧ ((pr pl = 200 ∧ -1 ≤ at_ ∧ at_ < 23 ∧ okp pr ln k (pl + 1) (at_ + 1)) ∨ (pr pl = 201 ∧ pl + 5 ≤ ln ∧ (0 ≤ at_ ∧ at_ < 24) ∧ (0 ≤ pr (pl + 1) ∧ 0 ≤ pr (pl + 4) ∧ pr (pl + 1) + pr (pl + 4) ≤ 12) ∧ (0 ≤ pr (pl + 2) ∧ pr (pl + 2) < 12) ∧ okp pr ln k (pl + 5) at_))) := hk
      rcases hk with hk | ⟨-, hk⟩
      · omega
      · rcases hk with ⟨e, a1, a2, hk⟩ | ⟨e, a1, a2, a3, a4, hk⟩
        · rw [if_pos e]
          exact ih _ _ _ _ hk (by omega) (by omega)
        · rw [if_neg (by omega)]
          exact ih _ _ _ _ hk (by omega) (by omega)
def moP (s : s_Mo) (pl at_ : Int) (be : Int → Int) : s_Mo := (mkMo (0) (gMo_corners s) (gMo_px s) (gMo_py s) (gMo_pz s) (gMo_triangles s) (gMo_named s) (gMo_joined s) (gMo_dropped s) (gMo_closed s) (gMo_layers s) (gMo_thickness s) (gMo_cuts s) (gMo_cx s) (gMo_cy s) (gMo_cz s) (gMo_solids s) (gMo_shell s) (gMo_skin s) (gMo_period s) (gMo_reach s) (gMo_gap s) (gMo_bytes s) (pl) (at_) (gMo_program s) (be) (gMo_ring s))
theorem m_Mo_play {n : Int} {s0 : s_Mo} {Q : Int → s_Mo → Prop} (rn : rg n) (hl : 0 ≤ gMo_played s0 ∧ gMo_played s0 ≤ gMo_bytes s0 ∧ gMo_bytes s0 ≤ 17304) {k : Nat} (hk : okp (gMo_program s0) (gMo_bytes s0) k (gMo_played s0) (gMo_at s0))
    (h : Q (plr (gMo_program s0) (gMo_bytes s0) n k 0 (gMo_played s0) (gMo_at s0) (gMo_beads s0)).1 (moP s0 (plr (gMo_program s0) (gMo_bytes s0) n k 0 (gMo_played s0) (gMo_at s0) (gMo_beads s0)).2.1 (plr (gMo_program s0) (gMo_bytes s0) n k 0 (gMo_played s0) (gMo_at s0) (gMo_beads s0)).2.2.1 (plr (gMo_program s0) (gMo_bytes s0) n k 0 (gMo_played s0) (gMo_at s0) (gMo_beads s0)).2.2.2)) : wp_Mo_play n s0 Q := by
  unfold wp_Mo_play
  intro P7 P63 h7 h63
  generalize hpr : gMo_program s0 = pr at *
  generalize hln : gMo_bytes s0 = ln at *
  have lay : ∀ (v pl at_ : Int) (be : Int → Int), (0 ≤ pl ∧ pl + 5 ≤ ln) → (0 ≤ at_ ∧ at_ < 24) → (0 ≤ pr (pl + 1) ∧ 0 ≤ pr (pl + 4) ∧ pr (pl + 1) + pr (pl + 4) ≤ 12) → (0 ≤ pr (pl + 2) ∧ pr (pl + 2) < 12) → P7 (v + 1) (moP s0 (pl + 5) at_ (layN be (144 * at_ + 12 * pr (pl + 2) + pr (pl + 1)) (pr (pl + 4)).toNat)) → P63 v 0 (moP s0 pl at_ be) := by
    intro v pl at_ be g0 g1 g2 g3 hn
    have key : ∀ j : Nat, ∀ w : Nat, (w : Int) ≤ pr (pl + 4) → pr (pl + 4) - w = j → P63 v w (moP s0 pl at_ (layN be (144 * at_ + 12 * pr (pl + 2) + pr (pl + 1)) w)) := by
      intro j
      induction j with
      | zero =>
        intro w h2 h3
        have e : w = (pr (pl + 4)).toNat := by omega
        apply h63
        unfold moP at hn ⊢
        dsimp only [gMe_x, gMe_y, gMe_z, gMe_corners, gMe_named, gMe_triangles, mkMe, gMn_joined, gMn_dropped, gMn_closed, gMn_lowestHere, gMn_counted, gMn_balance, gMn_openFrom, gMn_hole, mkMn, gSl_count, gSl_ends, gSl_thickness, gSl_mesh, gSl_solidRows, mkSl, gSo_rowsOfKind0, gSo_rowsOfKind1, gSo_rowsOfKind2, gSo_rowsOfKind3, gSo_rowsOfKind4, gSo_rowsOfKind5, gSo_rowsOfKind6, gSo_hanging, gSo_shell, gSo_skin, gSo_period, gSo_reach, gSo_gap, mkSo, gRo_runs, mkRo, gPr_program, gPr_length, gPr_beads, gPr_at, gPr_layer, mkPr, gLS_mesh, gLS_mender, gLS_slices, gLS_sorter, gLS_router, gLS_printer, mkLS, gMo_thrown, gMo_corners, gMo_px, gMo_py, gMo_pz, gMo_triangles, gMo_named, gMo_joined, gMo_dropped, gMo_closed, gMo_layers, gMo_thickness, gMo_cuts, gMo_cx, gMo_cy, gMo_cz, gMo_solids, gMo_shell, gMo_skin, gMo_period, gMo_reach, gMo_gap, gMo_bytes, gMo_played, gMo_at, gMo_program, gMo_beads, gMo_ring, mkMo] at hn hpr hln ⊢
        rw [hpr]
        refine ⟨⟨by omega, by omega⟩, ⟨by omega, by omega⟩, ⟨by omega, by omega⟩, fun _ => ?_, fun q => by omega⟩
        rw [hpr] at hn
        rw [e]
        exact hn
      | succ j ih =>
        intro w h2 h3
        have h4 := ih (w + 1) (by omega) (by omega)
        apply h63
        unfold moP at h4 ⊢
        dsimp only [gMe_x, gMe_y, gMe_z, gMe_corners, gMe_named, gMe_triangles, mkMe, gMn_joined, gMn_dropped, gMn_closed, gMn_lowestHere, gMn_counted, gMn_balance, gMn_openFrom, gMn_hole, mkMn, gSl_count, gSl_ends, gSl_thickness, gSl_mesh, gSl_solidRows, mkSl, gSo_rowsOfKind0, gSo_rowsOfKind1, gSo_rowsOfKind2, gSo_rowsOfKind3, gSo_rowsOfKind4, gSo_rowsOfKind5, gSo_rowsOfKind6, gSo_hanging, gSo_shell, gSo_skin, gSo_period, gSo_reach, gSo_gap, mkSo, gRo_runs, mkRo, gPr_program, gPr_length, gPr_beads, gPr_at, gPr_layer, mkPr, gLS_mesh, gLS_mender, gLS_slices, gLS_sorter, gLS_router, gLS_printer, mkLS, gMo_thrown, gMo_corners, gMo_px, gMo_py, gMo_pz, gMo_triangles, gMo_named, gMo_joined, gMo_dropped, gMo_closed, gMo_layers, gMo_thickness, gMo_cuts, gMo_cx, gMo_cy, gMo_cz, gMo_solids, gMo_shell, gMo_skin, gMo_period, gMo_reach, gMo_gap, gMo_bytes, gMo_played, gMo_at, gMo_program, gMo_beads, gMo_ring, mkMo] at h4 hpr hln ⊢
        rw [hpr] at h4 ⊢
        refine ⟨⟨by omega, by omega⟩, ⟨by omega, by omega⟩, ⟨by omega, by omega⟩, fun q => by omega, fun _ => ⟨⟨by omega, by omega⟩, ⟨by omega, by omega⟩, ⟨by omega, by omega⟩, ?_⟩⟩
        exact h4
    exact key (pr (pl + 4)).toNat 0 (by omega) (by omega)
  have key : ∀ (k : Nat) (v pl at_ : Int) (be : Int → Int), okp pr ln k pl at_ → 0 ≤ v → v ≤ pl → pl ≤ ln → Q (plr pr ln n k v pl at_ be).1 (moP s0 (plr pr ln n k v pl at_ be).2.1 (plr pr ln n k v pl at_ be).2.2.1 (plr pr ln n k v pl at_ be).2.2.2) → P7 v (moP s0 pl at_ be) := by
    intro k
    induction k with
    | zero =>
      intro v pl at_ be hk h0 h1 h2 hq
      have hk : pl = ln := hk
      unfold plr at hq
      have hb : gMo_bytes (moP s0 pl at_ be) = ln := hln
      have hp3 : gMo_played (moP s0 pl at_ be) = pl := rfl
      apply h7
      rw [hb, hp3]
      exact ⟨⟨by omega, by omega⟩, rn, fun _ => hq, fun _ => ⟨⟨by omega, by omega⟩, ⟨by omega, by omega⟩, fun _ => hq, fun q => by omega⟩⟩
    | succ k ih =>
      intro v pl at_ be hk h0 h1 h2 hq
      have hk : pl = ln ∨ (pl < ln ∧ ((pr pl = 200 ∧ -1 ≤ at_ ∧ at_ < 23 ∧ okp pr ln k (pl + 1) (at_ + 1)) ∨ (pr pl = 201 ∧ pl + 5 ≤ ln ∧ (0 ≤ at_ ∧ at_ < 24) ∧ (0 ≤ pr (pl + 1) ∧ 0 ≤ pr (pl + 4) ∧ pr (pl + 1) + pr (pl + 4) ≤ 12) ∧ (0 ≤ pr (pl + 2) ∧ pr (pl + 2) < 12) ∧ okp pr ln k (pl + 5) at_))) := hk
      unfold plr at hq
      have hb : gMo_bytes (moP s0 pl at_ be) = ln := hln
      have hp2 : gMo_program (moP s0 pl at_ be) = pr := hpr
      have hp3 : gMo_played (moP s0 pl at_ be) = pl := rfl
      apply h7
      rw [hb, hp2, hp3]
      by_cases hn : n ≤ v ∨ ln ≤ pl
      · rw [if_pos hn] at hq
        exact ⟨⟨by omega, by omega⟩, rn, fun _ => hq, fun _ => ⟨⟨by omega, by omega⟩, ⟨by omega, by omega⟩, fun _ => hq, fun q => by omega⟩⟩
      · rw [if_neg hn] at hq
        refine ⟨⟨by omega, by omega⟩, rn, fun q => by omega, fun _ => ⟨⟨by omega, by omega⟩, ⟨by omega, by omega⟩, fun q => by omega, fun _ => ⟨⟨by omega, by omega⟩, ?_⟩⟩⟩
        rcases hk with hk | ⟨-, hk⟩
        · omega
        · rcases hk with ⟨e, a1, a2, hk⟩ | ⟨e, a1, a2, a3, a4, hk⟩
          · rw [if_pos e] at hq
            have h9 := ih (v + 1) (pl + 1) (at_ + 1) be hk (by omega) (by omega) (by omega) hq
            refine ⟨⟨by omega, by omega⟩, fun q => absurd e q, fun _ => ?_⟩
            rw [← hpr, ← hln]
            exact h9
          · rw [if_neg (by omega)] at hq
            exact ⟨⟨by omega, by omega⟩, fun q => lay v pl at_ be ⟨by omega, a1⟩ a2 a3 a4 (ih (v + 1) (pl + 5) at_ _ hk (by omega) (by omega) (by omega) hq), fun q => by omega⟩
  have h0 := key k 0 (gMo_played s0) (gMo_at s0) (gMo_beads s0) hk (by omega) (by omega) (by omega) h
  rw [← hpr, ← hln]
  exact h0
theorem t_play {a1 : Int} (r1 : rg a1) {sx : s_LS} {sm : s_Mo} (hi : Inv sx sm) : wp_LS_play a1 sx (fun r1 u2 => wp_Mo_play a1 sm (fun r3 u4 => r1 = r3 ∧ Inv u2 u4)) := by
  obtain ⟨h1, h2, h3, h4, ⟨e1, hl, k, hk⟩⟩ := hi
  unfold wp_LS_play wp_Pr_playCommands
  intro P hP
  rw [e1]
  obtain ⟨o1, o2, o3⟩ := plr_ok (n := a1) k 0 (gMo_played sm) (gMo_at sm) (gMo_beads sm) hk hl.1 hl.2.1
  refine m_play r1 hl.2.2 hP k 0 (gMo_played sm) (gMo_at sm) (gMo_beads sm) hk (by omega) (by omega) hl.2.1 ?_
  exact m_Mo_play r1 hl hk ⟨rfl, h1, h2, h3, h4, rfl, ⟨o2, o3, hl.2.2⟩, o1⟩
