/-! ===== MEANING 10: the relation, and what is plain ===== -/
/-- the mesh -/
def RMe (s : s_Me) (px py pz nm : Int → Int) (nc nt : Int) : Prop :=
  s = mkMe px py pz nc nm nt ∧ (0 ≤ nc ∧ nc ≤ 80) ∧ (0 ≤ nt ∧ nt ≤ 120) ∧ (∀ i : Int, (0 ≤ px i ∧ px i ≤ 120) ∧ (0 ≤ py i ∧ py i ≤ 120) ∧ (0 ≤ pz i ∧ pz i ≤ 120)) ∧ (∀ i : Int, 0 ≤ i → i < 3 * nt → 0 ≤ nm i ∧ nm i < nc)
/-- the counts of mending -/
def RMn (s : s_Mn) (jn dr cl : Int) : Prop := gMn_joined s = jn ∧ gMn_dropped s = dr ∧ gMn_closed s = cl
/-- the layers -/
def RSl (s : s_Sl) (ly th cu : Int) (cx cy cz so : Int → Int) : Prop :=
  gSl_count s = ly ∧ gSl_thickness s = th ∧ (0 ≤ ly ∧ ly ≤ 24) ∧ (0 < ly → 1 ≤ th ∧ th ≤ 41 ∧ th % 2 = 1) ∧ gMe_triangles (gSl_mesh s) = cu ∧ (0 ≤ cu ∧ cu ≤ 120) ∧
  (∀ i : Int, (0 ≤ gMe_x (gSl_mesh s) i ∧ gMe_x (gSl_mesh s) i ≤ 120) ∧ (0 ≤ gMe_y (gSl_mesh s) i ∧ gMe_y (gSl_mesh s) i ≤ 120) ∧ (0 ≤ gMe_z (gSl_mesh s) i ∧ gMe_z (gSl_mesh s) i ≤ 120)) ∧
  (∀ i : Int, 0 ≤ i → i < 3 * cu → (0 ≤ gMe_named (gSl_mesh s) i ∧ gMe_named (gSl_mesh s) i < 80) ∧ cx i = gMe_x (gSl_mesh s) (gMe_named (gSl_mesh s) i) ∧ cy i = gMe_y (gSl_mesh s) (gMe_named (gSl_mesh s) i) ∧ cz i = gMe_z (gSl_mesh s) (gMe_named (gSl_mesh s) i)) ∧
  (∀ l y : Int, 0 ≤ l → l < ly → 0 ≤ y → y < 12 → row (gSl_solidRows s (l * 12 + y)) ∧ ∀ x : Nat, x < 12 → so (144 * l + 12 * y + x) = b01 (bt (gSl_solidRows s (l * 12 + y)) x))
/-- solid cells -/
def sol (ly : Int) (so : Int → Int) (l x y : Int) : Bool := decide (0 ≤ l ∧ l < ly ∧ 0 ≤ x ∧ x < 12 ∧ 0 ≤ y ∧ y < 12) && decide (so (144 * l + 12 * y + x) = 1)
/-- the settings, and the cells by kind -/
def RSo (s : s_So) (ly : Int) (so : Int → Int) (sh sk pe re ga : Int) : Prop :=
  gSo_shell s = sh ∧ gSo_skin s = sk ∧ gSo_period s = pe ∧ gSo_reach s = re ∧ gSo_gap s = ga ∧ (0 ≤ sh ∧ sh ≤ 3) ∧ (0 ≤ sk ∧ sk ≤ 3) ∧ (0 ≤ pe ∧ pe ≤ 6) ∧ (0 ≤ re ∧ re ≤ 3) ∧ (0 ≤ ga ∧ ga ≤ 2) ∧
  (∀ k l y : Int, 0 ≤ k → k < 7 → 0 ≤ l → l < ly → 0 ≤ y → y < 12 → row (rSo_rowsOfKind s k (l * 12 + y)) ∧ ∀ x : Nat, x < 12 → bt (rSo_rowsOfKind s k (l * 12 + y)) x = decide (kd (sol ly so) ly sh.toNat sk.toNat pe re.toNat ga.toNat l x y = k)) ∧
  (∀ l y : Int, 0 ≤ l → l < ly → 0 ≤ y → y < 12 → row (gSo_hanging s (l * 12 + y)) ∧ ∀ x : Nat, x < 12 → bt (gSo_hanging s (l * 12 + y)) x = hgs (sol ly so) re.toNat l x y)
/-- what is left of a program can be played -/
def okp (pr : Int → Int) (ln : Int) : Nat → Int → Int → Prop
  | 0, pl, _ => pl = ln
  | k + 1, pl, at_ => pl = ln ∨ (pl < ln ∧ ((pr pl = 200 ∧ -1 ≤ at_ ∧ at_ < 23 ∧ okp pr ln k (pl + 1) (at_ + 1)) ∨ (pr pl = 201 ∧ pl + 5 ≤ ln ∧ (0 ≤ at_ ∧ at_ < 24) ∧ (0 ≤ pr (pl + 1) ∧ 0 ≤ pr (pl + 4) ∧ pr (pl + 1) + pr (pl + 4) ≤ 12) ∧ (0 ≤ pr (pl + 2) ∧ pr (pl + 2) < 12) ∧ okp pr ln k (pl + 5) at_)))
/-- program and player -/
def RPr (s : s_Pr) (ln pl at_ : Int) (pr be : Int → Int) : Prop :=
  s = mkPr pr ln be pl at_ ∧ (0 ≤ pl ∧ pl ≤ ln ∧ ln ≤ 17304) ∧ ∃ k : Nat, okp pr ln k pl at_
def Inv (sx : s_LS) (sm : s_Mo) : Prop :=
  RMe (gLS_mesh sx) (gMo_px sm) (gMo_py sm) (gMo_pz sm) (gMo_named sm) (gMo_corners sm) (gMo_triangles sm) ∧
  RMn (gLS_mender sx) (gMo_joined sm) (gMo_dropped sm) (gMo_closed sm) ∧
  RSl (gLS_slices sx) (gMo_layers sm) (gMo_thickness sm) (gMo_cuts sm) (gMo_cx sm) (gMo_cy sm) (gMo_cz sm) (gMo_solids sm) ∧
  RSo (gLS_sorter sx) (gMo_layers sm) (gMo_solids sm) (gMo_shell sm) (gMo_skin sm) (gMo_period sm) (gMo_reach sm) (gMo_gap sm) ∧
  RPr (gLS_printer sx) (gMo_bytes sm) (gMo_played sm) (gMo_at sm) (gMo_program sm) (gMo_beads sm)
theorem Inv_0 : Inv init_LS init_Mo := by
  refine ⟨⟨rfl, by decide, by decide, fun i => ⟨⟨Int.le_refl _, by show (0 : Int) ≤ 120; omega⟩, ⟨Int.le_refl _, by show (0 : Int) ≤ 120; omega⟩, ⟨Int.le_refl _, by show (0 : Int) ≤ 120; omega⟩⟩, fun i h1 h2 => ?_⟩, ⟨rfl, rfl, rfl⟩, ⟨rfl, rfl, by decide, fun h => absurd h (by decide), rfl, by decide, fun i => ⟨⟨Int.le_refl _, by show (0 : Int) ≤ 120; omega⟩, ⟨Int.le_refl _, by show (0 : Int) ≤ 120; omega⟩, ⟨Int.le_refl _, by show (0 : Int) ≤ 120; omega⟩⟩, fun i h1 h2 => ?_, fun l y h1 h2 => ?_⟩, ⟨rfl, rfl, rfl, rfl, rfl, by decide, by decide, by decide, by decide, by decide, fun k l y h1 h2 h3 h4 => ?_, fun l y h1 h2 => ?_⟩, ⟨rfl, by decide, 0, rfl⟩⟩
  · have h2 : i < 3 * 0 := h2
    omega
  · have h2 : i < 3 * 0 := h2
    omega
  · have h2 : l < 0 := h2
    omega
  · have h4 : l < 0 := h4
    omega
  · have h2 : l < 0 := h2
    omega
-- in: both ways
theorem m_in1 {v lo hi : Int} {Q : Int → Prop} (rv : rg v) (rl : rg lo) (rh : rg hi) (h1 : lo ≤ v) (h2 : v ≤ hi) (h : Q 1) : wp_Mo_in v lo hi Q := ⟨rv, rl, fun q => by omega, fun _ => ⟨rh, fun q => by omega, fun _ => h⟩⟩
theorem m_in0 {v lo hi : Int} {Q : Int → Prop} (rv : rg v) (rl : rg lo) (rh : rg hi) (h1 : v < lo ∨ hi < v) (h : Q 0) : wp_Mo_in v lo hi Q := ⟨rv, rl, fun _ => h, fun q => ⟨rh, fun _ => h, fun q2 => by omega⟩⟩
theorem m_in {v lo hi : Int} {Q : Int → Prop} (rv : rg v) (rl : rg lo) (rh : rg hi) (h1 : lo ≤ v → v ≤ hi → Q 1) (h0 : v < lo ∨ hi < v → Q 0) : wp_Mo_in v lo hi Q := ⟨rv, rl, fun q => h0 (Or.inl q), fun q => ⟨rh, fun q2 => h0 (Or.inr q2), fun q2 => h1 q q2⟩⟩
theorem rg01 : rg 0 ∧ rg 1 := ⟨⟨by omega, by omega⟩, ⟨by omega, by omega⟩⟩
/-! corner -/
theorem m_Me_corner1 {a1 a2 a3 : Int} {s0 : s_Me} {Q : Int → s_Me → Prop} (r1 : rg a1) (r2 : rg a2) (r3 : rg a3) (hc : 0 ≤ gMe_corners s0 ∧ gMe_corners s0 < 80) (g1 : 0 ≤ a1 ∧ a1 ≤ 120) (g2 : 0 ≤ a2 ∧ a2 ≤ 120) (g3 : 0 ≤ a3 ∧ a3 ≤ 120) (h : Q (gMe_corners s0 + 1 - 1) (mkMe (iset (gMe_x s0) (gMe_corners s0) a1) (iset (gMe_y s0) (gMe_corners s0) a2) (iset (gMe_z s0) (gMe_corners s0) a3) (gMe_corners s0 + 1) (gMe_named s0) (gMe_triangles s0))) : wp_Me_addCorner a1 a2 a3 s0 Q := by
  unfold wp_Me_addCorner
  simp only [wp_Me_onLattice]
  repeat' first | (exact h) | (intro _) | (refine And.intro ?_ ?_) | omega | (exfalso; omega)
theorem m_Me_corner0 {a1 a2 a3 : Int} {s0 : s_Me} {Q : Int → s_Me → Prop} (r1 : rg a1) (r2 : rg a2) (r3 : rg a3) (hc : 0 ≤ gMe_corners s0 ∧ gMe_corners s0 ≤ 80) (g : gMe_corners s0 = 80 ∨ ¬ (0 ≤ a1 ∧ a1 ≤ 120) ∨ ¬ (0 ≤ a2 ∧ a2 ≤ 120) ∨ ¬ (0 ≤ a3 ∧ a3 ≤ 120)) (h : Q (-1) s0) : wp_Me_addCorner a1 a2 a3 s0 Q := by
  unfold wp_Me_addCorner
  simp only [wp_Me_onLattice]
  repeat' first | (exact h) | (intro _) | (refine And.intro ?_ ?_) | omega | (exfalso; omega)
theorem m_Mo_corner1 {a1 a2 a3 : Int} {s0 : s_Mo} {Q : Int → s_Mo → Prop} (r1 : rg a1) (r2 : rg a2) (r3 : rg a3) (hc : 0 ≤ gMo_corners s0 ∧ gMo_corners s0 < 80) (g1 : 0 ≤ a1 ∧ a1 ≤ 120) (g2 : 0 ≤ a2 ∧ a2 ≤ 120) (g3 : 0 ≤ a3 ∧ a3 ≤ 120) (h : Q (gMo_corners s0 + 1 - 1) (mkMo (0) (gMo_corners s0 + 1) (iset (gMo_px s0) (gMo_corners s0) a1) (iset (gMo_py s0) (gMo_corners s0) a2) (iset (gMo_pz s0) (gMo_corners s0) a3) (gMo_triangles s0) (gMo_named s0) (gMo_joined s0) (gMo_dropped s0) (gMo_closed s0) (gMo_layers s0) (gMo_thickness s0) (gMo_cuts s0) (gMo_cx s0) (gMo_cy s0) (gMo_cz s0) (gMo_solids s0) (gMo_shell s0) (gMo_skin s0) (gMo_period s0) (gMo_reach s0) (gMo_gap s0) (gMo_bytes s0) (gMo_played s0) (gMo_at s0) (gMo_program s0) (gMo_beads s0) (gMo_ring s0))) : wp_Mo_corner a1 a2 a3 s0 Q := by
  unfold wp_Mo_corner
  simp only [wp_Mo_in]
  repeat' first | (exact h) | (intro _) | (refine And.intro ?_ ?_) | omega | (exfalso; omega)
theorem m_Mo_corner0 {a1 a2 a3 : Int} {s0 : s_Mo} {Q : Int → s_Mo → Prop} (r1 : rg a1) (r2 : rg a2) (r3 : rg a3) (hc : 0 ≤ gMo_corners s0 ∧ gMo_corners s0 ≤ 80) (g : gMo_corners s0 = 80 ∨ ¬ (0 ≤ a1 ∧ a1 ≤ 120) ∨ ¬ (0 ≤ a2 ∧ a2 ≤ 120) ∨ ¬ (0 ≤ a3 ∧ a3 ≤ 120)) (h : Q (-1) (mkMo (0) (gMo_corners s0) (gMo_px s0) (gMo_py s0) (gMo_pz s0) (gMo_triangles s0) (gMo_named s0) (gMo_joined s0) (gMo_dropped s0) (gMo_closed s0) (gMo_layers s0) (gMo_thickness s0) (gMo_cuts s0) (gMo_cx s0) (gMo_cy s0) (gMo_cz s0) (gMo_solids s0) (gMo_shell s0) (gMo_skin s0) (gMo_period s0) (gMo_reach s0) (gMo_gap s0) (gMo_bytes s0) (gMo_played s0) (gMo_at s0) (gMo_program s0) (gMo_beads s0) (gMo_ring s0))) : wp_Mo_corner a1 a2 a3 s0 Q := by
  unfold wp_Mo_corner
  simp only [wp_Mo_in]
  repeat' first | (exact h) | (intro _) | (refine And.intro ?_ ?_) | omega | (exfalso; omega)
theorem t_corner {a1 a2 a3 : Int} (r1 : rg a1) (r2 : rg a2) (r3 : rg a3) {sx : s_LS} {sm : s_Mo} (hi : Inv sx sm) : wp_LS_corner a1 a2 a3 sx (fun r1 u2 => wp_Mo_corner a1 a2 a3 sm (fun r3 u4 => r1 = r3 ∧ Inv u2 u4)) := by
  obtain ⟨⟨e1, hc, ht, hp, hn⟩, h2, h3, h4, h5⟩ := hi
  have ec : gMe_corners (gLS_mesh sx) = gMo_corners sm := by rw [e1]
  unfold wp_LS_corner
  by_cases hg : gMo_corners sm ≠ 80 ∧ (0 ≤ a1 ∧ a1 ≤ 120) ∧ (0 ≤ a2 ∧ a2 ≤ 120) ∧ (0 ≤ a3 ∧ a3 ≤ 120)
  · obtain ⟨g0, g1, g2, g3⟩ := hg
    refine m_Me_corner1 r1 r2 r3 ⟨by omega, by omega⟩ g1 g2 g3 ?_
    refine m_Mo_corner1 r1 r2 r3 ⟨by omega, by omega⟩ g1 g2 g3 ⟨by omega, ⟨?_, ⟨by show 0 ≤ gMo_corners sm + 1; omega, by show gMo_corners sm + 1 ≤ 80; omega⟩, ht, fun i => ?_, fun i q1 q2 => ?_⟩, h2, h3, h4, h5⟩
    · show mkMe _ _ _ _ _ _ = _
      rw [e1]
    · have := hp i
      show (0 ≤ iset (gMo_px sm) (gMo_corners sm) a1 i ∧ iset (gMo_px sm) (gMo_corners sm) a1 i ≤ 120) ∧ (0 ≤ iset (gMo_py sm) (gMo_corners sm) a2 i ∧ iset (gMo_py sm) (gMo_corners sm) a2 i ≤ 120) ∧ (0 ≤ iset (gMo_pz sm) (gMo_corners sm) a3 i ∧ iset (gMo_pz sm) (gMo_corners sm) a3 i ≤ 120)
      unfold iset
      split <;> omega
    · have := hn i q1 q2
      show 0 ≤ gMo_named sm i ∧ gMo_named sm i < gMo_corners sm + 1
      omega
  · refine m_Me_corner0 r1 r2 r3 ⟨by omega, by omega⟩ (by omega) ?_
    exact m_Mo_corner0 r1 r2 r3 hc (by omega) ⟨rfl, ⟨e1, hc, ht, hp, hn⟩, h2, h3, h4, h5⟩
/-! tri -/
theorem m_Me_tri1 {a1 a2 a3 : Int} {s0 : s_Me} {Q : Int → s_Me → Prop} (r1 : rg a1) (r2 : rg a2) (r3 : rg a3) (hc : 0 ≤ gMe_corners s0 ∧ gMe_corners s0 ≤ 80) (ht : 0 ≤ gMe_triangles s0 ∧ gMe_triangles s0 < 120) (g1 : 0 ≤ a1 ∧ a1 < gMe_corners s0) (g2 : 0 ≤ a2 ∧ a2 < gMe_corners s0) (g3 : 0 ≤ a3 ∧ a3 < gMe_corners s0) (h : Q (gMe_triangles s0 + 1 - 1) (mkMe (gMe_x s0) (gMe_y s0) (gMe_z s0) (gMe_corners s0) (iset (iset (iset (gMe_named s0) (3 * gMe_triangles s0) a1) (3 * gMe_triangles s0 + 1) a2) (3 * gMe_triangles s0 + 2) a3) (gMe_triangles s0 + 1))) : wp_Me_addTriangle a1 a2 a3 s0 Q := by
  unfold wp_Me_addTriangle
  simp only [wp_Me_hasCorner, wp_Me_name]
  repeat' first | (exact h) | (intro _) | (refine And.intro ?_ ?_) | omega | (exfalso; omega)
theorem m_Me_tri0 {a1 a2 a3 : Int} {s0 : s_Me} {Q : Int → s_Me → Prop} (r1 : rg a1) (r2 : rg a2) (r3 : rg a3) (hc : 0 ≤ gMe_corners s0 ∧ gMe_corners s0 ≤ 80) (ht : 0 ≤ gMe_triangles s0 ∧ gMe_triangles s0 ≤ 120) (g : gMe_triangles s0 = 120 ∨ ¬ (0 ≤ a1 ∧ a1 < gMe_corners s0) ∨ ¬ (0 ≤ a2 ∧ a2 < gMe_corners s0) ∨ ¬ (0 ≤ a3 ∧ a3 < gMe_corners s0)) (h : Q (-1) s0) : wp_Me_addTriangle a1 a2 a3 s0 Q := by
  unfold wp_Me_addTriangle
  simp only [wp_Me_hasCorner, wp_Me_name]
  repeat' first | (exact h) | (intro _) | (refine And.intro ?_ ?_) | omega | (exfalso; omega)
theorem m_Mo_tri1 {a1 a2 a3 : Int} {s0 : s_Mo} {Q : Int → s_Mo → Prop} (r1 : rg a1) (r2 : rg a2) (r3 : rg a3) (hc : 0 ≤ gMo_corners s0 ∧ gMo_corners s0 ≤ 80) (ht : 0 ≤ gMo_triangles s0 ∧ gMo_triangles s0 < 120) (g1 : 0 ≤ a1 ∧ a1 < gMo_corners s0) (g2 : 0 ≤ a2 ∧ a2 < gMo_corners s0) (g3 : 0 ≤ a3 ∧ a3 < gMo_corners s0) (h : Q (gMo_triangles s0 + 1 - 1) (mkMo (0) (gMo_corners s0) (gMo_px s0) (gMo_py s0) (gMo_pz s0) (gMo_triangles s0 + 1) (iset (iset (iset (gMo_named s0) (3 * gMo_triangles s0) a1) (3 * gMo_triangles s0 + 1) a2) (3 * gMo_triangles s0 + 2) a3) (gMo_joined s0) (gMo_dropped s0) (gMo_closed s0) (gMo_layers s0) (gMo_thickness s0) (gMo_cuts s0) (gMo_cx s0) (gMo_cy s0) (gMo_cz s0) (gMo_solids s0) (gMo_shell s0) (gMo_skin s0) (gMo_period s0) (gMo_reach s0) (gMo_gap s0) (gMo_bytes s0) (gMo_played s0) (gMo_at s0) (gMo_program s0) (gMo_beads s0) (gMo_ring s0))) : wp_Mo_tri a1 a2 a3 s0 Q := by
  unfold wp_Mo_tri
  simp only [wp_Mo_in, wp_Mo_add]
  dsimp only [gMe_x, gMe_y, gMe_z, gMe_corners, gMe_named, gMe_triangles, mkMe, gMn_joined, gMn_dropped, gMn_closed, gMn_lowestHere, gMn_counted, gMn_balance, gMn_openFrom, gMn_hole, mkMn, gSl_count, gSl_ends, gSl_thickness, gSl_mesh, gSl_solidRows, mkSl, gSo_rowsOfKind0, gSo_rowsOfKind1, gSo_rowsOfKind2, gSo_rowsOfKind3, gSo_rowsOfKind4, gSo_rowsOfKind5, gSo_rowsOfKind6, gSo_hanging, gSo_shell, gSo_skin, gSo_period, gSo_reach, gSo_gap, mkSo, gRo_runs, mkRo, gPr_program, gPr_length, gPr_beads, gPr_at, gPr_layer, mkPr, gLS_mesh, gLS_mender, gLS_slices, gLS_sorter, gLS_router, gLS_printer, mkLS, gMo_thrown, gMo_corners, gMo_px, gMo_py, gMo_pz, gMo_triangles, gMo_named, gMo_joined, gMo_dropped, gMo_closed, gMo_layers, gMo_thickness, gMo_cuts, gMo_cx, gMo_cy, gMo_cz, gMo_solids, gMo_shell, gMo_skin, gMo_period, gMo_reach, gMo_gap, gMo_bytes, gMo_played, gMo_at, gMo_program, gMo_beads, gMo_ring, mkMo] at *
  repeat' first | (exact h) | (intro _) | (refine And.intro ?_ ?_) | omega | (exfalso; omega)
theorem m_Mo_tri0 {a1 a2 a3 : Int} {s0 : s_Mo} {Q : Int → s_Mo → Prop} (r1 : rg a1) (r2 : rg a2) (r3 : rg a3) (hc : 0 ≤ gMo_corners s0 ∧ gMo_corners s0 ≤ 80) (ht : 0 ≤ gMo_triangles s0 ∧ gMo_triangles s0 ≤ 120) (g : gMo_triangles s0 = 120 ∨ ¬ (0 ≤ a1 ∧ a1 < gMo_corners s0) ∨ ¬ (0 ≤ a2 ∧ a2 < gMo_corners s0) ∨ ¬ (0 ≤ a3 ∧ a3 < gMo_corners s0)) (h : Q (-1) (mkMo (0) (gMo_corners s0) (gMo_px s0) (gMo_py s0) (gMo_pz s0) (gMo_triangles s0) (gMo_named s0) (gMo_joined s0) (gMo_dropped s0) (gMo_closed s0) (gMo_layers s0) (gMo_thickness s0) (gMo_cuts s0) (gMo_cx s0) (gMo_cy s0) (gMo_cz s0) (gMo_solids s0) (gMo_shell s0) (gMo_skin s0) (gMo_period s0) (gMo_reach s0) (gMo_gap s0) (gMo_bytes s0) (gMo_played s0) (gMo_at s0) (gMo_program s0) (gMo_beads s0) (gMo_ring s0))) : wp_Mo_tri a1 a2 a3 s0 Q := by
  unfold wp_Mo_tri
  simp only [wp_Mo_in, wp_Mo_add]
  dsimp only [gMe_x, gMe_y, gMe_z, gMe_corners, gMe_named, gMe_triangles, mkMe, gMn_joined, gMn_dropped, gMn_closed, gMn_lowestHere, gMn_counted, gMn_balance, gMn_openFrom, gMn_hole, mkMn, gSl_count, gSl_ends, gSl_thickness, gSl_mesh, gSl_solidRows, mkSl, gSo_rowsOfKind0, gSo_rowsOfKind1, gSo_rowsOfKind2, gSo_rowsOfKind3, gSo_rowsOfKind4, gSo_rowsOfKind5, gSo_rowsOfKind6, gSo_hanging, gSo_shell, gSo_skin, gSo_period, gSo_reach, gSo_gap, mkSo, gRo_runs, mkRo, gPr_program, gPr_length, gPr_beads, gPr_at, gPr_layer, mkPr, gLS_mesh, gLS_mender, gLS_slices, gLS_sorter, gLS_router, gLS_printer, mkLS, gMo_thrown, gMo_corners, gMo_px, gMo_py, gMo_pz, gMo_triangles, gMo_named, gMo_joined, gMo_dropped, gMo_closed, gMo_layers, gMo_thickness, gMo_cuts, gMo_cx, gMo_cy, gMo_cz, gMo_solids, gMo_shell, gMo_skin, gMo_period, gMo_reach, gMo_gap, gMo_bytes, gMo_played, gMo_at, gMo_program, gMo_beads, gMo_ring, mkMo] at *
  repeat' first | (exact h) | (intro _) | (refine And.intro ?_ ?_) | omega | (exfalso; omega)
theorem nm_add {nm : Int → Int} {nc nt a b c : Int} (hn : ∀ i : Int, 0 ≤ i → i < 3 * nt → 0 ≤ nm i ∧ nm i < nc) (g1 : 0 ≤ a ∧ a < nc) (g2 : 0 ≤ b ∧ b < nc) (g3 : 0 ≤ c ∧ c < nc) : ∀ i : Int, 0 ≤ i → i < 3 * (nt + 1) → 0 ≤ iset (iset (iset nm (3 * nt) a) (3 * nt + 1) b) (3 * nt + 2) c i ∧ iset (iset (iset nm (3 * nt) a) (3 * nt + 1) b) (3 * nt + 2) c i < nc := by
  intro i h1 h2
  unfold iset
  split
  · exact g3
  · split
    · exact g2
    · split
      · exact g1
      · exact hn i h1 (by omega)
theorem t_tri {a1 a2 a3 : Int} (r1 : rg a1) (r2 : rg a2) (r3 : rg a3) {sx : s_LS} {sm : s_Mo} (hi : Inv sx sm) : wp_LS_tri a1 a2 a3 sx (fun r1 u2 => wp_Mo_tri a1 a2 a3 sm (fun r3 u4 => r1 = r3 ∧ Inv u2 u4)) := by
  obtain ⟨⟨e1, hc, ht, hp, hn⟩, h2, h3, h4, h5⟩ := hi
  have ec : gMe_corners (gLS_mesh sx) = gMo_corners sm := by rw [e1]
  have et : gMe_triangles (gLS_mesh sx) = gMo_triangles sm := by rw [e1]
  unfold wp_LS_tri
  by_cases hg : gMo_triangles sm ≠ 120 ∧ (0 ≤ a1 ∧ a1 < gMo_corners sm) ∧ (0 ≤ a2 ∧ a2 < gMo_corners sm) ∧ (0 ≤ a3 ∧ a3 < gMo_corners sm)
  · obtain ⟨g0, g1, g2, g3⟩ := hg
    refine m_Me_tri1 r1 r2 r3 ⟨by omega, by omega⟩ ⟨by omega, by omega⟩ ⟨by omega, by omega⟩ ⟨by omega, by omega⟩ ⟨by omega, by omega⟩ ?_
    refine m_Mo_tri1 r1 r2 r3 hc ⟨by omega, by omega⟩ g1 g2 g3 ⟨by omega, ⟨?_, hc, ⟨by show 0 ≤ gMo_triangles sm + 1; omega, by show gMo_triangles sm + 1 ≤ 120; omega⟩, hp, nm_add hn g1 g2 g3⟩, h2, h3, h4, h5⟩
    show mkMe _ _ _ _ _ _ = _
    rw [e1]
  · refine m_Me_tri0 r1 r2 r3 ⟨by omega, by omega⟩ ⟨by omega, by omega⟩ (by omega) ?_
    exact m_Mo_tri0 r1 r2 r3 hc ht (by omega) ⟨rfl, ⟨e1, hc, ht, hp, hn⟩, h2, h3, h4, h5⟩
/-! mended, triangle, byteOf, laid -/
theorem t_mended {a1 : Int} (r1 : rg a1) {sx : s_LS} {sm : s_Mo} (hi : Inv sx sm) : wp_LS_mended a1 sx (fun r1 => wp_Mo_mended a1 sm (fun r2 u3 => r1 = r2 ∧ Inv sx u3)) := by
  have hI : Inv sx (mkMo (0) (gMo_corners sm) (gMo_px sm) (gMo_py sm) (gMo_pz sm) (gMo_triangles sm) (gMo_named sm) (gMo_joined sm) (gMo_dropped sm) (gMo_closed sm) (gMo_layers sm) (gMo_thickness sm) (gMo_cuts sm) (gMo_cx sm) (gMo_cy sm) (gMo_cz sm) (gMo_solids sm) (gMo_shell sm) (gMo_skin sm) (gMo_period sm) (gMo_reach sm) (gMo_gap sm) (gMo_bytes sm) (gMo_played sm) (gMo_at sm) (gMo_program sm) (gMo_beads sm) (gMo_ring sm)) := hi
  obtain ⟨⟨e1, hc, ht, hp, hn⟩, ⟨j1, j2, j3⟩, -⟩ := hi
  have et : gMe_triangles (gLS_mesh sx) = gMo_triangles sm := by rw [e1]
  unfold wp_LS_mended wp_Mo_mended
  rw [j1, j2, j3, et]
  have q0 := (⟨rfl, hI⟩ : gMo_joined sm = gMo_joined sm ∧ _)
  have q1 := (⟨rfl, hI⟩ : gMo_dropped sm = gMo_dropped sm ∧ _)
  have q2 := (⟨rfl, hI⟩ : gMo_closed sm = gMo_closed sm ∧ _)
  have q3 := (⟨rfl, hI⟩ : gMo_triangles sm = gMo_triangles sm ∧ _)
  have q4 := (⟨rfl, hI⟩ : (-1 : Int) = -1 ∧ _)
  clear hI e1 hp hn
  repeat' first | (exact q0) | (exact q1) | (exact q2) | (exact q3) | (exact q4) | (intro _) | (refine And.intro ?_ ?_) | omega | (exfalso; omega)
theorem t_triangle {a1 a2 : Int} (r1 : rg a1) (r2 : rg a2) {sx : s_LS} {sm : s_Mo} (hi : Inv sx sm) : wp_LS_triangle a1 a2 sx (fun r1 => wp_Mo_triangle a1 a2 sm (fun r2 u3 => r1 = r2 ∧ Inv sx u3)) := by
  have hI : Inv sx (mkMo (0) (gMo_corners sm) (gMo_px sm) (gMo_py sm) (gMo_pz sm) (gMo_triangles sm) (gMo_named sm) (gMo_joined sm) (gMo_dropped sm) (gMo_closed sm) (gMo_layers sm) (gMo_thickness sm) (gMo_cuts sm) (gMo_cx sm) (gMo_cy sm) (gMo_cz sm) (gMo_solids sm) (gMo_shell sm) (gMo_skin sm) (gMo_period sm) (gMo_reach sm) (gMo_gap sm) (gMo_bytes sm) (gMo_played sm) (gMo_at sm) (gMo_program sm) (gMo_beads sm) (gMo_ring sm)) := hi
  obtain ⟨⟨e1, hc, ht, hp, hn⟩, -⟩ := hi
  have et : gMe_triangles (gLS_mesh sx) = gMo_triangles sm := by rw [e1]
  have en : gMe_named (gLS_mesh sx) = gMo_named sm := by rw [e1]
  have m1 : ∀ z : Int, (0 ≤ a1 ∧ a1 < gMo_triangles sm) → (0 ≤ a2 ∧ a2 ≤ 2) → z = gMo_named sm (3 * a1 + a2) → wp_Mo_triangle a1 a2 sm (fun r2 u3 => z = r2 ∧ Inv sx u3) := by
    intro z g1 g2 hz
    generalize hP : (fun (r2 : Int) (u3 : s_Mo) => z = r2 ∧ Inv sx u3) = P
    have hl : P (gMo_named sm (3 * a1 + a2)) (mkMo (0) (gMo_corners sm) (gMo_px sm) (gMo_py sm) (gMo_pz sm) (gMo_triangles sm) (gMo_named sm) (gMo_joined sm) (gMo_dropped sm) (gMo_closed sm) (gMo_layers sm) (gMo_thickness sm) (gMo_cuts sm) (gMo_cx sm) (gMo_cy sm) (gMo_cz sm) (gMo_solids sm) (gMo_shell sm) (gMo_skin sm) (gMo_period sm) (gMo_reach sm) (gMo_gap sm) (gMo_bytes sm) (gMo_played sm) (gMo_at sm) (gMo_program sm) (gMo_beads sm) (gMo_ring sm)) := by rw [← hP]; exact ⟨hz, hI⟩
    clear hI e1 hp hn hP hz
    unfold wp_Mo_triangle
    simp only [wp_Mo_in]
    repeat' first | (exact hl) | (intro _) | (refine And.intro ?_ ?_) | omega | (exfalso; omega)
  have m0 : ¬ ((0 ≤ a1 ∧ a1 < gMo_triangles sm) ∧ (0 ≤ a2 ∧ a2 ≤ 2)) → wp_Mo_triangle a1 a2 sm (fun r2 u3 => -1 = r2 ∧ Inv sx u3) := by
    intro g
    generalize hP : (fun (r2 : Int) (u3 : s_Mo) => -1 = r2 ∧ Inv sx u3) = P
    have hl : P (-1) (mkMo (0) (gMo_corners sm) (gMo_px sm) (gMo_py sm) (gMo_pz sm) (gMo_triangles sm) (gMo_named sm) (gMo_joined sm) (gMo_dropped sm) (gMo_closed sm) (gMo_layers sm) (gMo_thickness sm) (gMo_cuts sm) (gMo_cx sm) (gMo_cy sm) (gMo_cz sm) (gMo_solids sm) (gMo_shell sm) (gMo_skin sm) (gMo_period sm) (gMo_reach sm) (gMo_gap sm) (gMo_bytes sm) (gMo_played sm) (gMo_at sm) (gMo_program sm) (gMo_beads sm) (gMo_ring sm)) := by rw [← hP]; exact ⟨rfl, hI⟩
    clear hI e1 hp hn hP
    unfold wp_Mo_triangle
    simp only [wp_Mo_in]
    repeat' first | (exact hl) | (intro _) | (refine And.intro ?_ ?_) | omega | (exfalso; omega)
  unfold wp_LS_triangle
  rw [et, en]
  refine ⟨r1, fun q => m0 (by omega), fun q => ⟨⟨by omega, by omega⟩, fun q2 => m0 (by omega), fun q2 => ⟨r2, fun q3 => m0 (by omega), fun q3 => ⟨fun q4 => ⟨⟨by omega, by omega⟩, m1 _ ⟨q, q2⟩ ⟨q3, q4⟩ rfl⟩, fun q4 => m0 (by omega)⟩⟩⟩⟩
theorem t_byteOf {a1 : Int} (r1 : rg a1) {sx : s_LS} {sm : s_Mo} (hi : Inv sx sm) : wp_LS_byteOf a1 sx (fun r1 => wp_Mo_byteOf a1 sm (fun r2 u3 => r1 = r2 ∧ Inv sx u3)) := by
  have hI : Inv sx (mkMo (0) (gMo_corners sm) (gMo_px sm) (gMo_py sm) (gMo_pz sm) (gMo_triangles sm) (gMo_named sm) (gMo_joined sm) (gMo_dropped sm) (gMo_closed sm) (gMo_layers sm) (gMo_thickness sm) (gMo_cuts sm) (gMo_cx sm) (gMo_cy sm) (gMo_cz sm) (gMo_solids sm) (gMo_shell sm) (gMo_skin sm) (gMo_period sm) (gMo_reach sm) (gMo_gap sm) (gMo_bytes sm) (gMo_played sm) (gMo_at sm) (gMo_program sm) (gMo_beads sm) (gMo_ring sm)) := hi
  obtain ⟨-, -, -, -, ⟨e1, hp, -⟩⟩ := hi
  have el : gPr_length (gLS_printer sx) = gMo_bytes sm := by rw [e1]
  have ep : gPr_program (gLS_printer sx) = gMo_program sm := by rw [e1]
  have m1 : ∀ z : Int, (0 ≤ a1 ∧ a1 < gMo_bytes sm) → z = gMo_program sm a1 → wp_Mo_byteOf a1 sm (fun r2 u3 => z = r2 ∧ Inv sx u3) := by
    intro z g1 hz
    generalize hP : (fun (r2 : Int) (u3 : s_Mo) => z = r2 ∧ Inv sx u3) = P
    have hl : P (gMo_program sm a1) (mkMo (0) (gMo_corners sm) (gMo_px sm) (gMo_py sm) (gMo_pz sm) (gMo_triangles sm) (gMo_named sm) (gMo_joined sm) (gMo_dropped sm) (gMo_closed sm) (gMo_layers sm) (gMo_thickness sm) (gMo_cuts sm) (gMo_cx sm) (gMo_cy sm) (gMo_cz sm) (gMo_solids sm) (gMo_shell sm) (gMo_skin sm) (gMo_period sm) (gMo_reach sm) (gMo_gap sm) (gMo_bytes sm) (gMo_played sm) (gMo_at sm) (gMo_program sm) (gMo_beads sm) (gMo_ring sm)) := by rw [← hP]; exact ⟨hz, hI⟩
    clear hI e1 hP hz
    unfold wp_Mo_byteOf
    simp only [wp_Mo_in]
    repeat' first | (exact hl) | (intro _) | (refine And.intro ?_ ?_) | omega | (exfalso; omega)
  have m0 : ¬ (0 ≤ a1 ∧ a1 < gMo_bytes sm) → wp_Mo_byteOf a1 sm (fun r2 u3 => -1 = r2 ∧ Inv sx u3) := by
    intro g
    generalize hP : (fun (r2 : Int) (u3 : s_Mo) => -1 = r2 ∧ Inv sx u3) = P
    have hl : P (-1) (mkMo (0) (gMo_corners sm) (gMo_px sm) (gMo_py sm) (gMo_pz sm) (gMo_triangles sm) (gMo_named sm) (gMo_joined sm) (gMo_dropped sm) (gMo_closed sm) (gMo_layers sm) (gMo_thickness sm) (gMo_cuts sm) (gMo_cx sm) (gMo_cy sm) (gMo_cz sm) (gMo_solids sm) (gMo_shell sm) (gMo_skin sm) (gMo_period sm) (gMo_reach sm) (gMo_gap sm) (gMo_bytes sm) (gMo_played sm) (gMo_at sm) (gMo_program sm) (gMo_beads sm) (gMo_ring sm)) := by rw [← hP]; exact ⟨rfl, hI⟩
    clear hI e1 hP
    unfold wp_Mo_byteOf
    simp only [wp_Mo_in]
    repeat' first | (exact hl) | (intro _) | (refine And.intro ?_ ?_) | omega | (exfalso; omega)
  unfold wp_LS_byteOf
  rw [el, ep]
  refine ⟨r1, fun q => m0 (by omega), fun q => ⟨⟨by omega, by omega⟩, fun q2 => m0 (by omega), fun q2 => ⟨⟨by omega, by omega⟩, m1 _ ⟨q, q2⟩ rfl⟩⟩⟩
theorem t_laid {a1 a2 a3 : Int} (r1 : rg a1) (r2 : rg a2) (r3 : rg a3) {sx : s_LS} {sm : s_Mo} (hi : Inv sx sm) : wp_LS_laid a1 a2 a3 sx (fun r1 => wp_Mo_laid a1 a2 a3 sm (fun r2 u3 => r1 = r2 ∧ Inv sx u3)) := by
  have hI : Inv sx (mkMo (0) (gMo_corners sm) (gMo_px sm) (gMo_py sm) (gMo_pz sm) (gMo_triangles sm) (gMo_named sm) (gMo_joined sm) (gMo_dropped sm) (gMo_closed sm) (gMo_layers sm) (gMo_thickness sm) (gMo_cuts sm) (gMo_cx sm) (gMo_cy sm) (gMo_cz sm) (gMo_solids sm) (gMo_shell sm) (gMo_skin sm) (gMo_period sm) (gMo_reach sm) (gMo_gap sm) (gMo_bytes sm) (gMo_played sm) (gMo_at sm) (gMo_program sm) (gMo_beads sm) (gMo_ring sm)) := hi
  obtain ⟨-, -, -, -, ⟨e1, hp, -⟩⟩ := hi
  have eb : gPr_beads (gLS_printer sx) = gMo_beads sm := by rw [e1]
  have m1 : ∀ z : Int, (0 ≤ a1 ∧ a1 < 24) → (0 ≤ a2 ∧ a2 < 12) → (0 ≤ a3 ∧ a3 < 12) → z = gMo_beads sm (144 * a1 + 12 * a3 + a2) → wp_Mo_laid a1 a2 a3 sm (fun r2 u3 => z = r2 ∧ Inv sx u3) := by
    intro z g1 g2 g3 hz
    generalize hP : (fun (r2 : Int) (u3 : s_Mo) => z = r2 ∧ Inv sx u3) = P
    have hl : P (gMo_beads sm (144 * a1 + 12 * a3 + a2)) (mkMo (0) (gMo_corners sm) (gMo_px sm) (gMo_py sm) (gMo_pz sm) (gMo_triangles sm) (gMo_named sm) (gMo_joined sm) (gMo_dropped sm) (gMo_closed sm) (gMo_layers sm) (gMo_thickness sm) (gMo_cuts sm) (gMo_cx sm) (gMo_cy sm) (gMo_cz sm) (gMo_solids sm) (gMo_shell sm) (gMo_skin sm) (gMo_period sm) (gMo_reach sm) (gMo_gap sm) (gMo_bytes sm) (gMo_played sm) (gMo_at sm) (gMo_program sm) (gMo_beads sm) (gMo_ring sm)) := by rw [← hP]; exact ⟨hz, hI⟩
    clear hI e1 hP hz
    unfold wp_Mo_laid
    simp only [wp_Mo_in]
    repeat' first | (exact hl) | (intro _) | (refine And.intro ?_ ?_) | omega | (exfalso; omega)
  have m0 : ¬ ((0 ≤ a1 ∧ a1 < 24) ∧ (0 ≤ a2 ∧ a2 < 12) ∧ (0 ≤ a3 ∧ a3 < 12)) → wp_Mo_laid a1 a2 a3 sm (fun r2 u3 => 0 = r2 ∧ Inv sx u3) := by
    intro g
    generalize hP : (fun (r2 : Int) (u3 : s_Mo) => 0 = r2 ∧ Inv sx u3) = P
    have hl : P 0 (mkMo (0) (gMo_corners sm) (gMo_px sm) (gMo_py sm) (gMo_pz sm) (gMo_triangles sm) (gMo_named sm) (gMo_joined sm) (gMo_dropped sm) (gMo_closed sm) (gMo_layers sm) (gMo_thickness sm) (gMo_cuts sm) (gMo_cx sm) (gMo_cy sm) (gMo_cz sm) (gMo_solids sm) (gMo_shell sm) (gMo_skin sm) (gMo_period sm) (gMo_reach sm) (gMo_gap sm) (gMo_bytes sm) (gMo_played sm) (gMo_at sm) (gMo_program sm) (gMo_beads sm) (gMo_ring sm)) := by rw [← hP]; exact ⟨rfl, hI⟩
    clear hI e1 hP
    unfold wp_Mo_laid
    simp only [wp_Mo_in]
    repeat' first | (exact hl) | (intro _) | (refine And.intro ?_ ?_) | omega | (exfalso; omega)
  unfold wp_LS_laid
  simp only [wp_LS_isCell, wp_LS_cellIndex]
  rw [eb]
  by_cases g : (0 ≤ a1 ∧ a1 < 24) ∧ (0 ≤ a2 ∧ a2 < 12) ∧ (0 ≤ a3 ∧ a3 < 12)
  · have q := m1 (gMo_beads sm ((a1 * 12 + a3) * 12 + a2)) g.1 g.2.1 g.2.2 (by congr 1; omega)
    generalize hP : (fun r1 => wp_Mo_laid a1 a2 a3 sm (fun r2 u3 => r1 = r2 ∧ Inv sx u3)) = P
    have q : P (gMo_beads sm ((a1 * 12 + a3) * 12 + a2)) := by rw [← hP]; exact q
    have hz : ∀ z, wp_Mo_laid a1 a2 a3 sm (fun r2 u3 => z = r2 ∧ Inv sx u3) = P z := fun z => by rw [← hP]
    simp only [hz]
    clear m1 m0 hI e1 hP hz
    repeat' first | (exact q) | (intro _) | (refine And.intro ?_ ?_) | omega | (exfalso; omega)
  · have q := m0 g
    have hz : ∃ P : Int → Prop, ∀ z, wp_Mo_laid a1 a2 a3 sm (fun r2 u3 => z = r2 ∧ Inv sx u3) = P z := ⟨_, fun _ => rfl⟩
    obtain ⟨P, hz⟩ := hz
    rw [hz] at q
    simp only [hz]
    clear m1 m0 hI e1 hz
    repeat' first | (exact q) | (intro _) | (refine And.intro ?_ ?_) | omega | (exfalso; omega)
