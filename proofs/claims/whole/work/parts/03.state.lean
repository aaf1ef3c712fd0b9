/-- the state of a block: x, y, z, corners, named, triangles -/
abbrev s_Me : Type := (((Int → Int) × ((Int → Int) × (Int → Int))) × (Int × ((Int → Int) × Int)))
abbrev gMe_x (s : s_Me) : Int → Int := s.1.1
abbrev gMe_y (s : s_Me) : Int → Int := s.1.2.1
abbrev gMe_z (s : s_Me) : Int → Int := s.1.2.2
abbrev gMe_corners (s : s_Me) : Int := s.2.1
abbrev gMe_named (s : s_Me) : Int → Int := s.2.2.1
abbrev gMe_triangles (s : s_Me) : Int := s.2.2.2
abbrev mkMe (a0 : Int → Int) (a1 : Int → Int) (a2 : Int → Int) (a3 : Int) (a4 : Int → Int) (a5 : Int) : s_Me := ((a0, (a1, a2)), (a3, (a4, a5)))
/-- the state of a block: joined, dropped, closed, lowestHere, counted, balance, openFrom, hole -/
abbrev s_Mn : Type := (((Int × Int) × (Int × (Int → Int))) × (((Int → Int) × (Int → Int)) × ((Int → Int) × (Int → Int))))
abbrev gMn_joined (s : s_Mn) : Int := s.1.1.1
abbrev gMn_dropped (s : s_Mn) : Int := s.1.1.2
abbrev gMn_closed (s : s_Mn) : Int := s.1.2.1
abbrev gMn_lowestHere (s : s_Mn) : Int → Int := s.1.2.2
abbrev gMn_counted (s : s_Mn) : Int → Int := s.2.1.1
abbrev gMn_balance (s : s_Mn) : Int → Int := s.2.1.2
abbrev gMn_openFrom (s : s_Mn) : Int → Int := s.2.2.1
abbrev gMn_hole (s : s_Mn) : Int → Int := s.2.2.2
abbrev mkMn (a0 : Int) (a1 : Int) (a2 : Int) (a3 : Int → Int) (a4 : Int → Int) (a5 : Int → Int) (a6 : Int → Int) (a7 : Int → Int) : s_Mn := (((a0, a1), (a2, a3)), ((a4, a5), (a6, a7)))
/-- the state of a block: count, ends, thickness, mesh, solidRows -/
abbrev s_Sl : Type := ((Int × (Int → Int)) × (Int × (s_Me × (Int → Int))))
abbrev gSl_count (s : s_Sl) : Int := s.1.1
abbrev gSl_ends (s : s_Sl) : Int → Int := s.1.2
abbrev gSl_thickness (s : s_Sl) : Int := s.2.1
abbrev gSl_mesh (s : s_Sl) : s_Me := s.2.2.1
abbrev gSl_solidRows (s : s_Sl) : Int → Int := s.2.2.2
abbrev mkSl (a0 : Int) (a1 : Int → Int) (a2 : Int) (a3 : s_Me) (a4 : Int → Int) : s_Sl := ((a0, a1), (a2, (a3, a4)))
/-- the state of a block: rowsOfKind0, rowsOfKind1, rowsOfKind2, rowsOfKind3, rowsOfKind4, rowsOfKind5, rowsOfKind6, hanging, shell, skin, period, reach, gap -/
abbrev s_So : Type := ((((Int → Int) × ((Int → Int) × (Int → Int))) × ((Int → Int) × ((Int → Int) × (Int → Int)))) × (((Int → Int) × ((Int → Int) × Int)) × ((Int × Int) × (Int × Int))))
abbrev gSo_rowsOfKind0 (s : s_So) : Int → Int := s.1.1.1
abbrev gSo_rowsOfKind1 (s : s_So) : Int → Int := s.1.1.2.1
abbrev gSo_rowsOfKind2 (s : s_So) : Int → Int := s.1.1.2.2
abbrev gSo_rowsOfKind3 (s : s_So) : Int → Int := s.1.2.1
abbrev gSo_rowsOfKind4 (s : s_So) : Int → Int := s.1.2.2.1
abbrev gSo_rowsOfKind5 (s : s_So) : Int → Int := s.1.2.2.2
abbrev gSo_rowsOfKind6 (s : s_So) : Int → Int := s.2.1.1
abbrev gSo_hanging (s : s_So) : Int → Int := s.2.1.2.1
abbrev gSo_shell (s : s_So) : Int := s.2.1.2.2
abbrev gSo_skin (s : s_So) : Int := s.2.2.1.1
abbrev gSo_period (s : s_So) : Int := s.2.2.1.2
abbrev gSo_reach (s : s_So) : Int := s.2.2.2.1
abbrev gSo_gap (s : s_So) : Int := s.2.2.2.2
abbrev mkSo (a0 : Int → Int) (a1 : Int → Int) (a2 : Int → Int) (a3 : Int → Int) (a4 : Int → Int) (a5 : Int → Int) (a6 : Int → Int) (a7 : Int → Int) (a8 : Int) (a9 : Int) (a10 : Int) (a11 : Int) (a12 : Int) : s_So := (((a0, (a1, a2)), (a3, (a4, a5))), ((a6, (a7, a8)), ((a9, a10), (a11, a12))))
/-- the state of a block: runs -/
abbrev s_Ro : Type := (Int → Int)
abbrev gRo_runs (s : s_Ro) : Int → Int := s
abbrev mkRo (a0 : Int → Int) : s_Ro := a0
/-- the state of a block: program, length, beads, at, layer -/
abbrev s_Pr : Type := (((Int → Int) × Int) × ((Int → Int) × (Int × Int)))
abbrev gPr_program (s : s_Pr) : Int → Int := s.1.1
abbrev gPr_length (s : s_Pr) : Int := s.1.2
abbrev gPr_beads (s : s_Pr) : Int → Int := s.2.1
abbrev gPr_at (s : s_Pr) : Int := s.2.2.1
abbrev gPr_layer (s : s_Pr) : Int := s.2.2.2
abbrev mkPr (a0 : Int → Int) (a1 : Int) (a2 : Int → Int) (a3 : Int) (a4 : Int) : s_Pr := ((a0, a1), (a2, (a3, a4)))
/-- the state of a block: mesh, mender, slices, sorter, router, printer -/
abbrev s_LS : Type := ((s_Me × (s_Mn × s_Sl)) × (s_So × (s_Ro × s_Pr)))
abbrev gLS_mesh (s : s_LS) : s_Me := s.1.1
abbrev gLS_mender (s : s_LS) : s_Mn := s.1.2.1
abbrev gLS_slices (s : s_LS) : s_Sl := s.1.2.2
abbrev gLS_sorter (s : s_LS) : s_So := s.2.1
abbrev gLS_router (s : s_LS) : s_Ro := s.2.2.1
abbrev gLS_printer (s : s_LS) : s_Pr := s.2.2.2
abbrev mkLS (a0 : s_Me) (a1 : s_Mn) (a2 : s_Sl) (a3 : s_So) (a4 : s_Ro) (a5 : s_Pr) : s_LS := ((a0, (a1, a2)), (a3, (a4, a5)))
/-- the state of a block: thrown, corners, px, py, pz, triangles, named, joined, dropped, closed, layers, thickness, cuts, cx, cy, cz, solids, shell, skin, period, reach, gap, bytes, played, at, program, beads, ring -/
abbrev s_Mo : Type := ((((Int × (Int × (Int → Int))) × (((Int → Int) × (Int → Int)) × (Int × (Int → Int)))) × ((Int × (Int × Int)) × ((Int × Int) × (Int × (Int → Int))))) × ((((Int → Int) × ((Int → Int) × (Int → Int))) × ((Int × Int) × (Int × Int))) × ((Int × (Int × Int)) × ((Int × (Int → Int)) × ((Int → Int) × (Int → Int))))))
abbrev gMo_thrown (s : s_Mo) : Int := s.1.1.1.1
abbrev gMo_corners (s : s_Mo) : Int := s.1.1.1.2.1
abbrev gMo_px (s : s_Mo) : Int → Int := s.1.1.1.2.2
abbrev gMo_py (s : s_Mo) : Int → Int := s.1.1.2.1.1
abbrev gMo_pz (s : s_Mo) : Int → Int := s.1.1.2.1.2
abbrev gMo_triangles (s : s_Mo) : Int := s.1.1.2.2.1
abbrev gMo_named (s : s_Mo) : Int → Int := s.1.1.2.2.2
abbrev gMo_joined (s : s_Mo) : Int := s.1.2.1.1
abbrev gMo_dropped (s : s_Mo) : Int := s.1.2.1.2.1
abbrev gMo_closed (s : s_Mo) : Int := s.1.2.1.2.2
abbrev gMo_layers (s : s_Mo) : Int := s.1.2.2.1.1
abbrev gMo_thickness (s : s_Mo) : Int := s.1.2.2.1.2
abbrev gMo_cuts (s : s_Mo) : Int := s.1.2.2.2.1
abbrev gMo_cx (s : s_Mo) : Int → Int := s.1.2.2.2.2
abbrev gMo_cy (s : s_Mo) : Int → Int := s.2.1.1.1
abbrev gMo_cz (s : s_Mo) : Int → Int := s.2.1.1.2.1
abbrev gMo_solids (s : s_Mo) : Int → Int := s.2.1.1.2.2
abbrev gMo_shell (s : s_Mo) : Int := s.2.1.2.1.1
abbrev gMo_skin (s : s_Mo) : Int := s.2.1.2.1.2
abbrev gMo_period (s : s_Mo) : Int := s.2.1.2.2.1
abbrev gMo_reach (s : s_Mo) : Int := s.2.1.2.2.2
abbrev gMo_gap (s : s_Mo) : Int := s.2.2.1.1
abbrev gMo_bytes (s : s_Mo) : Int := s.2.2.1.2.1
abbrev gMo_played (s : s_Mo) : Int := s.2.2.1.2.2
abbrev gMo_at (s : s_Mo) : Int := s.2.2.2.1.1
abbrev gMo_program (s : s_Mo) : Int → Int := s.2.2.2.1.2
abbrev gMo_beads (s : s_Mo) : Int → Int := s.2.2.2.2.1
abbrev gMo_ring (s : s_Mo) : Int → Int := s.2.2.2.2.2
abbrev mkMo (a0 : Int) (a1 : Int) (a2 : Int → Int) (a3 : Int → Int) (a4 : Int → Int) (a5 : Int) (a6 : Int → Int) (a7 : Int) (a8 : Int) (a9 : Int) (a10 : Int) (a11 : Int) (a12 : Int) (a13 : Int → Int) (a14 : Int → Int) (a15 : Int → Int) (a16 : Int → Int) (a17 : Int) (a18 : Int) (a19 : Int) (a20 : Int) (a21 : Int) (a22 : Int) (a23 : Int) (a24 : Int) (a25 : Int → Int) (a26 : Int → Int) (a27 : Int → Int) : s_Mo := ((((a0, (a1, a2)), ((a3, a4), (a5, a6))), ((a7, (a8, a9)), ((a10, a11), (a12, a13)))), (((a14, (a15, a16)), ((a17, a18), (a19, a20))), ((a21, (a22, a23)), ((a24, a25), (a26, a27)))))
/-- the row of a number -/
def rSo_rowsOfKind (s : s_So) (z : Int) : Int → Int := if z = 0 then gSo_rowsOfKind0 s else if z = 1 then gSo_rowsOfKind1 s else if z = 2 then gSo_rowsOfKind2 s else if z = 3 then gSo_rowsOfKind3 s else if z = 4 then gSo_rowsOfKind4 s else if z = 5 then gSo_rowsOfKind5 s else gSo_rowsOfKind6 s

/-- LayerSlicer$Mesh.onLattice(I)Z -/
def wp_Me_onLattice (x0 : Int) (Q : Int → Prop) : Prop :=
  rg x0 ∧ ((x0 < 0 → (Q 0)) ∧ (0 ≤ x0 → ((120 < x0 → (Q 0)) ∧ (x0 ≤ 120 → (Q 1)))))

/-- LayerSlicer$Mesh.addCorner(III)I -/
def wp_Me_addCorner (x1 : Int) (x2 : Int) (x3 : Int) (s0 : s_Me) (Q : Int → s_Me → Prop) : Prop :=
  rg (gMe_corners s0) ∧ (((gMe_corners s0) = 80 → (Q (-1) s0)) ∧ ((gMe_corners s0) ≠ 80 → (wp_Me_onLattice x1 (fun r2 => rg r2 ∧ ((r2 = 0 → (Q (-1) s0)) ∧ (r2 ≠ 0 → (wp_Me_onLattice x2 (fun r4 => rg r4 ∧ ((r4 = 0 → (Q (-1) s0)) ∧ (r4 ≠ 0 → (wp_Me_onLattice x3 (fun r6 => rg r6 ∧ ((r6 ≠ 0 → ((0 ≤ (gMe_corners s0) ∧ (gMe_corners s0) < 80) ∧ (Q (((gMe_corners s0) + 1) - 1) (mkMe (iset (gMe_x s0) (gMe_corners s0) x1) (iset (gMe_y s0) (gMe_corners s0) x2) (iset (gMe_z s0) (gMe_corners s0) x3) ((gMe_corners s0) + 1) (gMe_named s0) (gMe_triangles s0))))) ∧ (r6 = 0 → (Q (-1) s0)))))))))))))))

/-- LayerSlicer.corner(III)I -/
def wp_LS_corner (x1 : Int) (x2 : Int) (x3 : Int) (s0 : s_LS) (Q : Int → s_LS → Prop) : Prop :=
  wp_Me_addCorner x1 x2 x3 (gLS_mesh s0) (fun r1 u2 => Q r1 (mkLS u2 (gLS_mender s0) (gLS_slices s0) (gLS_sorter s0) (gLS_router s0) (gLS_printer s0)))

/-- LayerSlicer$Mesh.hasCorner(I)Z -/
def wp_Me_hasCorner (x1 : Int) (s0 : s_Me) (Q : Int → Prop) : Prop :=
  rg x1 ∧ ((x1 < 0 → (Q 0)) ∧ (0 ≤ x1 → (rg (gMe_corners s0) ∧ (((gMe_corners s0) ≤ x1 → (Q 0)) ∧ (x1 < (gMe_corners s0) → (Q 1))))))

/-- LayerSlicer$Mesh.name(IIII)V -/
def wp_Me_name (x1 : Int) (x2 : Int) (x3 : Int) (x4 : Int) (s0 : s_Me) (Q : s_Me → Prop) : Prop :=
  (0 ≤ (3 * x1) ∧ (3 * x1) < 360) ∧ ((0 ≤ ((3 * x1) + 1) ∧ ((3 * x1) + 1) < 360) ∧ ((0 ≤ ((3 * x1) + 2) ∧ ((3 * x1) + 2) < 360) ∧ (Q (mkMe (gMe_x s0) (gMe_y s0) (gMe_z s0) (gMe_corners s0) (iset (iset (iset (gMe_named s0) (3 * x1) x2) ((3 * x1) + 1) x3) ((3 * x1) + 2) x4) (gMe_triangles s0)))))

/-- LayerSlicer$Mesh.addTriangle(III)I -/
def wp_Me_addTriangle (x1 : Int) (x2 : Int) (x3 : Int) (s0 : s_Me) (Q : Int → s_Me → Prop) : Prop :=
  rg (gMe_triangles s0) ∧ (((gMe_triangles s0) = 120 → (Q (-1) s0)) ∧ ((gMe_triangles s0) ≠ 120 → (wp_Me_hasCorner x1 s0 (fun r2 => rg r2 ∧ ((r2 = 0 → (Q (-1) s0)) ∧ (r2 ≠ 0 → (wp_Me_hasCorner x2 s0 (fun r4 => rg r4 ∧ ((r4 = 0 → (Q (-1) s0)) ∧ (r4 ≠ 0 → (wp_Me_hasCorner x3 s0 (fun r6 => rg r6 ∧ ((r6 ≠ 0 → (wp_Me_name (gMe_triangles s0) x1 x2 x3 s0 (fun u8 => Q (((gMe_triangles u8) + 1) - 1) (mkMe (gMe_x u8) (gMe_y u8) (gMe_z u8) (gMe_corners u8) (gMe_named u8) ((gMe_triangles u8) + 1))))) ∧ (r6 = 0 → (Q (-1) s0)))))))))))))))

/-- LayerSlicer.tri(III)I -/
def wp_LS_tri (x1 : Int) (x2 : Int) (x3 : Int) (s0 : s_LS) (Q : Int → s_LS → Prop) : Prop :=
  wp_Me_addTriangle x1 x2 x3 (gLS_mesh s0) (fun r1 u2 => Q r1 (mkLS u2 (gLS_mender s0) (gLS_slices s0) (gLS_sorter s0) (gLS_router s0) (gLS_printer s0)))

/-- LayerSlicer$Mesh.samePlace(II)Z -/
def wp_Me_samePlace (x1 : Int) (x2 : Int) (s0 : s_Me) (Q : Int → Prop) : Prop :=
  (0 ≤ x1 ∧ x1 < 80) ∧ ((0 ≤ x2 ∧ x2 < 80) ∧ (rg ((gMe_x s0) x1) ∧ rg ((gMe_x s0) x2) ∧ ((((gMe_x s0) x1) ≠ ((gMe_x s0) x2) → (Q 0)) ∧ (((gMe_x s0) x1) = ((gMe_x s0) x2) → (rg ((gMe_y s0) x1) ∧ rg ((gMe_y s0) x2) ∧ ((((gMe_y s0) x1) ≠ ((gMe_y s0) x2) → (Q 0)) ∧ (((gMe_y s0) x1) = ((gMe_y s0) x2) → (rg ((gMe_z s0) x1) ∧ rg ((gMe_z s0) x2) ∧ ((((gMe_z s0) x1) ≠ ((gMe_z s0) x2) → (Q 0)) ∧ (((gMe_z s0) x1) = ((gMe_z s0) x2) → (Q 1)))))))))))

/-- LayerSlicer$Mender.lowestAtPlaceOf(LLayerSlicer$Mesh;I)I -/
def wp_Mn_lowestAtPlaceOf (x1 : Int) (s0 : s_Me) (Q : Int → Prop) : Prop :=
  ∀ (P2 : Int → Prop),
  (∀ (v2 : Int), (rg v2 ∧ rg x1 ∧ ((x1 ≤ v2 → (Q x1)) ∧ (v2 < x1 → (wp_Me_samePlace v2 x1 s0 (fun r3 => rg r3 ∧ ((r3 = 0 → (P2 (v2 + 1))) ∧ (r3 ≠ 0 → (Q v2)))))))) → P2 v2) →
  P2 0

/-- LayerSlicer$Mender.joinCorners(LLayerSlicer$Mesh;)V -/
def wp_Mn_joinCorners (s0 : s_Mn) (s1 : s_Me) (Q : s_Mn → s_Me → Prop) : Prop :=
  ∀ (P2 : Int → s_Mn → s_Me → Prop),
  ∀ (P36 : Int → s_Mn → s_Me → Prop),
  (∀ (v2 : Int) (s0 : s_Mn) (s1 : s_Me), (rg v2 ∧ rg (gMe_corners s1) ∧ (((gMe_corners s1) ≤ v2 → (P36 0 s0 s1)) ∧ (v2 < (gMe_corners s1) → (wp_Mn_lowestAtPlaceOf v2 s1 (fun r3 => (0 ≤ v2 ∧ v2 < 80) ∧ (P2 (v2 + 1) (mkMn (gMn_joined s0) (gMn_dropped s0) (gMn_closed s0) (iset (gMn_lowestHere s0) v2 r3) (iset (gMn_counted s0) v2 0) (gMn_balance s0) (gMn_openFrom s0) (gMn_hole s0)) s1)))))) → P2 v2 s0 s1) →
  (∀ (v2 : Int) (s0 : s_Mn) (s1 : s_Me), (rg v2 ∧ rg (3 * (gMe_triangles s1)) ∧ (((3 * (gMe_triangles s1)) ≤ v2 → (Q s0 s1)) ∧ (v2 < (3 * (gMe_triangles s1)) → ((0 ≤ v2 ∧ v2 < 360) ∧ ((0 ≤ ((gMe_named s1) v2) ∧ ((gMe_named s1) v2) < 80) ∧ (rg ((gMn_lowestHere s0) ((gMe_named s1) v2)) ∧ ((((gMn_lowestHere s0) ((gMe_named s1) v2)) = ((gMe_named s1) v2) → (P36 (v2 + 1) s0 (mkMe (gMe_x s1) (gMe_y s1) (gMe_z s1) (gMe_corners s1) (iset (gMe_named s1) v2 ((gMn_lowestHere s0) ((gMe_named s1) v2))) (gMe_triangles s1)))) ∧ (((gMn_lowestHere s0) ((gMe_named s1) v2)) ≠ ((gMe_named s1) v2) → (rg ((gMn_counted s0) ((gMe_named s1) v2)) ∧ ((((gMn_counted s0) ((gMe_named s1) v2)) ≠ 0 → (P36 (v2 + 1) s0 (mkMe (gMe_x s1) (gMe_y s1) (gMe_z s1) (gMe_corners s1) (iset (gMe_named s1) v2 ((gMn_lowestHere s0) ((gMe_named s1) v2))) (gMe_triangles s1)))) ∧ (((gMn_counted s0) ((gMe_named s1) v2)) = 0 → (P36 (v2 + 1) (mkMn ((gMn_joined s0) + 1) (gMn_dropped s0) (gMn_closed s0) (gMn_lowestHere s0) (iset (gMn_counted s0) ((gMe_named s1) v2) 1) (gMn_balance s0) (gMn_openFrom s0) (gMn_hole s0)) (mkMe (gMe_x s1) (gMe_y s1) (gMe_z s1) (gMe_corners s1) (iset (gMe_named s1) v2 ((gMn_lowestHere s0) ((gMe_named s1) v2))) (gMe_triangles s1)))))))))))))) → P36 v2 s0 s1) →
  P2 0 s0 s1

/-- LayerSlicer$Mesh.onOneLine(III)Z -/
def wp_Me_onOneLine (x1 : Int) (x2 : Int) (x3 : Int) (s0 : s_Me) (Q : Int → Prop) : Prop :=
  (0 ≤ x2 ∧ x2 < 80) ∧ ((0 ≤ x1 ∧ x1 < 80) ∧ ((0 ≤ x3 ∧ x3 < 80) ∧ (rg ((((gMe_y s0) x2) - ((gMe_y s0) x1)) * (((gMe_z s0) x3) - ((gMe_z s0) x1))) ∧ rg ((((gMe_z s0) x2) - ((gMe_z s0) x1)) * (((gMe_y s0) x3) - ((gMe_y s0) x1))) ∧ ((((((gMe_y s0) x2) - ((gMe_y s0) x1)) * (((gMe_z s0) x3) - ((gMe_z s0) x1))) ≠ ((((gMe_z s0) x2) - ((gMe_z s0) x1)) * (((gMe_y s0) x3) - ((gMe_y s0) x1))) → (Q 0)) ∧ (((((gMe_y s0) x2) - ((gMe_y s0) x1)) * (((gMe_z s0) x3) - ((gMe_z s0) x1))) = ((((gMe_z s0) x2) - ((gMe_z s0) x1)) * (((gMe_y s0) x3) - ((gMe_y s0) x1))) → (rg ((((gMe_z s0) x2) - ((gMe_z s0) x1)) * (((gMe_x s0) x3) - ((gMe_x s0) x1))) ∧ rg ((((gMe_x s0) x2) - ((gMe_x s0) x1)) * (((gMe_z s0) x3) - ((gMe_z s0) x1))) ∧ ((((((gMe_z s0) x2) - ((gMe_z s0) x1)) * (((gMe_x s0) x3) - ((gMe_x s0) x1))) ≠ ((((gMe_x s0) x2) - ((gMe_x s0) x1)) * (((gMe_z s0) x3) - ((gMe_z s0) x1))) → (Q 0)) ∧ (((((gMe_z s0) x2) - ((gMe_z s0) x1)) * (((gMe_x s0) x3) - ((gMe_x s0) x1))) = ((((gMe_x s0) x2) - ((gMe_x s0) x1)) * (((gMe_z s0) x3) - ((gMe_z s0) x1))) → (rg ((((gMe_x s0) x2) - ((gMe_x s0) x1)) * (((gMe_y s0) x3) - ((gMe_y s0) x1))) ∧ rg ((((gMe_y s0) x2) - ((gMe_y s0) x1)) * (((gMe_x s0) x3) - ((gMe_x s0) x1))) ∧ ((((((gMe_x s0) x2) - ((gMe_x s0) x1)) * (((gMe_y s0) x3) - ((gMe_y s0) x1))) ≠ ((((gMe_y s0) x2) - ((gMe_y s0) x1)) * (((gMe_x s0) x3) - ((gMe_x s0) x1))) → (Q 0)) ∧ (((((gMe_x s0) x2) - ((gMe_x s0) x1)) * (((gMe_y s0) x3) - ((gMe_y s0) x1))) = ((((gMe_y s0) x2) - ((gMe_y s0) x1)) * (((gMe_x s0) x3) - ((gMe_x s0) x1))) → (Q 1))))))))))))

/-- LayerSlicer$Mender.dropTriangles(LLayerSlicer$Mesh;)V -/
def wp_Mn_dropTriangles (s0 : s_Mn) (s1 : s_Me) (Q : s_Mn → s_Me → Prop) : Prop :=
  ∀ (P4 : Int → Int → s_Mn → s_Me → Prop),
  (∀ (v2 : Int) (v3 : Int) (s0 : s_Mn) (s1 : s_Me), (rg v3 ∧ rg (gMe_triangles s1) ∧ (((gMe_triangles s1) ≤ v3 → (Q (mkMn (gMn_joined s0) ((gMn_dropped s0) + ((gMe_triangles s1) - v2)) (gMn_closed s0) (gMn_lowestHere s0) (gMn_counted s0) (gMn_balance s0) (gMn_openFrom s0) (gMn_hole s0)) (mkMe (gMe_x s1) (gMe_y s1) (gMe_z s1) (gMe_corners s1) (gMe_named s1) v2))) ∧ (v3 < (gMe_triangles s1) → ((0 ≤ (3 * v3) ∧ (3 * v3) < 360) ∧ ((0 ≤ ((3 * v3) + 1) ∧ ((3 * v3) + 1) < 360) ∧ ((0 ≤ ((3 * v3) + 2) ∧ ((3 * v3) + 2) < 360) ∧ (wp_Me_onOneLine ((gMe_named s1) (3 * v3)) ((gMe_named s1) ((3 * v3) + 1)) ((gMe_named s1) ((3 * v3) + 2)) s1 (fun r6 => rg r6 ∧ ((r6 ≠ 0 → (P4 v2 (v3 + 1) s0 s1)) ∧ (r6 = 0 → (wp_Me_name v2 ((gMe_named s1) (3 * v3)) ((gMe_named s1) ((3 * v3) + 1)) ((gMe_named s1) ((3 * v3) + 2)) s1 (fun u8 => P4 (v2 + 1) (v3 + 1) s0 u8)))))))))))) → P4 v2 v3 s0 s1) →
  P4 0 0 s0 s1

/-- java/util/Arrays.fill([II)V -/
def wp_Arr_fill (x1 : Int) (n0 : Nat) (f0 : Int → Int) (Q : (Int → Int) → Prop) : Prop :=
  ∀ (P5 : Int → Int → (Int → Int) → Prop),
  (∀ (v2 : Int) (v3 : Int) (f0 : Int → Int), (rg v2 ∧ rg v3 ∧ ((v3 ≤ v2 → (Q f0)) ∧ (v2 < v3 → ((0 ≤ v2 ∧ v2 < (n0 : Int)) ∧ (P5 (v2 + 1) v3 (iset f0 v2 x1)))))) → P5 v2 v3 f0) →
  P5 0 (n0 : Int) f0

/-- LayerSlicer$Mender.addEdge(II)V -/
def wp_Mn_addEdge (x1 : Int) (x2 : Int) (s0 : s_Mn) (Q : s_Mn → Prop) : Prop :=
  ∀ (P37 : s_Mn → Prop),
  (∀ (s0 : s_Mn), ((0 ≤ ((x1 * 80) + x2) ∧ ((x1 * 80) + x2) < 6400) ∧ ((0 ≤ ((x2 * 80) + x1) ∧ ((x2 * 80) + x1) < 6400) ∧ (Q (mkMn (gMn_joined s0) (gMn_dropped s0) (gMn_closed s0) (gMn_lowestHere s0) (gMn_counted s0) (iset (iset (gMn_balance s0) ((x1 * 80) + x2) (((gMn_balance s0) ((x1 * 80) + x2)) + 1)) ((x2 * 80) + x1) (((iset (gMn_balance s0) ((x1 * 80) + x2) (((gMn_balance s0) ((x1 * 80) + x2)) + 1)) ((x2 * 80) + x1)) - 1)) (gMn_openFrom s0) (gMn_hole s0))))) → P37 s0) →
  (0 ≤ ((x1 * 80) + x2) ∧ ((x1 * 80) + x2) < 6400) ∧ (rg ((gMn_balance s0) ((x1 * 80) + x2)) ∧ ((((gMn_balance s0) ((x1 * 80) + x2)) < 0 → ((0 ≤ x2 ∧ x2 < 80) ∧ (P37 (mkMn (gMn_joined s0) (gMn_dropped s0) (gMn_closed s0) (gMn_lowestHere s0) (gMn_counted s0) (gMn_balance s0) (iset (gMn_openFrom s0) x2 (((gMn_openFrom s0) x2) - 1)) (gMn_hole s0))))) ∧ (0 ≤ ((gMn_balance s0) ((x1 * 80) + x2)) → ((0 ≤ x1 ∧ x1 < 80) ∧ (P37 (mkMn (gMn_joined s0) (gMn_dropped s0) (gMn_closed s0) (gMn_lowestHere s0) (gMn_counted s0) (gMn_balance s0) (iset (gMn_openFrom s0) x1 (((gMn_openFrom s0) x1) + 1)) (gMn_hole s0)))))))

/-- LayerSlicer$Mender.addEdgesOf(LLayerSlicer$Mesh;I)V -/
def wp_Mn_addEdgesOf (x2 : Int) (s0 : s_Mn) (s1 : s_Me) (Q : s_Mn → Prop) : Prop :=
  (0 ≤ (3 * x2) ∧ (3 * x2) < 360) ∧ ((0 ≤ ((3 * x2) + 1) ∧ ((3 * x2) + 1) < 360) ∧ ((0 ≤ ((3 * x2) + 2) ∧ ((3 * x2) + 2) < 360) ∧ (wp_Mn_addEdge ((gMe_named s1) (3 * x2)) ((gMe_named s1) ((3 * x2) + 1)) s0 (fun u4 => wp_Mn_addEdge ((gMe_named s1) ((3 * x2) + 1)) ((gMe_named s1) ((3 * x2) + 2)) u4 (fun u5 => wp_Mn_addEdge ((gMe_named s1) ((3 * x2) + 2)) ((gMe_named s1) (3 * x2)) u5 (fun u6 => Q u6))))))

/-- LayerSlicer$Mender.weighEdges(LLayerSlicer$Mesh;)V -/
def wp_Mn_weighEdges (s0 : s_Mn) (s1 : s_Me) (Q : s_Mn → Prop) : Prop :=
  ∀ (P18 : Int → s_Mn → Prop),
  (∀ (v2 : Int) (s0 : s_Mn), (rg v2 ∧ rg (gMe_triangles s1) ∧ (((gMe_triangles s1) ≤ v2 → (Q s0)) ∧ (v2 < (gMe_triangles s1) → (wp_Mn_addEdgesOf v2 s0 s1 (fun u5 => P18 (v2 + 1) u5))))) → P18 v2 s0) →
  wp_Arr_fill 0 6400 (gMn_balance s0) (fun u1 => wp_Arr_fill 0 80 (gMn_openFrom s0) (fun u2 => P18 0 (mkMn (gMn_joined s0) (gMn_dropped s0) (gMn_closed s0) (gMn_lowestHere s0) (gMn_counted s0) u1 u2 (gMn_hole s0))))

/-- LayerSlicer$Mender.isInHole(II)Z -/
def wp_Mn_isInHole (x1 : Int) (x2 : Int) (s0 : s_Mn) (Q : Int → Prop) : Prop :=
  ∀ (P2 : Int → Prop),
  (∀ (v3 : Int), (rg v3 ∧ rg x2 ∧ ((x2 ≤ v3 → (Q 0)) ∧ (v3 < x2 → ((0 ≤ v3 ∧ v3 < 16) ∧ (rg ((gMn_hole s0) v3) ∧ rg x1 ∧ ((((gMn_hole s0) v3) ≠ x1 → (P2 (v3 + 1))) ∧ (((gMn_hole s0) v3) = x1 → (Q 1)))))))) → P2 v3) →
  P2 0

/-- LayerSlicer$Mender.nextCorner(II)I -/
def wp_Mn_nextCorner (x1 : Int) (x2 : Int) (s0 : s_Mn) (Q : Int → Prop) : Prop :=
  ∀ (P2 : Int → Prop),
  (∀ (v3 : Int), (rg v3 ∧ rg x2 ∧ ((x2 ≤ v3 → (Q x1)) ∧ (v3 < x2 → ((0 ≤ ((x1 * 80) + v3) ∧ ((x1 * 80) + v3) < 6400) ∧ (rg ((gMn_balance s0) ((x1 * 80) + v3)) ∧ ((((gMn_balance s0) ((x1 * 80) + v3)) ≤ 0 → (P2 (v3 + 1))) ∧ (0 < ((gMn_balance s0) ((x1 * 80) + v3)) → (Q v3)))))))) → P2 v3) →
  P2 0

/-- LayerSlicer$Mender.walkHole(II)I -/
def wp_Mn_walkHole (x1 : Int) (x2 : Int) (s0 : s_Mn) (Q : Int → s_Mn → Prop) : Prop :=
  ∀ (P5 : Int → Int → s_Mn → Prop),
  (∀ (v3 : Int) (v4 : Int) (s0 : s_Mn), (rg v4 ∧ ((16 ≤ v4 → (Q 0 s0)) ∧ (v4 < 16 → ((0 ≤ v3 ∧ v3 < 80) ∧ (rg ((gMn_openFrom s0) v3) ∧ ((((gMn_openFrom s0) v3) ≠ 1 → (Q 0 s0)) ∧ (((gMn_openFrom s0) v3) = 1 → (wp_Mn_isInHole v3 v4 s0 (fun r4 => rg r4 ∧ ((r4 = 0 → ((0 ≤ v4 ∧ v4 < 16) ∧ (wp_Mn_nextCorner v3 x2 (mkMn (gMn_joined s0) (gMn_dropped s0) (gMn_closed s0) (gMn_lowestHere s0) (gMn_counted s0) (gMn_balance s0) (gMn_openFrom s0) (iset (gMn_hole s0) v4 v3)) (fun r7 => rg r7 ∧ rg x1 ∧ ((r7 ≠ x1 → (P5 r7 (v4 + 1) (mkMn (gMn_joined s0) (gMn_dropped s0) (gMn_closed s0) (gMn_lowestHere s0) (gMn_counted s0) (gMn_balance s0) (gMn_openFrom s0) (iset (gMn_hole s0) v4 v3)))) ∧ (r7 = x1 → (Q (v4 + 1) (mkMn (gMn_joined s0) (gMn_dropped s0) (gMn_closed s0) (gMn_lowestHere s0) (gMn_counted s0) (gMn_balance s0) (gMn_openFrom s0) (iset (gMn_hole s0) v4 v3))))))))) ∧ (r4 ≠ 0 → (Q 0 s0)))))))))))) → P5 v3 v4 s0) →
  P5 x1 0 s0

/-- LayerSlicer$Mender.fillHole(LLayerSlicer$Mesh;I)V -/
def wp_Mn_fillHole (x2 : Int) (s0 : s_Mn) (s1 : s_Me) (Q : s_Mn → s_Me → Prop) : Prop :=
  ∀ (P2 : Int → s_Mn → s_Me → Prop),
  (∀ (v3 : Int) (s0 : s_Mn) (s1 : s_Me), (rg v3 ∧ rg (x2 - 2) ∧ (((x2 - 2) < v3 → (Q (mkMn (gMn_joined s0) (gMn_dropped s0) ((gMn_closed s0) + 1) (gMn_lowestHere s0) (gMn_counted s0) (gMn_balance s0) (gMn_openFrom s0) (gMn_hole s0)) s1)) ∧ (v3 ≤ (x2 - 2) → ((0 ≤ (v3 + 1) ∧ (v3 + 1) < 16) ∧ ((0 ≤ v3 ∧ v3 < 16) ∧ (wp_Me_addTriangle ((gMn_hole s0) 0) ((gMn_hole s0) (v3 + 1)) ((gMn_hole s0) v3) s1 (fun r5 u6 => wp_Mn_addEdgesOf ((gMe_triangles u6) - 1) s0 u6 (fun u7 => P2 (v3 + 1) u7 u6)))))))) → P2 v3 s0 s1) →
  P2 1 s0 s1

/-- LayerSlicer$Mender.closeFirstHole(LLayerSlicer$Mesh;)Z -/
def wp_Mn_closeFirstHole (s0 : s_Mn) (s1 : s_Me) (Q : Int → s_Mn → s_Me → Prop) : Prop :=
  ∀ (P2 : Int → s_Mn → s_Me → Prop),
  (∀ (v2 : Int) (s0 : s_Mn) (s1 : s_Me), (rg v2 ∧ rg (gMe_corners s1) ∧ (((gMe_corners s1) ≤ v2 → (Q 0 s0 s1)) ∧ (v2 < (gMe_corners s1) → (wp_Mn_walkHole v2 (gMe_corners s1) s0 (fun r3 u4 => rg r3 ∧ ((r3 < 3 → (P2 (v2 + 1) u4 s1)) ∧ (3 ≤ r3 → (rg (((gMe_triangles s1) + r3) - 2) ∧ ((120 < (((gMe_triangles s1) + r3) - 2) → (P2 (v2 + 1) u4 s1)) ∧ ((((gMe_triangles s1) + r3) - 2) ≤ 120 → (wp_Mn_fillHole r3 u4 s1 (fun u7 u8 => Q 1 u7 u8)))))))))))) → P2 v2 s0 s1) →
  P2 0 s0 s1

/-- LayerSlicer$Mender.openInAll(I)I -/
def wp_Mn_openInAll (x1 : Int) (s0 : s_Mn) (Q : Int → Prop) : Prop :=
  ∀ (P4 : Int → Int → Prop),
  (∀ (v2 : Int) (v3 : Int), (rg v3 ∧ rg x1 ∧ ((x1 ≤ v3 → (Q v2)) ∧ (v3 < x1 → ((0 ≤ v3 ∧ v3 < 80) ∧ (P4 (v2 + ((gMn_openFrom s0) v3)) (v3 + 1)))))) → P4 v2 v3) →
  P4 0 0

/-- LayerSlicer$Mender.mendMesh(LLayerSlicer$Mesh;)I -/
def wp_Mn_mendMesh (s0 : s_Mn) (s1 : s_Me) (Q : Int → s_Mn → s_Me → Prop) : Prop :=
  ∀ (P19 : Int → Int → s_Mn → s_Me → Prop),
  (∀ (v2 : Int) (v3 : Int) (s0 : s_Mn) (s1 : s_Me), (rg v2 ∧ ((v2 = 0 → (wp_Mn_openInAll (gMe_corners s1) s0 (fun r7 => Q r7 s0 s1))) ∧ (v2 ≠ 0 → (rg v3 ∧ ((120 ≤ v3 → (wp_Mn_openInAll (gMe_corners s1) s0 (fun r9 => Q r9 s0 s1))) ∧ (v3 < 120 → (wp_Mn_closeFirstHole s0 s1 (fun r10 u11 u12 => P19 r10 (v3 + 1) u11 u12)))))))) → P19 v2 v3 s0 s1) →
  wp_Mn_joinCorners s0 s1 (fun u1 u2 => wp_Mn_dropTriangles u1 u2 (fun u3 u4 => wp_Mn_weighEdges u3 u4 (fun u5 => P19 1 0 u5 u4)))

/-- LayerSlicer.mend()I -/
def wp_LS_mend (s0 : s_LS) (Q : Int → s_LS → Prop) : Prop :=
  wp_Mn_mendMesh (gLS_mender s0) (gLS_mesh s0) (fun r1 u2 u3 => Q r1 (mkLS u3 u2 (gLS_slices s0) (gLS_sorter s0) (gLS_router s0) (gLS_printer s0)))

/-- LayerSlicer.mended(I)I -/
def wp_LS_mended (x1 : Int) (s0 : s_LS) (Q : Int → Prop) : Prop :=
  rg x1 ∧ ((x1 = 0 → (Q (gMn_joined (gLS_mender s0)))) ∧ (x1 = 1 → (Q (gMn_dropped (gLS_mender s0)))) ∧ (x1 = 2 → (Q (gMn_closed (gLS_mender s0)))) ∧ (x1 = 3 → (Q (gMe_triangles (gLS_mesh s0)))) ∧ (x1 < 0 ∨ 3 < x1 → (Q (-1))))

/-- LayerSlicer.triangle(II)I -/
def wp_LS_triangle (x1 : Int) (x2 : Int) (s0 : s_LS) (Q : Int → Prop) : Prop :=
  rg x1 ∧ ((x1 < 0 → (Q (-1))) ∧ (0 ≤ x1 → (rg (gMe_triangles (gLS_mesh s0)) ∧ (((gMe_triangles (gLS_mesh s0)) ≤ x1 → (Q (-1))) ∧ (x1 < (gMe_triangles (gLS_mesh s0)) → (rg x2 ∧ ((x2 < 0 → (Q (-1))) ∧ (0 ≤ x2 → ((x2 ≤ 2 → ((0 ≤ ((3 * x1) + x2) ∧ ((3 * x1) + x2) < 360) ∧ (Q ((gMe_named (gLS_mesh s0)) ((3 * x1) + x2))))) ∧ (2 < x2 → (Q (-1))))))))))))

/-- LayerSlicer$Mesh.turnQuarter(I)V -/
def wp_Me_turnQuarter (x1 : Int) (s0 : s_Me) (Q : s_Me → Prop) : Prop :=
  ∀ (P2 : Int → s_Me → Prop),
  (∀ (v2 : Int) (s0 : s_Me), (rg v2 ∧ rg (gMe_corners s0) ∧ (((gMe_corners s0) ≤ v2 → (Q s0)) ∧ (v2 < (gMe_corners s0) → ((0 ≤ v2 ∧ v2 < 80) ∧ (rg x1 ∧ ((x1 ≠ 0 → ((x1 ≠ 1 → (P2 (v2 + 1) (mkMe (iset (gMe_x s0) v2 (120 - ((gMe_y s0) v2))) (iset (gMe_y s0) v2 ((gMe_x s0) v2)) (gMe_z s0) (gMe_corners s0) (gMe_named s0) (gMe_triangles s0)))) ∧ (x1 = 1 → (P2 (v2 + 1) (mkMe (iset (gMe_x s0) v2 ((gMe_z s0) v2)) (gMe_y s0) (iset (gMe_z s0) v2 (120 - ((gMe_x s0) v2))) (gMe_corners s0) (gMe_named s0) (gMe_triangles s0)))))) ∧ (x1 = 0 → (P2 (v2 + 1) (mkMe (gMe_x s0) (iset (gMe_y s0) v2 (120 - ((gMe_z s0) v2))) (iset (gMe_z s0) v2 ((gMe_y s0) v2)) (gMe_corners s0) (gMe_named s0) (gMe_triangles s0)))))))))) → P2 v2 s0) →
  P2 0 s0

/-- LayerSlicer.turn(II)Z -/
def wp_LS_turn (x1 : Int) (x2 : Int) (s0 : s_LS) (Q : Int → s_LS → Prop) : Prop :=
  ∀ (P22 : Int → s_LS → Prop),
  (∀ (v3 : Int) (s0 : s_LS), (rg v3 ∧ rg x2 ∧ ((x2 ≤ v3 → (Q 1 s0)) ∧ (v3 < x2 → (wp_Me_turnQuarter x1 (gLS_mesh s0) (fun u5 => P22 (v3 + 1) (mkLS u5 (gLS_mender s0) (gLS_slices s0) (gLS_sorter s0) (gLS_router s0) (gLS_printer s0))))))) → P22 v3 s0) →
  rg x1 ∧ ((x1 < 0 → (Q 0 s0)) ∧ (0 ≤ x1 → ((2 < x1 → (Q 0 s0)) ∧ (x1 ≤ 2 → (rg x2 ∧ ((x2 < 0 → (Q 0 s0)) ∧ (0 ≤ x2 → ((x2 ≤ 3 → (P22 0 s0)) ∧ (3 < x2 → (Q 0 s0))))))))))

/-- LayerSlicer$Mesh.copyFrom(LLayerSlicer$Mesh;)V -/
def wp_Me_copyFrom (s0 : s_Me) (s1 : s_Me) (Q : s_Me → Prop) : Prop :=
  (0 ≤ (gMe_corners s1) ∧ (gMe_corners s1) ≤ 80 ∧ (gMe_corners s1) ≤ 80) ∧ ((0 ≤ (gMe_corners s1) ∧ (gMe_corners s1) ≤ 80 ∧ (gMe_corners s1) ≤ 80) ∧ ((0 ≤ (gMe_corners s1) ∧ (gMe_corners s1) ≤ 80 ∧ (gMe_corners s1) ≤ 80) ∧ ((0 ≤ (3 * (gMe_triangles s1)) ∧ (3 * (gMe_triangles s1)) ≤ 360 ∧ (3 * (gMe_triangles s1)) ≤ 360) ∧ (Q (mkMe (icpy (gMe_x s1) (gMe_x s0) (gMe_corners s1)) (icpy (gMe_y s1) (gMe_y s0) (gMe_corners s1)) (icpy (gMe_z s1) (gMe_z s0) (gMe_corners s1)) (gMe_corners s1) (icpy (gMe_named s1) (gMe_named s0) (3 * (gMe_triangles s1))) (gMe_triangles s1))))))

/-- LayerSlicer$Mesh.greatestZ()I -/
def wp_Me_greatestZ (s0 : s_Me) (Q : Int → Prop) : Prop :=
  ∀ (P4 : Int → Int → Prop),
  (∀ (v1 : Int) (v2 : Int), (rg v2 ∧ rg (3 * (gMe_triangles s0)) ∧ (((3 * (gMe_triangles s0)) ≤ v2 → (Q v1)) ∧ (v2 < (3 * (gMe_triangles s0)) → ((0 ≤ v2 ∧ v2 < 360) ∧ ((0 ≤ ((gMe_named s0) v2) ∧ ((gMe_named s0) v2) < 80) ∧ (rg v1 ∧ rg ((gMe_z s0) ((gMe_named s0) v2)) ∧ (P4 (max v1 ((gMe_z s0) ((gMe_named s0) v2))) (v2 + 1)))))))) → P4 v1 v2) →
  P4 0 0

/-- LayerSlicer$Slices.doubleHeight(I)I -/
def wp_Sl_doubleHeight (x1 : Int) (s0 : s_Sl) (Q : Int → Prop) : Prop :=
  Q (((2 * x1) + 1) * (gSl_thickness s0))

/-- LayerSlicer$Slices.hasLayer(I)Z -/
def wp_Sl_hasLayer (x1 : Int) (s0 : s_Sl) (Q : Int → Prop) : Prop :=
  rg x1 ∧ ((x1 < 0 → (Q 0)) ∧ (0 ≤ x1 → (rg (gSl_count s0) ∧ (((gSl_count s0) ≤ x1 → (Q 0)) ∧ (x1 < (gSl_count s0) → (Q 1))))))

/-- LayerSlicer$Slices.isBelow(II)Z -/
def wp_Sl_isBelow (x1 : Int) (x2 : Int) (s0 : s_Sl) (Q : Int → Prop) : Prop :=
  (0 ≤ x1 ∧ x1 < 80) ∧ (wp_Sl_doubleHeight x2 s0 (fun r2 => rg (2 * ((gMe_z (gSl_mesh s0)) x1)) ∧ rg r2 ∧ ((r2 ≤ (2 * ((gMe_z (gSl_mesh s0)) x1)) → (Q 0)) ∧ ((2 * ((gMe_z (gSl_mesh s0)) x1)) < r2 → (Q 1)))))

/-- LayerSlicer$Slices.writeEnd(IIII)V -/
def wp_Sl_writeEnd (x1 : Int) (x2 : Int) (x3 : Int) (x4 : Int) (s0 : s_Sl) (Q : s_Sl → Prop) : Prop :=
  (0 ≤ x4 ∧ x4 < 80) ∧ ((0 ≤ x3 ∧ x3 < 80) ∧ (wp_Sl_doubleHeight x2 s0 (fun r3 => (0 ≤ (3 * x1) ∧ (3 * x1) < 6) ∧ ((0 ≤ ((3 * x1) + 1) ∧ ((3 * x1) + 1) < 6) ∧ ((0 ≤ ((3 * x1) + 2) ∧ ((3 * x1) + 2) < 6) ∧ (Q (mkSl (gSl_count s0) (iset (iset (iset (gSl_ends s0) (3 * x1) (2 * (((gMe_z (gSl_mesh s0)) x4) - ((gMe_z (gSl_mesh s0)) x3)))) ((3 * x1) + 1) ((((gMe_x (gSl_mesh s0)) x3) * (2 * (((gMe_z (gSl_mesh s0)) x4) - ((gMe_z (gSl_mesh s0)) x3)))) + ((((gMe_x (gSl_mesh s0)) x4) - ((gMe_x (gSl_mesh s0)) x3)) * (r3 - (2 * ((gMe_z (gSl_mesh s0)) x3)))))) ((3 * x1) + 2) ((((gMe_y (gSl_mesh s0)) x3) * (2 * (((gMe_z (gSl_mesh s0)) x4) - ((gMe_z (gSl_mesh s0)) x3)))) + ((((gMe_y (gSl_mesh s0)) x4) - ((gMe_y (gSl_mesh s0)) x3)) * (r3 - (2 * ((gMe_z (gSl_mesh s0)) x3)))))) (gSl_thickness s0) (gSl_mesh s0) (gSl_solidRows s0))))))))

/-- LayerSlicer$Slices.findEnds(II)Z -/
def wp_Sl_findEnds (x1 : Int) (x2 : Int) (s0 : s_Sl) (Q : Int → s_Sl → Prop) : Prop :=
  ∀ (P30 : Int → Int → s_Sl → Prop),
  ∀ (P114 : Int → Int → Int → Int → Int → Int → Int → s_Sl → Prop),
  (∀ (v3 : Int) (v4 : Int) (s0 : s_Sl), (rg v4 ∧ ((3 ≤ v4 → (rg v3 ∧ ((v3 ≠ 2 → (Q 0 s0)) ∧ (v3 = 2 → (Q 1 s0))))) ∧ (v4 < 3 → (rg v3 ∧ ((2 ≤ v3 → ((v3 ≠ 2 → (Q 0 s0)) ∧ (v3 = 2 → (Q 1 s0)))) ∧ (v3 < 2 → ((0 ≤ ((3 * x2) + v4) ∧ ((3 * x2) + v4) < 360) ∧ (rg (v4 + 1) ∧ ((0 ≤ ((3 * x2) + (Int.tmod (v4 + 1) 3)) ∧ ((3 * x2) + (Int.tmod (v4 + 1) 3)) < 360) ∧ (wp_Sl_isBelow ((gMe_named (gSl_mesh s0)) ((3 * x2) + v4)) x1 s0 (fun r11 => wp_Sl_isBelow ((gMe_named (gSl_mesh s0)) ((3 * x2) + (Int.tmod (v4 + 1) 3))) x1 s0 (fun r12 => rg r11 ∧ rg r12 ∧ ((r11 = r12 → (P30 v3 (v4 + 1) s0)) ∧ (r11 ≠ r12 → (wp_Sl_isBelow ((gMe_named (gSl_mesh s0)) ((3 * x2) + v4)) x1 s0 (fun r15 => rg r15 ∧ ((r15 = 0 → (P114 v3 v4 ((gMe_named (gSl_mesh s0)) ((3 * x2) + v4)) ((gMe_named (gSl_mesh s0)) ((3 * x2) + (Int.tmod (v4 + 1) 3))) ((gMe_named (gSl_mesh s0)) ((3 * x2) + (Int.tmod (v4 + 1) 3))) x1 v3 s0)) ∧ (r15 ≠ 0 → (P114 v3 v4 ((gMe_named (gSl_mesh s0)) ((3 * x2) + v4)) ((gMe_named (gSl_mesh s0)) ((3 * x2) + (Int.tmod (v4 + 1) 3))) ((gMe_named (gSl_mesh s0)) ((3 * x2) + v4)) x1 v3 s0))))))))))))))))))) → P30 v3 v4 s0) →
  (∀ (v3 : Int) (v4 : Int) (v5 : Int) (v6 : Int) (t0 : Int) (t1 : Int) (t2 : Int) (s0 : s_Sl), (wp_Sl_isBelow v5 x1 s0 (fun r17 => rg r17 ∧ ((r17 = 0 → (wp_Sl_writeEnd t2 t1 t0 v5 s0 (fun u19 => P30 (v3 + 1) (v4 + 1) u19))) ∧ (r17 ≠ 0 → (wp_Sl_writeEnd t2 t1 t0 v6 s0 (fun u20 => P30 (v3 + 1) (v4 + 1) u20)))))) → P114 v3 v4 v5 v6 t0 t1 t2 s0) →
  wp_Sl_hasLayer x1 s0 (fun r1 => rg r1 ∧ ((r1 = 0 → (Q 0 s0)) ∧ (r1 ≠ 0 → (rg x2 ∧ ((x2 < 0 → (Q 0 s0)) ∧ (0 ≤ x2 → (rg (gMe_triangles (gSl_mesh s0)) ∧ ((x2 < (gMe_triangles (gSl_mesh s0)) → (P30 0 0 s0)) ∧ ((gMe_triangles (gSl_mesh s0)) ≤ x2 → (Q 0 s0))))))))))

/-- LayerSlicer$Slices.doubleCentre(I)I -/
def wp_Sl_doubleCentre (x0 : Int) (Q : Int → Prop) : Prop :=
  Q ((20 * x0) + 9)

/-- LayerSlicer$Slices.cellsRightOfLine(IIJJ)I -/
def wp_Sl_cellsRightOfLine (x1 : Int) (x2 : Int) (x3 : Int) (x5 : Int) (s0 : s_Sl) (Q : Int → Prop) : Prop :=
  (0 ≤ (x1 + 1) ∧ (x1 + 1) < 6) ∧ (rg ((gSl_ends s0) (x1 + 1)) ∧ ((0 ≤ (x2 + 1) ∧ (x2 + 1) < 6) ∧ (rg ((gSl_ends s0) (x2 + 1)) ∧ ((0 ≤ x1 ∧ x1 < 6) ∧ (rg ((gSl_ends s0) x1) ∧ ((0 ≤ x2 ∧ x2 < 6) ∧ (rg ((gSl_ends s0) x2) ∧ (rgl ((((gSl_ends s0) x1) * x5) + (((gSl_ends s0) x2) * x3)) ∧ ((0 < (cmpZ ((((gSl_ends s0) x1) * x5) + (((gSl_ends s0) x2) * x3)) 0) → (rgl ((2 * ((((gSl_ends s0) (x1 + 1)) * x5) + (((gSl_ends s0) (x2 + 1)) * x3))) + (11 * ((((gSl_ends s0) x1) * x5) + (((gSl_ends s0) x2) * x3)))) ∧ rgl (20 * ((((gSl_ends s0) x1) * x5) + (((gSl_ends s0) x2) * x3))) ∧ 0 < (20 * ((((gSl_ends s0) x1) * x5) + (((gSl_ends s0) x2) * x3))) ∧ ((0 ≤ (Int.tdiv ((2 * ((((gSl_ends s0) (x1 + 1)) * x5) + (((gSl_ends s0) (x2 + 1)) * x3))) + (11 * ((((gSl_ends s0) x1) * x5) + (((gSl_ends s0) x2) * x3)))) (20 * ((((gSl_ends s0) x1) * x5) + (((gSl_ends s0) x2) * x3)))) ∧ (Int.tdiv ((2 * ((((gSl_ends s0) (x1 + 1)) * x5) + (((gSl_ends s0) (x2 + 1)) * x3))) + (11 * ((((gSl_ends s0) x1) * x5) + (((gSl_ends s0) x2) * x3)))) (20 * ((((gSl_ends s0) x1) * x5) + (((gSl_ends s0) x2) * x3)))) < 32) ∧ (Q (iand 4095 (4095 * 2 ^ Int.toNat (Int.tdiv ((2 * ((((gSl_ends s0) (x1 + 1)) * x5) + (((gSl_ends s0) (x2 + 1)) * x3))) + (11 * ((((gSl_ends s0) x1) * x5) + (((gSl_ends s0) x2) * x3)))) (20 * ((((gSl_ends s0) x1) * x5) + (((gSl_ends s0) x2) * x3)))))))))) ∧ ((cmpZ ((((gSl_ends s0) x1) * x5) + (((gSl_ends s0) x2) * x3)) 0) ≤ 0 → (Q 0)))))))))))

/-- LayerSlicer$Slices.cellsRightOfCut(I)I -/
def wp_Sl_cellsRightOfCut (x1 : Int) (s0 : s_Sl) (Q : Int → Prop) : Prop :=
  ∀ (P61 : Int → Int → Int → Int → Prop),
  (∀ (v3 : Int) (v4 : Int) (t0 : Int) (t1 : Int), (rg t1 ∧ rg t0 ∧ ((t1 ≠ t0 → (rg v3 ∧ ((v3 ≤ 0 → (rg (-v3) ∧ (rg v4 ∧ (wp_Sl_cellsRightOfLine 0 3 (-v3) v4 s0 (fun r10 => Q r10))))) ∧ (0 < v3 → (rg (-v4) ∧ (wp_Sl_cellsRightOfLine 3 0 (-v4) v3 s0 (fun r12 => Q r12))))))) ∧ (t1 = t0 → (Q 0)))) → P61 v3 v4 t0 t1) →
  wp_Sl_doubleCentre x1 (fun r1 => rg ((2 * ((gSl_ends s0) 2)) - (r1 * ((gSl_ends s0) 0))) ∧ ((((2 * ((gSl_ends s0) 2)) - (r1 * ((gSl_ends s0) 0))) ≤ 0 → (rg ((2 * ((gSl_ends s0) 5)) - (r1 * ((gSl_ends s0) 3))) ∧ ((((2 * ((gSl_ends s0) 5)) - (r1 * ((gSl_ends s0) 3))) ≤ 0 → (P61 ((2 * ((gSl_ends s0) 2)) - (r1 * ((gSl_ends s0) 0))) ((2 * ((gSl_ends s0) 5)) - (r1 * ((gSl_ends s0) 3))) 0 0)) ∧ (0 < ((2 * ((gSl_ends s0) 5)) - (r1 * ((gSl_ends s0) 3))) → (P61 ((2 * ((gSl_ends s0) 2)) - (r1 * ((gSl_ends s0) 0))) ((2 * ((gSl_ends s0) 5)) - (r1 * ((gSl_ends s0) 3))) 1 0))))) ∧ (0 < ((2 * ((gSl_ends s0) 2)) - (r1 * ((gSl_ends s0) 0))) → (rg ((2 * ((gSl_ends s0) 5)) - (r1 * ((gSl_ends s0) 3))) ∧ ((((2 * ((gSl_ends s0) 5)) - (r1 * ((gSl_ends s0) 3))) ≤ 0 → (P61 ((2 * ((gSl_ends s0) 2)) - (r1 * ((gSl_ends s0) 0))) ((2 * ((gSl_ends s0) 5)) - (r1 * ((gSl_ends s0) 3))) 0 1)) ∧ (0 < ((2 * ((gSl_ends s0) 5)) - (r1 * ((gSl_ends s0) 3))) → (P61 ((2 * ((gSl_ends s0) 2)) - (r1 * ((gSl_ends s0) 0))) ((2 * ((gSl_ends s0) 5)) - (r1 * ((gSl_ends s0) 3))) 1 1)))))))

/-- LayerSlicer$Slices.fillLayer(I)V -/
def wp_Sl_fillLayer (x1 : Int) (s0 : s_Sl) (Q : s_Sl → Prop) : Prop :=
  ∀ (P2 : Int → s_Sl → Prop),
  ∀ (P28 : Int → s_Sl → Prop),
  ∀ (P50 : Int → Int → s_Sl → Prop),
  (∀ (v2 : Int) (s0 : s_Sl), (rg v2 ∧ ((12 ≤ v2 → (P28 0 s0)) ∧ (v2 < 12 → ((0 ≤ ((x1 * 12) + v2) ∧ ((x1 * 12) + v2) < 288) ∧ (P2 (v2 + 1) (mkSl (gSl_count s0) (gSl_ends s0) (gSl_thickness s0) (gSl_mesh s0) (iset (gSl_solidRows s0) ((x1 * 12) + v2) 0))))))) → P2 v2 s0) →
  (∀ (v2 : Int) (s0 : s_Sl), (rg v2 ∧ rg (gMe_triangles (gSl_mesh s0)) ∧ (((gMe_triangles (gSl_mesh s0)) ≤ v2 → (Q s0)) ∧ (v2 < (gMe_triangles (gSl_mesh s0)) → (wp_Sl_findEnds x1 v2 s0 (fun r5 u6 => rg r5 ∧ ((r5 = 0 → (P28 (v2 + 1) u6)) ∧ (r5 ≠ 0 → (P50 v2 0 u6)))))))) → P28 v2 s0) →
  (∀ (v2 : Int) (v3 : Int) (s0 : s_Sl), (rg v3 ∧ ((12 ≤ v3 → (P28 (v2 + 1) s0)) ∧ (v3 < 12 → ((0 ≤ ((x1 * 12) + v3) ∧ ((x1 * 12) + v3) < 288) ∧ (wp_Sl_cellsRightOfCut v3 s0 (fun r10 => P50 v2 (v3 + 1) (mkSl (gSl_count s0) (gSl_ends s0) (gSl_thickness s0) (gSl_mesh s0) (iset (gSl_solidRows s0) ((x1 * 12) + v3) (ixor ((gSl_solidRows s0) ((x1 * 12) + v3)) r10))))))))) → P50 v2 v3 s0) →
  P2 0 s0

/-- LayerSlicer$Slices.cutAnew(LLayerSlicer$Mesh;I)V -/
def wp_Sl_cutAnew (x2 : Int) (s0 : s_Sl) (s1 : s_Me) (Q : s_Sl → Prop) : Prop :=
  ∀ (P31 : Int → Int → s_Sl → Prop),
  (∀ (v3 : Int) (v4 : Int) (s0 : s_Sl), (rg v4 ∧ ((24 ≤ v4 → (Q s0)) ∧ (v4 < 24 → (wp_Sl_doubleHeight v4 s0 (fun r4 => rg r4 ∧ rg v3 ∧ ((v3 ≤ r4 → (Q s0)) ∧ (r4 < v3 → (wp_Sl_fillLayer v4 (mkSl ((gSl_count s0) + 1) (gSl_ends s0) (gSl_thickness s0) (gSl_mesh s0) (gSl_solidRows s0)) (fun u7 => P31 v3 (v4 + 1) u7))))))))) → P31 v3 v4 s0) →
  wp_Me_copyFrom (gSl_mesh s0) s1 (fun u1 => wp_Me_greatestZ u1 (fun r2 => P31 (2 * r2) 0 (mkSl 0 (gSl_ends s0) x2 u1 (gSl_solidRows s0))))

/-- LayerSlicer$Slices.hasRow(II)Z -/
def wp_Sl_hasRow (x1 : Int) (x2 : Int) (s0 : s_Sl) (Q : Int → Prop) : Prop :=
  wp_Sl_hasLayer x1 s0 (fun r1 => rg r1 ∧ ((r1 = 0 → (Q 0)) ∧ (r1 ≠ 0 → (rg x2 ∧ ((x2 < 0 → (Q 0)) ∧ (0 ≤ x2 → ((12 ≤ x2 → (Q 0)) ∧ (x2 < 12 → (Q 1)))))))))

/-- LayerSlicer$Slices.solidRow(II)I -/
def wp_Sl_solidRow (x1 : Int) (x2 : Int) (s0 : s_Sl) (Q : Int → Prop) : Prop :=
  wp_Sl_hasRow x1 x2 s0 (fun r1 => rg r1 ∧ ((r1 = 0 → (Q 0)) ∧ (r1 ≠ 0 → ((0 ≤ ((x1 * 12) + x2) ∧ ((x1 * 12) + x2) < 288) ∧ (Q ((gSl_solidRows s0) ((x1 * 12) + x2)))))))

/-- LayerSlicer$Slices.rowAmongSolid(III)I -/
def wp_Sl_rowAmongSolid (x1 : Int) (x2 : Int) (x3 : Int) (s0 : s_Sl) (Q : Int → Prop) : Prop :=
  ∀ (P9 : Int → Int → Prop),
  ∀ (P29 : Int → Int → Int → Int → Prop),
  (∀ (v4 : Int) (v5 : Int), (rg v5 ∧ rg x3 ∧ ((x3 < v5 → (Q v4)) ∧ (v5 ≤ x3 → (wp_Sl_solidRow x1 (x2 + v5) s0 (fun r3 => P29 v4 v5 r3 0))))) → P9 v4 v5) →
  (∀ (v4 : Int) (v5 : Int) (v6 : Int) (v7 : Int), (rg v7 ∧ rg x3 ∧ ((x3 < v7 → (P9 v4 (v5 + 1))) ∧ (v7 ≤ x3 → ((0 ≤ v7 ∧ v7 < 32) ∧ rg v6 ∧ ((0 ≤ v7 ∧ v7 < 32) ∧ (P29 (iand v4 (iand (v6 / 2 ^ Int.toNat v7) (v6 * 2 ^ Int.toNat v7))) v5 v6 (v7 + 1))))))) → P29 v4 v5 v6 v7) →
  P9 4095 (-x3)

/-- LayerSlicer$Sorter.rowBetweenSolid(LLayerSlicer$Slices;II)I -/
def wp_So_rowBetweenSolid (x2 : Int) (x3 : Int) (s0 : s_So) (s1 : s_Sl) (Q : Int → Prop) : Prop :=
  ∀ (P8 : Int → Int → Prop),
  (∀ (v4 : Int) (v5 : Int), (rg v5 ∧ rg (gSo_skin s0) ∧ (((gSo_skin s0) < v5 → (Q v4)) ∧ (v5 ≤ (gSo_skin s0) → (wp_Sl_solidRow (x2 - v5) x3 s1 (fun r3 => wp_Sl_solidRow (x2 + v5) x3 s1 (fun r4 => P8 (iand v4 (iand r3 r4)) (v5 + 1))))))) → P8 v4 v5) →
  P8 4095 1

/-- LayerSlicer$Sorter.lineCells(II)I -/
def wp_So_lineCells (x1 : Int) (x2 : Int) (s0 : s_So) (Q : Int → Prop) : Prop :=
  ∀ (P38 : Int → Int → Prop),
  (∀ (v3 : Int) (v4 : Int), (rg v4 ∧ ((12 ≤ v4 → (Q v3)) ∧ (v4 < 12 → ((0 ≤ v4 ∧ v4 < 32) ∧ (P38 (ior v3 (1 * 2 ^ Int.toNat v4)) (v4 + (gSo_period s0))))))) → P38 v3 v4) →
  rg (gSo_period s0) ∧ (((gSo_period s0) ≠ 0 → (rg x1 ∧ (rg (Int.tmod x1 2) ∧ (((Int.tmod x1 2) ≠ 1 → (P38 0 0)) ∧ ((Int.tmod x1 2) = 1 → (rg x2 ∧ 0 < (gSo_period s0) ∧ (rg (Int.tmod x2 (gSo_period s0)) ∧ (((Int.tmod x2 (gSo_period s0)) ≠ 0 → (Q 0)) ∧ ((Int.tmod x2 (gSo_period s0)) = 0 → (Q 4095)))))))))) ∧ ((gSo_period s0) = 0 → (Q 0)))

/-- LayerSlicer$Slices.rowNearSolid(III)I -/
def wp_Sl_rowNearSolid (x1 : Int) (x2 : Int) (x3 : Int) (s0 : s_Sl) (Q : Int → Prop) : Prop :=
  ∀ (P7 : Int → Int → Prop),
  ∀ (P27 : Int → Int → Int → Int → Prop),
  (∀ (v4 : Int) (v5 : Int), (rg v5 ∧ rg x3 ∧ ((x3 < v5 → (Q (iand v4 4095))) ∧ (v5 ≤ x3 → (wp_Sl_solidRow x1 (x2 + v5) s0 (fun r3 => P27 v4 v5 r3 0))))) → P7 v4 v5) →
  (∀ (v4 : Int) (v5 : Int) (v6 : Int) (v7 : Int), (rg v7 ∧ rg x3 ∧ ((x3 < v7 → (P7 v4 (v5 + 1))) ∧ (v7 ≤ x3 → ((0 ≤ v7 ∧ v7 < 32) ∧ rg v6 ∧ ((0 ≤ v7 ∧ v7 < 32) ∧ (P27 (ior v4 (ior (v6 / 2 ^ Int.toNat v7) (v6 * 2 ^ Int.toNat v7))) v5 v6 (v7 + 1))))))) → P27 v4 v5 v6 v7) →
  P7 0 (-x3)

/-- LayerSlicer$Sorter.sortSolid(LLayerSlicer$Slices;II)V -/
def wp_So_sortSolid (x2 : Int) (x3 : Int) (s0 : s_So) (s1 : s_Sl) (Q : s_So → Prop) : Prop :=
  wp_Sl_solidRow x2 x3 s1 (fun r1 => wp_Sl_rowAmongSolid x2 x3 (gSo_shell s0) s1 (fun r2 => wp_So_rowBetweenSolid x2 x3 s0 s1 (fun r3 => wp_So_lineCells x2 x3 s0 (fun r4 => (0 ≤ ((x2 * 12) + x3) ∧ ((x2 * 12) + x3) < 288) ∧ (rg x2 ∧ ((x2 ≤ 0 → (Q (mkSo (gSo_rowsOfKind0 s0) (iset (gSo_rowsOfKind1 s0) ((x2 * 12) + x3) (iand r1 (-1 - (iand r1 r2)))) (iset (gSo_rowsOfKind2 s0) ((x2 * 12) + x3) (iand (iand r1 r2) (-1 - (iand (iand r1 r2) r3)))) (iset (gSo_rowsOfKind3 s0) ((x2 * 12) + x3) (iand (iand (iand r1 r2) r3) r4)) (iset (gSo_rowsOfKind4 s0) ((x2 * 12) + x3) (iand (iand (iand r1 r2) r3) (-1 - r4))) (gSo_rowsOfKind5 s0) (gSo_rowsOfKind6 s0) (iset (gSo_hanging s0) ((x2 * 12) + x3) 0) (gSo_shell s0) (gSo_skin s0) (gSo_period s0) (gSo_reach s0) (gSo_gap s0)))) ∧ (0 < x2 → (wp_Sl_rowNearSolid (x2 - 1) x3 (gSo_reach s0) s1 (fun r7 => Q (mkSo (gSo_rowsOfKind0 s0) (iset (gSo_rowsOfKind1 s0) ((x2 * 12) + x3) (iand r1 (-1 - (iand r1 r2)))) (iset (gSo_rowsOfKind2 s0) ((x2 * 12) + x3) (iand (iand r1 r2) (-1 - (iand (iand r1 r2) r3)))) (iset (gSo_rowsOfKind3 s0) ((x2 * 12) + x3) (iand (iand (iand r1 r2) r3) r4)) (iset (gSo_rowsOfKind4 s0) ((x2 * 12) + x3) (iand (iand (iand r1 r2) r3) (-1 - r4))) (gSo_rowsOfKind5 s0) (gSo_rowsOfKind6 s0) (iset (gSo_hanging s0) ((x2 * 12) + x3) (iand r1 (-1 - r7))) (gSo_shell s0) (gSo_skin s0) (gSo_period s0) (gSo_reach s0) (gSo_gap s0)))))))))))

/-- LayerSlicer$Sorter.sortOpen(LLayerSlicer$Slices;III)V -/
def wp_So_sortOpen (x2 : Int) (x3 : Int) (x4 : Int) (s0 : s_So) (s1 : s_Sl) (Q : s_So → Prop) : Prop :=
  wp_Sl_solidRow x2 x3 s1 (fun r1 => wp_Sl_rowNearSolid x2 x3 (gSo_gap s0) s1 (fun r2 => (0 ≤ ((x2 * 12) + x3) ∧ ((x2 * 12) + x3) < 288) ∧ (Q (mkSo (iset (gSo_rowsOfKind0 s0) ((x2 * 12) + x3) (iand (iand 4095 (-1 - r1)) (-1 - (iand (iand 4095 (-1 - r1)) x4)))) (gSo_rowsOfKind1 s0) (gSo_rowsOfKind2 s0) (gSo_rowsOfKind3 s0) (gSo_rowsOfKind4 s0) (iset (gSo_rowsOfKind5 s0) ((x2 * 12) + x3) (iand (iand (iand 4095 (-1 - r1)) x4) (-1 - r2))) (iset (gSo_rowsOfKind6 s0) ((x2 * 12) + x3) (iand (iand (iand 4095 (-1 - r1)) x4) r2)) (gSo_hanging s0) (gSo_shell s0) (gSo_skin s0) (gSo_period s0) (gSo_reach s0) (gSo_gap s0)))))

/-- LayerSlicer$Sorter.sortCells(LLayerSlicer$Slices;)V -/
def wp_So_sortCells (s0 : s_So) (s1 : s_Sl) (Q : s_So → Prop) : Prop :=
  ∀ (P2 : Int → s_So → Prop),
  ∀ (P18 : Int → Int → Int → s_So → Prop),
  (∀ (v2 : Int) (s0 : s_So), (rg v2 ∧ ((12 ≤ v2 → (Q s0)) ∧ (v2 < 12 → (P18 v2 0 ((gSl_count s1) - 1) s0)))) → P2 v2 s0) →
  (∀ (v2 : Int) (v3 : Int) (v4 : Int) (s0 : s_So), (rg v4 ∧ ((v4 < 0 → (P2 (v2 + 1) s0)) ∧ (0 ≤ v4 → (wp_So_sortSolid v4 v2 s0 s1 (fun u3 => wp_So_sortOpen v4 v2 v3 u3 s1 (fun u4 => wp_Sl_solidRow v4 v2 s1 (fun r5 => (0 ≤ ((v4 * 12) + v2) ∧ ((v4 * 12) + v2) < 288) ∧ (P18 v2 (ior (iand v3 (-1 - r5)) ((gSo_hanging u4) ((v4 * 12) + v2))) (v4 + (-1)) u4)))))))) → P18 v2 v3 v4 s0) →
  P2 0 s0

/-- LayerSlicer$Printer.clear()V -/
def wp_Pr_clear (s0 : s_Pr) (Q : s_Pr → Prop) : Prop :=
  wp_Arr_fill 0 3456 (gPr_beads s0) (fun u1 => Q (mkPr (gPr_program s0) 0 u1 0 (-1)))

/-- LayerSlicer.layers(I)I -/
def wp_LS_layers (x1 : Int) (s0 : s_LS) (Q : Int → s_LS → Prop) : Prop :=
  rg x1 ∧ ((x1 < 1 → (Q (-1) s0)) ∧ (1 ≤ x1 → ((41 < x1 → (Q (-1) s0)) ∧ (x1 ≤ 41 → (rg (Int.tmod x1 2) ∧ (((Int.tmod x1 2) ≠ 0 → (wp_Sl_cutAnew x1 (gLS_slices s0) (gLS_mesh s0) (fun u3 => wp_So_sortCells (gLS_sorter s0) u3 (fun u4 => wp_Pr_clear (gLS_printer s0) (fun u5 => Q (gSl_count u3) (mkLS (gLS_mesh s0) (gLS_mender s0) u3 u4 (gLS_router s0) u5)))))) ∧ ((Int.tmod x1 2) = 0 → (Q (-1) s0))))))))

/-- LayerSlicer.cut(IIII)I -/
def wp_LS_cut (x1 : Int) (x2 : Int) (x3 : Int) (x4 : Int) (s0 : s_LS) (Q : Int → s_LS → Prop) : Prop :=
  rg x3 ∧ ((x3 < 0 → False) ∧ (0 ≤ x3 → ((1 < x3 → False) ∧ (x3 ≤ 1 → (rg x4 ∧ ((x4 < 0 → False) ∧ (0 ≤ x4 → ((2 < x4 → False) ∧ (x4 ≤ 2 → (wp_Sl_findEnds x1 x2 (gLS_slices s0) (fun r3 u4 => rg r3 ∧ ((r3 ≠ 0 → ((0 ≤ ((3 * x3) + x4) ∧ ((3 * x3) + x4) < 6) ∧ (Q ((gSl_ends u4) ((3 * x3) + x4)) (mkLS (gLS_mesh s0) (gLS_mender s0) u4 (gLS_sorter s0) (gLS_router s0) (gLS_printer s0))))) ∧ (r3 = 0 → False)))))))))))))

/-- LayerSlicer.solid(III)I -/
def wp_LS_solid (x1 : Int) (x2 : Int) (x3 : Int) (s0 : s_LS) (Q : Int → Prop) : Prop :=
  rg x2 ∧ ((x2 < 0 → (Q 0)) ∧ (0 ≤ x2 → ((12 ≤ x2 → (Q 0)) ∧ (x2 < 12 → (wp_Sl_solidRow x1 x3 (gLS_slices s0) (fun r2 => (0 ≤ x2 ∧ x2 < 32) ∧ rg r2 ∧ (Q (iand (r2 / 2 ^ Int.toNat x2) 1))))))))

/-- LayerSlicer$Sorter.upTo(II)Z -/
def wp_So_upTo (x0 : Int) (x1 : Int) (Q : Int → Prop) : Prop :=
  rg x1 ∧ ((x1 < 0 → (Q 0)) ∧ (0 ≤ x1 → (rg x0 ∧ ((x0 < x1 → (Q 0)) ∧ (x1 ≤ x0 → (Q 1))))))

/-- LayerSlicer$Sorter.accept(IIIII)Z -/
def wp_So_accept (x1 : Int) (x2 : Int) (x3 : Int) (x4 : Int) (x5 : Int) (s0 : s_So) (Q : Int → s_So → Prop) : Prop :=
  wp_So_upTo 3 x1 (fun r1 => rg r1 ∧ ((r1 = 0 → (Q 0 s0)) ∧ (r1 ≠ 0 → (wp_So_upTo 3 x2 (fun r3 => rg r3 ∧ ((r3 = 0 → (Q 0 s0)) ∧ (r3 ≠ 0 → (wp_So_upTo 6 x3 (fun r5 => rg r5 ∧ ((r5 = 0 → (Q 0 s0)) ∧ (r5 ≠ 0 → (wp_So_upTo 3 x4 (fun r7 => rg r7 ∧ ((r7 = 0 → (Q 0 s0)) ∧ (r7 ≠ 0 → (wp_So_upTo 2 x5 (fun r9 => rg r9 ∧ ((r9 ≠ 0 → (Q 1 (mkSo (gSo_rowsOfKind0 s0) (gSo_rowsOfKind1 s0) (gSo_rowsOfKind2 s0) (gSo_rowsOfKind3 s0) (gSo_rowsOfKind4 s0) (gSo_rowsOfKind5 s0) (gSo_rowsOfKind6 s0) (gSo_hanging s0) x1 x2 x3 x4 x5))) ∧ (r9 = 0 → (Q 0 s0))))))))))))))))))))

/-- LayerSlicer.settings(IIIII)Z -/
def wp_LS_settings (x1 : Int) (x2 : Int) (x3 : Int) (x4 : Int) (x5 : Int) (s0 : s_LS) (Q : Int → s_LS → Prop) : Prop :=
  wp_So_accept x1 x2 x3 x4 x5 (gLS_sorter s0) (fun r1 u2 => rg r1 ∧ ((r1 ≠ 0 → (wp_So_sortCells u2 (gLS_slices s0) (fun u4 => Q 1 (mkLS (gLS_mesh s0) (gLS_mender s0) (gLS_slices s0) u4 (gLS_router s0) (gLS_printer s0))))) ∧ (r1 = 0 → (Q 0 (mkLS (gLS_mesh s0) (gLS_mender s0) (gLS_slices s0) u2 (gLS_router s0) (gLS_printer s0))))))

/-- LayerSlicer$Sorter.kindAt(III)I -/
def wp_So_kindAt (x1 : Int) (x2 : Int) (x3 : Int) (s0 : s_So) (Q : Int → Prop) : Prop :=
  ∀ (P3 : Int → Prop),
  (∀ (v4 : Int), (rg v4 ∧ ((7 ≤ v4 → (Q 0)) ∧ (v4 < 7 → ((0 ≤ v4 ∧ v4 < 7) ∧ ((0 ≤ ((x1 * 12) + x3) ∧ ((x1 * 12) + x3) < 288) ∧ ((0 ≤ x2 ∧ x2 < 32) ∧ rg ((rSo_rowsOfKind s0 v4) ((x1 * 12) + x3)) ∧ (((iand (((rSo_rowsOfKind s0 v4) ((x1 * 12) + x3)) / 2 ^ Int.toNat x2) 1) ≠ 1 → (P3 (v4 + 1))) ∧ ((iand (((rSo_rowsOfKind s0 v4) ((x1 * 12) + x3)) / 2 ^ Int.toNat x2) 1) = 1 → (Q v4))))))))) → P3 v4) →
  P3 1

/-- LayerSlicer.kind(III)I -/
def wp_LS_kind (x1 : Int) (x2 : Int) (x3 : Int) (s0 : s_LS) (Q : Int → Prop) : Prop :=
  wp_Sl_hasRow x1 x3 (gLS_slices s0) (fun r1 => rg r1 ∧ ((r1 = 0 → (Q 0)) ∧ (r1 ≠ 0 → (rg x2 ∧ ((x2 < 0 → (Q 0)) ∧ (0 ≤ x2 → ((12 ≤ x2 → (Q 0)) ∧ (x2 < 12 → (wp_So_kindAt x1 x2 x3 (gLS_sorter s0) (fun r4 => Q r4))))))))))

/-- LayerSlicer$Router.isPrinted(I)Z -/
def wp_Ro_isPrinted (x0 : Int) (Q : Int → Prop) : Prop :=
  rg x0 ∧ ((x0 = 1 → (Q 1)) ∧ (x0 ≠ 1 → ((x0 = 2 → (Q 1)) ∧ (x0 ≠ 2 → ((x0 = 3 → (Q 1)) ∧ (x0 ≠ 3 → ((x0 ≠ 5 → (Q 0)) ∧ (x0 = 5 → (Q 1)))))))))

/-- LayerSlicer$Router.beginRun(IIII)V -/
def wp_Ro_beginRun (x1 : Int) (x2 : Int) (x3 : Int) (x4 : Int) (s0 : s_Ro) (Q : s_Ro → Prop) : Prop :=
  (0 ≤ (4 * x1) ∧ (4 * x1) < 576) ∧ ((0 ≤ ((4 * x1) + 1) ∧ ((4 * x1) + 1) < 576) ∧ ((0 ≤ ((4 * x1) + 2) ∧ ((4 * x1) + 2) < 576) ∧ ((0 ≤ ((4 * x1) + 3) ∧ ((4 * x1) + 3) < 576) ∧ (Q (mkRo (iset (iset (iset (iset (gRo_runs s0) (4 * x1) x2) ((4 * x1) + 1) x3) ((4 * x1) + 2) x4) ((4 * x1) + 3) 0))))))

/-- LayerSlicer$Router.findRuns(LLayerSlicer$Sorter;I)I -/
def wp_Ro_findRuns (x2 : Int) (s0 : s_Ro) (s1 : s_So) (Q : Int → s_Ro → Prop) : Prop :=
  ∀ (P5 : Int → Int → s_Ro → Prop),
  ∀ (P18 : Int → Int → Int → Int → s_Ro → Prop),
  ∀ (P65 : Int → Int → Int → Int → s_Ro → Prop),
  (∀ (v3 : Int) (v4 : Int) (s0 : s_Ro), (rg v4 ∧ ((12 ≤ v4 → (Q v3 s0)) ∧ (v4 < 12 → (P18 v3 v4 0 0 s0)))) → P5 v3 v4 s0) →
  (∀ (v3 : Int) (v4 : Int) (v5 : Int) (v6 : Int) (s0 : s_Ro), (rg v6 ∧ ((12 ≤ v6 → (P5 v3 (v4 + 1) s0)) ∧ (v6 < 12 → (wp_So_kindAt x2 v6 v4 s1 (fun r3 => wp_Ro_isPrinted r3 (fun r4 => rg r4 ∧ ((r4 = 0 → (P18 v3 v4 r3 (v6 + 1) s0)) ∧ (r4 ≠ 0 → (rg r3 ∧ rg v5 ∧ ((r3 = v5 → (P65 v3 v4 v6 r3 s0)) ∧ (r3 ≠ v5 → (wp_Ro_beginRun v3 r3 v6 v4 s0 (fun u8 => P65 (v3 + 1) v4 v6 r3 u8))))))))))))) → P18 v3 v4 v5 v6 s0) →
  (∀ (v3 : Int) (v4 : Int) (v6 : Int) (v7 : Int) (s0 : s_Ro), ((0 ≤ ((4 * v3) - 1) ∧ ((4 * v3) - 1) < 576) ∧ (P18 v3 v4 v7 (v6 + 1) (mkRo (iset (gRo_runs s0) ((4 * v3) - 1) (((gRo_runs s0) ((4 * v3) - 1)) + 1))))) → P65 v3 v4 v6 v7 s0) →
  P5 0 0 s0

/-- LayerSlicer.paths(I)I -/
def wp_LS_paths (x1 : Int) (s0 : s_LS) (Q : Int → s_LS → Prop) : Prop :=
  wp_Sl_hasLayer x1 (gLS_slices s0) (fun r1 => rg r1 ∧ ((r1 = 0 → (Q 0 s0)) ∧ (r1 ≠ 0 → (wp_Ro_findRuns x1 (gLS_router s0) (gLS_sorter s0) (fun r3 u4 => Q r3 (mkLS (gLS_mesh s0) (gLS_mender s0) (gLS_slices s0) (gLS_sorter s0) u4 (gLS_printer s0)))))))

/-- LayerSlicer.path(III)I -/
def wp_LS_path (x1 : Int) (x2 : Int) (x3 : Int) (s0 : s_LS) (Q : Int → s_LS → Prop) : Prop :=
  rg x3 ∧ ((x3 < 0 → False) ∧ (0 ≤ x3 → ((3 < x3 → False) ∧ (x3 ≤ 3 → (rg x2 ∧ ((x2 < 0 → False) ∧ (0 ≤ x2 → (wp_Sl_hasLayer x1 (gLS_slices s0) (fun r3 => rg r3 ∧ ((r3 = 0 → False) ∧ (r3 ≠ 0 → (wp_Ro_findRuns x1 (gLS_router s0) (gLS_sorter s0) (fun r5 u6 => rg r5 ∧ ((x2 < r5 → ((0 ≤ ((4 * x2) + x3) ∧ ((4 * x2) + x3) < 576) ∧ (Q ((gRo_runs u6) ((4 * x2) + x3)) (mkLS (gLS_mesh s0) (gLS_mender s0) (gLS_slices s0) (gLS_sorter s0) u6 (gLS_printer s0))))) ∧ (r5 ≤ x2 → False)))))))))))))))

/-- LayerSlicer$Printer.addByte(I)V -/
def wp_Pr_addByte (x1 : Int) (s0 : s_Pr) (Q : s_Pr → Prop) : Prop :=
  (0 ≤ (gPr_length s0) ∧ (gPr_length s0) < 17304) ∧ (Q (mkPr (iset (gPr_program s0) (gPr_length s0) x1) ((gPr_length s0) + 1) (gPr_beads s0) (gPr_at s0) (gPr_layer s0)))

/-- LayerSlicer$Printer.addLayer(LLayerSlicer$Router;I)V -/
def wp_Pr_addLayer (x2 : Int) (s0 : s_Pr) (s1 : s_Ro) (Q : s_Pr → Prop) : Prop :=
  ∀ (P9 : Int → s_Pr → Prop),
  (∀ (v3 : Int) (s0 : s_Pr), (rg v3 ∧ rg x2 ∧ ((x2 ≤ v3 → (Q s0)) ∧ (v3 < x2 → (wp_Pr_addByte 201 s0 (fun u4 => (0 ≤ ((4 * v3) + 1) ∧ ((4 * v3) + 1) < 576) ∧ (wp_Pr_addByte ((gRo_runs s1) ((4 * v3) + 1)) u4 (fun u6 => (0 ≤ ((4 * v3) + 2) ∧ ((4 * v3) + 2) < 576) ∧ (wp_Pr_addByte ((gRo_runs s1) ((4 * v3) + 2)) u6 (fun u8 => (0 ≤ (4 * v3) ∧ (4 * v3) < 576) ∧ (wp_Pr_addByte ((gRo_runs s1) (4 * v3)) u8 (fun u10 => (0 ≤ ((4 * v3) + 3) ∧ ((4 * v3) + 3) < 576) ∧ (wp_Pr_addByte ((gRo_runs s1) ((4 * v3) + 3)) u10 (fun u12 => P9 (v3 + 1) u12))))))))))))) → P9 v3 s0) →
  wp_Pr_addByte 200 s0 (fun u1 => P9 0 u1)

/-- LayerSlicer.emit()I -/
def wp_LS_emit (s0 : s_LS) (Q : Int → s_LS → Prop) : Prop :=
  ∀ (P9 : Int → s_LS → Prop),
  (∀ (v1 : Int) (s0 : s_LS), (rg v1 ∧ rg (gSl_count (gLS_slices s0)) ∧ (((gSl_count (gLS_slices s0)) ≤ v1 → (Q (gPr_length (gLS_printer s0)) s0)) ∧ (v1 < (gSl_count (gLS_slices s0)) → (wp_Ro_findRuns v1 (gLS_router s0) (gLS_sorter s0) (fun r4 u5 => wp_Pr_addLayer r4 (gLS_printer s0) u5 (fun u6 => P9 (v1 + 1) (mkLS (gLS_mesh s0) (gLS_mender s0) (gLS_slices s0) (gLS_sorter s0) u5 u6))))))) → P9 v1 s0) →
  wp_Pr_clear (gLS_printer s0) (fun u1 => P9 0 (mkLS (gLS_mesh s0) (gLS_mender s0) (gLS_slices s0) (gLS_sorter s0) (gLS_router s0) u1))

/-- LayerSlicer.byteOf(I)I -/
def wp_LS_byteOf (x1 : Int) (s0 : s_LS) (Q : Int → Prop) : Prop :=
  rg x1 ∧ ((x1 < 0 → (Q (-1))) ∧ (0 ≤ x1 → (rg (gPr_length (gLS_printer s0)) ∧ (((gPr_length (gLS_printer s0)) ≤ x1 → (Q (-1))) ∧ (x1 < (gPr_length (gLS_printer s0)) → ((0 ≤ x1 ∧ x1 < 17304) ∧ (Q ((gPr_program (gLS_printer s0)) x1))))))))

/-- LayerSlicer.cellIndex(III)I -/
def wp_LS_cellIndex (x0 : Int) (x1 : Int) (x2 : Int) (Q : Int → Prop) : Prop :=
  Q ((((x0 * 12) + x2) * 12) + x1)

/-- LayerSlicer$Printer.layRun(III)V -/
def wp_Pr_layRun (x1 : Int) (x2 : Int) (x3 : Int) (s0 : s_Pr) (Q : s_Pr → Prop) : Prop :=
  ∀ (P3 : Int → s_Pr → Prop),
  (∀ (v4 : Int) (s0 : s_Pr), (rg v4 ∧ rg x3 ∧ ((x3 ≤ v4 → (Q s0)) ∧ (v4 < x3 → (wp_LS_cellIndex (gPr_layer s0) (x1 + v4) x2 (fun r3 => (0 ≤ r3 ∧ r3 < 3456) ∧ (P3 (v4 + 1) (mkPr (gPr_program s0) (gPr_length s0) (iset (gPr_beads s0) r3 (((gPr_beads s0) r3) + 1)) (gPr_at s0) (gPr_layer s0)))))))) → P3 v4 s0) →
  P3 0 s0

/-- LayerSlicer$Printer.playCommands(I)I -/
def wp_Pr_playCommands (x1 : Int) (s0 : s_Pr) (Q : Int → s_Pr → Prop) : Prop :=
  ∀ (P2 : Int → s_Pr → Prop),
  (∀ (v2 : Int) (s0 : s_Pr), (rg v2 ∧ rg x1 ∧ ((x1 ≤ v2 → (Q v2 s0)) ∧ (v2 < x1 → (rg (gPr_at s0) ∧ rg (gPr_length s0) ∧ (((gPr_length s0) ≤ (gPr_at s0) → (Q v2 s0)) ∧ ((gPr_at s0) < (gPr_length s0) → ((0 ≤ (gPr_at s0) ∧ (gPr_at s0) < 17304) ∧ (rg ((gPr_program s0) (gPr_at s0)) ∧ ((((gPr_program s0) (gPr_at s0)) ≠ 200 → ((0 ≤ ((gPr_at s0) + 1) ∧ ((gPr_at s0) + 1) < 17304) ∧ ((0 ≤ ((gPr_at s0) + 2) ∧ ((gPr_at s0) + 2) < 17304) ∧ ((0 ≤ ((gPr_at s0) + 4) ∧ ((gPr_at s0) + 4) < 17304) ∧ (wp_Pr_layRun ((gPr_program s0) ((gPr_at s0) + 1)) ((gPr_program s0) ((gPr_at s0) + 2)) ((gPr_program s0) ((gPr_at s0) + 4)) s0 (fun u10 => P2 (v2 + 1) (mkPr (gPr_program u10) (gPr_length u10) (gPr_beads u10) ((gPr_at u10) + 5) (gPr_layer u10)))))))) ∧ (((gPr_program s0) (gPr_at s0)) = 200 → (P2 (v2 + 1) (mkPr (gPr_program s0) (gPr_length s0) (gPr_beads s0) ((gPr_at s0) + 1) ((gPr_layer s0) + 1))))))))))))) → P2 v2 s0) →
  P2 0 s0

/-- LayerSlicer.play(I)I -/
def wp_LS_play (x1 : Int) (s0 : s_LS) (Q : Int → s_LS → Prop) : Prop :=
  wp_Pr_playCommands x1 (gLS_printer s0) (fun r1 u2 => Q r1 (mkLS (gLS_mesh s0) (gLS_mender s0) (gLS_slices s0) (gLS_sorter s0) (gLS_router s0) u2))

/-- LayerSlicer.isCell(III)Z -/
def wp_LS_isCell (x0 : Int) (x1 : Int) (x2 : Int) (Q : Int → Prop) : Prop :=
  rg x0 ∧ ((x0 < 0 → (Q 0)) ∧ (0 ≤ x0 → ((24 ≤ x0 → (Q 0)) ∧ (x0 < 24 → (rg x1 ∧ ((x1 < 0 → (Q 0)) ∧ (0 ≤ x1 → ((12 ≤ x1 → (Q 0)) ∧ (x1 < 12 → (rg x2 ∧ ((x2 < 0 → (Q 0)) ∧ (0 ≤ x2 → ((12 ≤ x2 → (Q 0)) ∧ (x2 < 12 → (Q 1)))))))))))))))

/-- LayerSlicer.laid(III)I -/
def wp_LS_laid (x1 : Int) (x2 : Int) (x3 : Int) (s0 : s_LS) (Q : Int → Prop) : Prop :=
  wp_LS_isCell x1 x2 x3 (fun r1 => rg r1 ∧ ((r1 = 0 → (Q 0)) ∧ (r1 ≠ 0 → (wp_LS_cellIndex x1 x2 x3 (fun r3 => (0 ≤ r3 ∧ r3 < 3456) ∧ (Q ((gPr_beads (gLS_printer s0)) r3)))))))

/-- java/lang/Integer.bitCount(I)I -/
def wp_Int_bitCount (x0 : Int) (Q : Int → Prop) : Prop :=
  rg x0 ∧ 0 ≤ x0 ∧ (rg (x0 - (iand (x0 / 2 ^ Int.toNat 1) 1431655765)) ∧ 0 ≤ (x0 - (iand (x0 / 2 ^ Int.toNat 1) 1431655765)) ∧ (rg ((iand (x0 - (iand (x0 / 2 ^ Int.toNat 1) 1431655765)) 858993459) + (iand ((x0 - (iand (x0 / 2 ^ Int.toNat 1) 1431655765)) / 2 ^ Int.toNat 2) 858993459)) ∧ 0 ≤ ((iand (x0 - (iand (x0 / 2 ^ Int.toNat 1) 1431655765)) 858993459) + (iand ((x0 - (iand (x0 / 2 ^ Int.toNat 1) 1431655765)) / 2 ^ Int.toNat 2) 858993459)) ∧ (0 ≤ (iand (((iand (x0 - (iand (x0 / 2 ^ Int.toNat 1) 1431655765)) 858993459) + (iand ((x0 - (iand (x0 / 2 ^ Int.toNat 1) 1431655765)) / 2 ^ Int.toNat 2) 858993459)) + (((iand (x0 - (iand (x0 / 2 ^ Int.toNat 1) 1431655765)) 858993459) + (iand ((x0 - (iand (x0 / 2 ^ Int.toNat 1) 1431655765)) / 2 ^ Int.toNat 2) 858993459)) / 2 ^ Int.toNat 4)) 252645135) ∧ (rg ((iand (((iand (x0 - (iand (x0 / 2 ^ Int.toNat 1) 1431655765)) 858993459) + (iand ((x0 - (iand (x0 / 2 ^ Int.toNat 1) 1431655765)) / 2 ^ Int.toNat 2) 858993459)) + (((iand (x0 - (iand (x0 / 2 ^ Int.toNat 1) 1431655765)) 858993459) + (iand ((x0 - (iand (x0 / 2 ^ Int.toNat 1) 1431655765)) / 2 ^ Int.toNat 2) 858993459)) / 2 ^ Int.toNat 4)) 252645135) + ((iand (((iand (x0 - (iand (x0 / 2 ^ Int.toNat 1) 1431655765)) 858993459) + (iand ((x0 - (iand (x0 / 2 ^ Int.toNat 1) 1431655765)) / 2 ^ Int.toNat 2) 858993459)) + (((iand (x0 - (iand (x0 / 2 ^ Int.toNat 1) 1431655765)) 858993459) + (iand ((x0 - (iand (x0 / 2 ^ Int.toNat 1) 1431655765)) / 2 ^ Int.toNat 2) 858993459)) / 2 ^ Int.toNat 4)) 252645135) / 2 ^ Int.toNat 8)) ∧ 0 ≤ ((iand (((iand (x0 - (iand (x0 / 2 ^ Int.toNat 1) 1431655765)) 858993459) + (iand ((x0 - (iand (x0 / 2 ^ Int.toNat 1) 1431655765)) / 2 ^ Int.toNat 2) 858993459)) + (((iand (x0 - (iand (x0 / 2 ^ Int.toNat 1) 1431655765)) 858993459) + (iand ((x0 - (iand (x0 / 2 ^ Int.toNat 1) 1431655765)) / 2 ^ Int.toNat 2) 858993459)) / 2 ^ Int.toNat 4)) 252645135) + ((iand (((iand (x0 - (iand (x0 / 2 ^ Int.toNat 1) 1431655765)) 858993459) + (iand ((x0 - (iand (x0 / 2 ^ Int.toNat 1) 1431655765)) / 2 ^ Int.toNat 2) 858993459)) + (((iand (x0 - (iand (x0 / 2 ^ Int.toNat 1) 1431655765)) 858993459) + (iand ((x0 - (iand (x0 / 2 ^ Int.toNat 1) 1431655765)) / 2 ^ Int.toNat 2) 858993459)) / 2 ^ Int.toNat 4)) 252645135) / 2 ^ Int.toNat 8)) ∧ (Q (iand (((iand (((iand (x0 - (iand (x0 / 2 ^ Int.toNat 1) 1431655765)) 858993459) + (iand ((x0 - (iand (x0 / 2 ^ Int.toNat 1) 1431655765)) / 2 ^ Int.toNat 2) 858993459)) + (((iand (x0 - (iand (x0 / 2 ^ Int.toNat 1) 1431655765)) 858993459) + (iand ((x0 - (iand (x0 / 2 ^ Int.toNat 1) 1431655765)) / 2 ^ Int.toNat 2) 858993459)) / 2 ^ Int.toNat 4)) 252645135) + ((iand (((iand (x0 - (iand (x0 / 2 ^ Int.toNat 1) 1431655765)) 858993459) + (iand ((x0 - (iand (x0 / 2 ^ Int.toNat 1) 1431655765)) / 2 ^ Int.toNat 2) 858993459)) + (((iand (x0 - (iand (x0 / 2 ^ Int.toNat 1) 1431655765)) 858993459) + (iand ((x0 - (iand (x0 / 2 ^ Int.toNat 1) 1431655765)) / 2 ^ Int.toNat 2) 858993459)) / 2 ^ Int.toNat 4)) 252645135) / 2 ^ Int.toNat 8)) + (((iand (((iand (x0 - (iand (x0 / 2 ^ Int.toNat 1) 1431655765)) 858993459) + (iand ((x0 - (iand (x0 / 2 ^ Int.toNat 1) 1431655765)) / 2 ^ Int.toNat 2) 858993459)) + (((iand (x0 - (iand (x0 / 2 ^ Int.toNat 1) 1431655765)) 858993459) + (iand ((x0 - (iand (x0 / 2 ^ Int.toNat 1) 1431655765)) / 2 ^ Int.toNat 2) 858993459)) / 2 ^ Int.toNat 4)) 252645135) + ((iand (((iand (x0 - (iand (x0 / 2 ^ Int.toNat 1) 1431655765)) 858993459) + (iand ((x0 - (iand (x0 / 2 ^ Int.toNat 1) 1431655765)) / 2 ^ Int.toNat 2) 858993459)) + (((iand (x0 - (iand (x0 / 2 ^ Int.toNat 1) 1431655765)) 858993459) + (iand ((x0 - (iand (x0 / 2 ^ Int.toNat 1) 1431655765)) / 2 ^ Int.toNat 2) 858993459)) / 2 ^ Int.toNat 4)) 252645135) / 2 ^ Int.toNat 8)) / 2 ^ Int.toNat 16)) 63))))))

/-- LayerSlicer.countCells([III)I -/
def wp_LS_countCells (x1 : Int) (x2 : Int) (n0 : Nat) (f0 : Int → Int) (Q : Int → Prop) : Prop :=
  ∀ (P5 : Int → Int → Prop),
  (∀ (v3 : Int) (v4 : Int), (rg v4 ∧ rg x2 ∧ ((x2 ≤ v4 → (Q v3)) ∧ (v4 < x2 → ((0 ≤ v4 ∧ v4 < (n0 : Int)) ∧ (wp_Int_bitCount (f0 v4) (fun r4 => P5 (v3 + r4) (v4 + 1))))))) → P5 v3 v4) →
  P5 0 x1

/-- LayerSlicer.overhang(I)I -/
def wp_LS_overhang (x1 : Int) (s0 : s_LS) (Q : Int → Prop) : Prop :=
  wp_Sl_hasLayer x1 (gLS_slices s0) (fun r1 => rg r1 ∧ ((r1 = 0 → (Q 0)) ∧ (r1 ≠ 0 → (wp_LS_countCells (x1 * 12) ((x1 * 12) + 12) 288 (gSo_hanging (gLS_sorter s0)) (fun r3 => Q r3)))))

/-- LayerSlicer.volume(I)I -/
def wp_LS_volume (x1 : Int) (s0 : s_LS) (Q : Int → Prop) : Prop :=
  rg x1 ∧ ((x1 < 0 → (Q (-1))) ∧ (0 ≤ x1 → ((7 ≤ x1 → (Q (-1))) ∧ (x1 < 7 → ((0 ≤ x1 ∧ x1 < 7) ∧ (wp_LS_countCells 0 ((gSl_count (gLS_slices s0)) * 12) 288 (rSo_rowsOfKind (gLS_sorter s0) x1) (fun r3 => Q r3)))))))

/-- LayerSlicerModel.thrown()I -/
def wp_Mo_thrown (s0 : s_Mo) (Q : Int → Prop) : Prop :=
  Q (gMo_thrown s0)

/-- LayerSlicerModel.in(III)Z -/
def wp_Mo_in (x0 : Int) (x1 : Int) (x2 : Int) (Q : Int → Prop) : Prop :=
  rg x0 ∧ rg x1 ∧ ((x0 < x1 → (Q 0)) ∧ (x1 ≤ x0 → (rg x2 ∧ ((x2 < x0 → (Q 0)) ∧ (x0 ≤ x2 → (Q 1))))))

/-- LayerSlicerModel.corner(III)I -/
def wp_Mo_corner (x1 : Int) (x2 : Int) (x3 : Int) (s0 : s_Mo) (Q : Int → s_Mo → Prop) : Prop :=
  rg (gMo_corners s0) ∧ (((gMo_corners s0) = 80 → (Q (-1) (mkMo 0 (gMo_corners s0) (gMo_px s0) (gMo_py s0) (gMo_pz s0) (gMo_triangles s0) (gMo_named s0) (gMo_joined s0) (gMo_dropped s0) (gMo_closed s0) (gMo_layers s0) (gMo_thickness s0) (gMo_cuts s0) (gMo_cx s0) (gMo_cy s0) (gMo_cz s0) (gMo_solids s0) (gMo_shell s0) (gMo_skin s0) (gMo_period s0) (gMo_reach s0) (gMo_gap s0) (gMo_bytes s0) (gMo_played s0) (gMo_at s0) (gMo_program s0) (gMo_beads s0) (gMo_ring s0)))) ∧ ((gMo_corners s0) ≠ 80 → (wp_Mo_in x1 0 120 (fun r2 => rg r2 ∧ ((r2 = 0 → (Q (-1) (mkMo 0 (gMo_corners s0) (gMo_px s0) (gMo_py s0) (gMo_pz s0) (gMo_triangles s0) (gMo_named s0) (gMo_joined s0) (gMo_dropped s0) (gMo_closed s0) (gMo_layers s0) (gMo_thickness s0) (gMo_cuts s0) (gMo_cx s0) (gMo_cy s0) (gMo_cz s0) (gMo_solids s0) (gMo_shell s0) (gMo_skin s0) (gMo_period s0) (gMo_reach s0) (gMo_gap s0) (gMo_bytes s0) (gMo_played s0) (gMo_at s0) (gMo_program s0) (gMo_beads s0) (gMo_ring s0)))) ∧ (r2 ≠ 0 → (wp_Mo_in x2 0 120 (fun r4 => rg r4 ∧ ((r4 = 0 → (Q (-1) (mkMo 0 (gMo_corners s0) (gMo_px s0) (gMo_py s0) (gMo_pz s0) (gMo_triangles s0) (gMo_named s0) (gMo_joined s0) (gMo_dropped s0) (gMo_closed s0) (gMo_layers s0) (gMo_thickness s0) (gMo_cuts s0) (gMo_cx s0) (gMo_cy s0) (gMo_cz s0) (gMo_solids s0) (gMo_shell s0) (gMo_skin s0) (gMo_period s0) (gMo_reach s0) (gMo_gap s0) (gMo_bytes s0) (gMo_played s0) (gMo_at s0) (gMo_program s0) (gMo_beads s0) (gMo_ring s0)))) ∧ (r4 ≠ 0 → (wp_Mo_in x3 0 120 (fun r6 => rg r6 ∧ ((r6 ≠ 0 → ((0 ≤ (gMo_corners s0) ∧ (gMo_corners s0) < 80) ∧ (Q (((gMo_corners s0) + 1) - 1) (mkMo 0 ((gMo_corners s0) + 1) (iset (gMo_px s0) (gMo_corners s0) x1) (iset (gMo_py s0) (gMo_corners s0) x2) (iset (gMo_pz s0) (gMo_corners s0) x3) (gMo_triangles s0) (gMo_named s0) (gMo_joined s0) (gMo_dropped s0) (gMo_closed s0) (gMo_layers s0) (gMo_thickness s0) (gMo_cuts s0) (gMo_cx s0) (gMo_cy s0) (gMo_cz s0) (gMo_solids s0) (gMo_shell s0) (gMo_skin s0) (gMo_period s0) (gMo_reach s0) (gMo_gap s0) (gMo_bytes s0) (gMo_played s0) (gMo_at s0) (gMo_program s0) (gMo_beads s0) (gMo_ring s0))))) ∧ (r6 = 0 → (Q (-1) (mkMo 0 (gMo_corners s0) (gMo_px s0) (gMo_py s0) (gMo_pz s0) (gMo_triangles s0) (gMo_named s0) (gMo_joined s0) (gMo_dropped s0) (gMo_closed s0) (gMo_layers s0) (gMo_thickness s0) (gMo_cuts s0) (gMo_cx s0) (gMo_cy s0) (gMo_cz s0) (gMo_solids s0) (gMo_shell s0) (gMo_skin s0) (gMo_period s0) (gMo_reach s0) (gMo_gap s0) (gMo_bytes s0) (gMo_played s0) (gMo_at s0) (gMo_program s0) (gMo_beads s0) (gMo_ring s0)))))))))))))))))

/-- LayerSlicerModel.add(III)I -/
def wp_Mo_add (x1 : Int) (x2 : Int) (x3 : Int) (s0 : s_Mo) (Q : Int → s_Mo → Prop) : Prop :=
  (0 ≤ (3 * (gMo_triangles s0)) ∧ (3 * (gMo_triangles s0)) < 360) ∧ ((0 ≤ ((3 * (gMo_triangles s0)) + 1) ∧ ((3 * (gMo_triangles s0)) + 1) < 360) ∧ ((0 ≤ ((3 * (gMo_triangles s0)) + 2) ∧ ((3 * (gMo_triangles s0)) + 2) < 360) ∧ (Q (((gMo_triangles s0) + 1) - 1) (mkMo (gMo_thrown s0) (gMo_corners s0) (gMo_px s0) (gMo_py s0) (gMo_pz s0) ((gMo_triangles s0) + 1) (iset (iset (iset (gMo_named s0) (3 * (gMo_triangles s0)) x1) ((3 * (gMo_triangles s0)) + 1) x2) ((3 * (gMo_triangles s0)) + 2) x3) (gMo_joined s0) (gMo_dropped s0) (gMo_closed s0) (gMo_layers s0) (gMo_thickness s0) (gMo_cuts s0) (gMo_cx s0) (gMo_cy s0) (gMo_cz s0) (gMo_solids s0) (gMo_shell s0) (gMo_skin s0) (gMo_period s0) (gMo_reach s0) (gMo_gap s0) (gMo_bytes s0) (gMo_played s0) (gMo_at s0) (gMo_program s0) (gMo_beads s0) (gMo_ring s0)))))

/-- LayerSlicerModel.tri(III)I -/
def wp_Mo_tri (x1 : Int) (x2 : Int) (x3 : Int) (s0 : s_Mo) (Q : Int → s_Mo → Prop) : Prop :=
  rg (gMo_triangles s0) ∧ (((gMo_triangles s0) = 120 → (Q (-1) (mkMo 0 (gMo_corners s0) (gMo_px s0) (gMo_py s0) (gMo_pz s0) (gMo_triangles s0) (gMo_named s0) (gMo_joined s0) (gMo_dropped s0) (gMo_closed s0) (gMo_layers s0) (gMo_thickness s0) (gMo_cuts s0) (gMo_cx s0) (gMo_cy s0) (gMo_cz s0) (gMo_solids s0) (gMo_shell s0) (gMo_skin s0) (gMo_period s0) (gMo_reach s0) (gMo_gap s0) (gMo_bytes s0) (gMo_played s0) (gMo_at s0) (gMo_program s0) (gMo_beads s0) (gMo_ring s0)))) ∧ ((gMo_triangles s0) ≠ 120 → (wp_Mo_in x1 0 ((gMo_corners s0) - 1) (fun r2 => rg r2 ∧ ((r2 = 0 → (Q (-1) (mkMo 0 (gMo_corners s0) (gMo_px s0) (gMo_py s0) (gMo_pz s0) (gMo_triangles s0) (gMo_named s0) (gMo_joined s0) (gMo_dropped s0) (gMo_closed s0) (gMo_layers s0) (gMo_thickness s0) (gMo_cuts s0) (gMo_cx s0) (gMo_cy s0) (gMo_cz s0) (gMo_solids s0) (gMo_shell s0) (gMo_skin s0) (gMo_period s0) (gMo_reach s0) (gMo_gap s0) (gMo_bytes s0) (gMo_played s0) (gMo_at s0) (gMo_program s0) (gMo_beads s0) (gMo_ring s0)))) ∧ (r2 ≠ 0 → (wp_Mo_in x2 0 ((gMo_corners s0) - 1) (fun r4 => rg r4 ∧ ((r4 = 0 → (Q (-1) (mkMo 0 (gMo_corners s0) (gMo_px s0) (gMo_py s0) (gMo_pz s0) (gMo_triangles s0) (gMo_named s0) (gMo_joined s0) (gMo_dropped s0) (gMo_closed s0) (gMo_layers s0) (gMo_thickness s0) (gMo_cuts s0) (gMo_cx s0) (gMo_cy s0) (gMo_cz s0) (gMo_solids s0) (gMo_shell s0) (gMo_skin s0) (gMo_period s0) (gMo_reach s0) (gMo_gap s0) (gMo_bytes s0) (gMo_played s0) (gMo_at s0) (gMo_program s0) (gMo_beads s0) (gMo_ring s0)))) ∧ (r4 ≠ 0 → (wp_Mo_in x3 0 ((gMo_corners s0) - 1) (fun r6 => rg r6 ∧ ((r6 ≠ 0 → (wp_Mo_add x1 x2 x3 (mkMo 0 (gMo_corners s0) (gMo_px s0) (gMo_py s0) (gMo_pz s0) (gMo_triangles s0) (gMo_named s0) (gMo_joined s0) (gMo_dropped s0) (gMo_closed s0) (gMo_layers s0) (gMo_thickness s0) (gMo_cuts s0) (gMo_cx s0) (gMo_cy s0) (gMo_cz s0) (gMo_solids s0) (gMo_shell s0) (gMo_skin s0) (gMo_period s0) (gMo_reach s0) (gMo_gap s0) (gMo_bytes s0) (gMo_played s0) (gMo_at s0) (gMo_program s0) (gMo_beads s0) (gMo_ring s0)) (fun r8 u9 => Q r8 u9))) ∧ (r6 = 0 → (Q (-1) (mkMo 0 (gMo_corners s0) (gMo_px s0) (gMo_py s0) (gMo_pz s0) (gMo_triangles s0) (gMo_named s0) (gMo_joined s0) (gMo_dropped s0) (gMo_closed s0) (gMo_layers s0) (gMo_thickness s0) (gMo_cuts s0) (gMo_cx s0) (gMo_cy s0) (gMo_cz s0) (gMo_solids s0) (gMo_shell s0) (gMo_skin s0) (gMo_period s0) (gMo_reach s0) (gMo_gap s0) (gMo_bytes s0) (gMo_played s0) (gMo_at s0) (gMo_program s0) (gMo_beads s0) (gMo_ring s0)))))))))))))))))

/-- LayerSlicerModel.lowestAt(I)I -/
def wp_Mo_lowestAt (x1 : Int) (s0 : s_Mo) (Q : Int → Prop) : Prop :=
  ∀ (P2 : Int → Prop),
  (∀ (v2 : Int), ((0 ≤ v2 ∧ v2 < 80) ∧ ((0 ≤ x1 ∧ x1 < 80) ∧ (rg ((gMo_px s0) v2) ∧ rg ((gMo_px s0) x1) ∧ ((((gMo_px s0) v2) ≠ ((gMo_px s0) x1) → (P2 (v2 + 1))) ∧ (((gMo_px s0) v2) = ((gMo_px s0) x1) → (rg ((gMo_py s0) v2) ∧ rg ((gMo_py s0) x1) ∧ ((((gMo_py s0) v2) ≠ ((gMo_py s0) x1) → (P2 (v2 + 1))) ∧ (((gMo_py s0) v2) = ((gMo_py s0) x1) → (rg ((gMo_pz s0) v2) ∧ rg ((gMo_pz s0) x1) ∧ ((((gMo_pz s0) v2) = ((gMo_pz s0) x1) → (Q v2)) ∧ (((gMo_pz s0) v2) ≠ ((gMo_pz s0) x1) → (P2 (v2 + 1))))))))))))) → P2 v2) →
  P2 0

/-- LayerSlicerModel.join()V -/
def wp_Mo_join (s0 : s_Mo) (Q : s_Mo → Prop) : Prop :=
  ∀ (P2 : Int → s_Mo → Prop),
  ∀ (P29 : Int → Int → Int → Int → s_Mo → Prop),
  (∀ (v1 : Int) (s0 : s_Mo), (rg v1 ∧ rg (gMo_corners s0) ∧ (((gMo_corners s0) ≤ v1 → (Q s0)) ∧ (v1 < (gMo_corners s0) → (wp_Mo_lowestAt v1 s0 (fun r3 => rg r3 ∧ ((r3 ≠ v1 → (P29 v1 r3 0 0 s0)) ∧ (r3 = v1 → (P2 (v1 + 1) s0)))))))) → P2 v1 s0) →
  (∀ (v1 : Int) (v2 : Int) (v3 : Int) (v4 : Int) (s0 : s_Mo), (rg v4 ∧ rg (3 * (gMo_triangles s0)) ∧ (((3 * (gMo_triangles s0)) ≤ v4 → (rg v3 ∧ ((v3 = 0 → (P2 (v1 + 1) (mkMo (gMo_thrown s0) (gMo_corners s0) (gMo_px s0) (gMo_py s0) (gMo_pz s0) (gMo_triangles s0) (gMo_named s0) ((gMo_joined s0) + 0) (gMo_dropped s0) (gMo_closed s0) (gMo_layers s0) (gMo_thickness s0) (gMo_cuts s0) (gMo_cx s0) (gMo_cy s0) (gMo_cz s0) (gMo_solids s0) (gMo_shell s0) (gMo_skin s0) (gMo_period s0) (gMo_reach s0) (gMo_gap s0) (gMo_bytes s0) (gMo_played s0) (gMo_at s0) (gMo_program s0) (gMo_beads s0) (gMo_ring s0)))) ∧ (v3 ≠ 0 → (P2 (v1 + 1) (mkMo (gMo_thrown s0) (gMo_corners s0) (gMo_px s0) (gMo_py s0) (gMo_pz s0) (gMo_triangles s0) (gMo_named s0) ((gMo_joined s0) + 1) (gMo_dropped s0) (gMo_closed s0) (gMo_layers s0) (gMo_thickness s0) (gMo_cuts s0) (gMo_cx s0) (gMo_cy s0) (gMo_cz s0) (gMo_solids s0) (gMo_shell s0) (gMo_skin s0) (gMo_period s0) (gMo_reach s0) (gMo_gap s0) (gMo_bytes s0) (gMo_played s0) (gMo_at s0) (gMo_program s0) (gMo_beads s0) (gMo_ring s0))))))) ∧ (v4 < (3 * (gMo_triangles s0)) → ((0 ≤ v4 ∧ v4 < 360) ∧ (rg ((gMo_named s0) v4) ∧ rg v1 ∧ ((((gMo_named s0) v4) = v1 → (P29 v1 v2 1 (v4 + 1) (mkMo (gMo_thrown s0) (gMo_corners s0) (gMo_px s0) (gMo_py s0) (gMo_pz s0) (gMo_triangles s0) (iset (gMo_named s0) v4 v2) (gMo_joined s0) (gMo_dropped s0) (gMo_closed s0) (gMo_layers s0) (gMo_thickness s0) (gMo_cuts s0) (gMo_cx s0) (gMo_cy s0) (gMo_cz s0) (gMo_solids s0) (gMo_shell s0) (gMo_skin s0) (gMo_period s0) (gMo_reach s0) (gMo_gap s0) (gMo_bytes s0) (gMo_played s0) (gMo_at s0) (gMo_program s0) (gMo_beads s0) (gMo_ring s0)))) ∧ (((gMo_named s0) v4) ≠ v1 → (P29 v1 v2 v3 (v4 + 1) s0)))))))) → P29 v1 v2 v3 v4 s0) →
  P2 0 s0

/-- LayerSlicerModel.isFlat(I)Z -/
def wp_Mo_isFlat (x1 : Int) (s0 : s_Mo) (Q : Int → Prop) : Prop :=
  (0 ≤ (3 * x1) ∧ (3 * x1) < 360) ∧ ((0 ≤ ((3 * x1) + 1) ∧ ((3 * x1) + 1) < 360) ∧ ((0 ≤ ((3 * x1) + 2) ∧ ((3 * x1) + 2) < 360) ∧ ((0 ≤ ((gMo_named s0) ((3 * x1) + 1)) ∧ ((gMo_named s0) ((3 * x1) + 1)) < 80) ∧ ((0 ≤ ((gMo_named s0) (3 * x1)) ∧ ((gMo_named s0) (3 * x1)) < 80) ∧ ((0 ≤ ((gMo_named s0) ((3 * x1) + 2)) ∧ ((gMo_named s0) ((3 * x1) + 2)) < 80) ∧ (rg ((((gMo_py s0) ((gMo_named s0) ((3 * x1) + 1))) - ((gMo_py s0) ((gMo_named s0) (3 * x1)))) * (((gMo_pz s0) ((gMo_named s0) ((3 * x1) + 2))) - ((gMo_pz s0) ((gMo_named s0) (3 * x1))))) ∧ rg ((((gMo_pz s0) ((gMo_named s0) ((3 * x1) + 1))) - ((gMo_pz s0) ((gMo_named s0) (3 * x1)))) * (((gMo_py s0) ((gMo_named s0) ((3 * x1) + 2))) - ((gMo_py s0) ((gMo_named s0) (3 * x1))))) ∧ ((((((gMo_py s0) ((gMo_named s0) ((3 * x1) + 1))) - ((gMo_py s0) ((gMo_named s0) (3 * x1)))) * (((gMo_pz s0) ((gMo_named s0) ((3 * x1) + 2))) - ((gMo_pz s0) ((gMo_named s0) (3 * x1))))) ≠ ((((gMo_pz s0) ((gMo_named s0) ((3 * x1) + 1))) - ((gMo_pz s0) ((gMo_named s0) (3 * x1)))) * (((gMo_py s0) ((gMo_named s0) ((3 * x1) + 2))) - ((gMo_py s0) ((gMo_named s0) (3 * x1))))) → (Q 0)) ∧ (((((gMo_py s0) ((gMo_named s0) ((3 * x1) + 1))) - ((gMo_py s0) ((gMo_named s0) (3 * x1)))) * (((gMo_pz s0) ((gMo_named s0) ((3 * x1) + 2))) - ((gMo_pz s0) ((gMo_named s0) (3 * x1))))) = ((((gMo_pz s0) ((gMo_named s0) ((3 * x1) + 1))) - ((gMo_pz s0) ((gMo_named s0) (3 * x1)))) * (((gMo_py s0) ((gMo_named s0) ((3 * x1) + 2))) - ((gMo_py s0) ((gMo_named s0) (3 * x1))))) → (rg ((((gMo_pz s0) ((gMo_named s0) ((3 * x1) + 1))) - ((gMo_pz s0) ((gMo_named s0) (3 * x1)))) * (((gMo_px s0) ((gMo_named s0) ((3 * x1) + 2))) - ((gMo_px s0) ((gMo_named s0) (3 * x1))))) ∧ rg ((((gMo_px s0) ((gMo_named s0) ((3 * x1) + 1))) - ((gMo_px s0) ((gMo_named s0) (3 * x1)))) * (((gMo_pz s0) ((gMo_named s0) ((3 * x1) + 2))) - ((gMo_pz s0) ((gMo_named s0) (3 * x1))))) ∧ ((((((gMo_pz s0) ((gMo_named s0) ((3 * x1) + 1))) - ((gMo_pz s0) ((gMo_named s0) (3 * x1)))) * (((gMo_px s0) ((gMo_named s0) ((3 * x1) + 2))) - ((gMo_px s0) ((gMo_named s0) (3 * x1))))) ≠ ((((gMo_px s0) ((gMo_named s0) ((3 * x1) + 1))) - ((gMo_px s0) ((gMo_named s0) (3 * x1)))) * (((gMo_pz s0) ((gMo_named s0) ((3 * x1) + 2))) - ((gMo_pz s0) ((gMo_named s0) (3 * x1))))) → (Q 0)) ∧ (((((gMo_pz s0) ((gMo_named s0) ((3 * x1) + 1))) - ((gMo_pz s0) ((gMo_named s0) (3 * x1)))) * (((gMo_px s0) ((gMo_named s0) ((3 * x1) + 2))) - ((gMo_px s0) ((gMo_named s0) (3 * x1))))) = ((((gMo_px s0) ((gMo_named s0) ((3 * x1) + 1))) - ((gMo_px s0) ((gMo_named s0) (3 * x1)))) * (((gMo_pz s0) ((gMo_named s0) ((3 * x1) + 2))) - ((gMo_pz s0) ((gMo_named s0) (3 * x1))))) → (rg ((((gMo_px s0) ((gMo_named s0) ((3 * x1) + 1))) - ((gMo_px s0) ((gMo_named s0) (3 * x1)))) * (((gMo_py s0) ((gMo_named s0) ((3 * x1) + 2))) - ((gMo_py s0) ((gMo_named s0) (3 * x1))))) ∧ rg ((((gMo_py s0) ((gMo_named s0) ((3 * x1) + 1))) - ((gMo_py s0) ((gMo_named s0) (3 * x1)))) * (((gMo_px s0) ((gMo_named s0) ((3 * x1) + 2))) - ((gMo_px s0) ((gMo_named s0) (3 * x1))))) ∧ ((((((gMo_px s0) ((gMo_named s0) ((3 * x1) + 1))) - ((gMo_px s0) ((gMo_named s0) (3 * x1)))) * (((gMo_py s0) ((gMo_named s0) ((3 * x1) + 2))) - ((gMo_py s0) ((gMo_named s0) (3 * x1))))) ≠ ((((gMo_py s0) ((gMo_named s0) ((3 * x1) + 1))) - ((gMo_py s0) ((gMo_named s0) (3 * x1)))) * (((gMo_px s0) ((gMo_named s0) ((3 * x1) + 2))) - ((gMo_px s0) ((gMo_named s0) (3 * x1))))) → (Q 0)) ∧ (((((gMo_px s0) ((gMo_named s0) ((3 * x1) + 1))) - ((gMo_px s0) ((gMo_named s0) (3 * x1)))) * (((gMo_py s0) ((gMo_named s0) ((3 * x1) + 2))) - ((gMo_py s0) ((gMo_named s0) (3 * x1))))) = ((((gMo_py s0) ((gMo_named s0) ((3 * x1) + 1))) - ((gMo_py s0) ((gMo_named s0) (3 * x1)))) * (((gMo_px s0) ((gMo_named s0) ((3 * x1) + 2))) - ((gMo_px s0) ((gMo_named s0) (3 * x1))))) → (Q 1)))))))))))))))

/-- LayerSlicerModel.drop()V -/
def wp_Mo_drop (s0 : s_Mo) (Q : s_Mo → Prop) : Prop :=
  ∀ (P4 : Int → Int → s_Mo → Prop),
  ∀ (P25 : Int → Int → Int → s_Mo → Prop),
  (∀ (v1 : Int) (v2 : Int) (s0 : s_Mo), (rg v2 ∧ rg (gMo_triangles s0) ∧ (((gMo_triangles s0) ≤ v2 → (Q (mkMo (gMo_thrown s0) (gMo_corners s0) (gMo_px s0) (gMo_py s0) (gMo_pz s0) v1 (gMo_named s0) (gMo_joined s0) ((gMo_dropped s0) + ((gMo_triangles s0) - v1)) (gMo_closed s0) (gMo_layers s0) (gMo_thickness s0) (gMo_cuts s0) (gMo_cx s0) (gMo_cy s0) (gMo_cz s0) (gMo_solids s0) (gMo_shell s0) (gMo_skin s0) (gMo_period s0) (gMo_reach s0) (gMo_gap s0) (gMo_bytes s0) (gMo_played s0) (gMo_at s0) (gMo_program s0) (gMo_beads s0) (gMo_ring s0)))) ∧ (v2 < (gMo_triangles s0) → (wp_Mo_isFlat v2 s0 (fun r3 => rg r3 ∧ ((r3 = 0 → (P25 v1 v2 0 s0)) ∧ (r3 ≠ 0 → (P4 v1 (v2 + 1) s0)))))))) → P4 v1 v2 s0) →
  (∀ (v1 : Int) (v2 : Int) (v3 : Int) (s0 : s_Mo), (rg v3 ∧ ((3 ≤ v3 → (P4 (v1 + 1) (v2 + 1) s0)) ∧ (v3 < 3 → ((0 ≤ ((3 * v2) + v3) ∧ ((3 * v2) + v3) < 360) ∧ ((0 ≤ ((3 * v1) + v3) ∧ ((3 * v1) + v3) < 360) ∧ (P25 v1 v2 (v3 + 1) (mkMo (gMo_thrown s0) (gMo_corners s0) (gMo_px s0) (gMo_py s0) (gMo_pz s0) (gMo_triangles s0) (iset (gMo_named s0) ((3 * v1) + v3) ((gMo_named s0) ((3 * v2) + v3))) (gMo_joined s0) (gMo_dropped s0) (gMo_closed s0) (gMo_layers s0) (gMo_thickness s0) (gMo_cuts s0) (gMo_cx s0) (gMo_cy s0) (gMo_cz s0) (gMo_solids s0) (gMo_shell s0) (gMo_skin s0) (gMo_period s0) (gMo_reach s0) (gMo_gap s0) (gMo_bytes s0) (gMo_played s0) (gMo_at s0) (gMo_program s0) (gMo_beads s0) (gMo_ring s0)))))))) → P25 v1 v2 v3 s0) →
  P4 0 0 s0

/-- LayerSlicerModel.open(II)I -/
def wp_Mo_open (x1 : Int) (x2 : Int) (s0 : s_Mo) (Q : Int → Prop) : Prop :=
  ∀ (P5 : Int → Int → Prop),
  ∀ (P48 : Int → Int → Int → Int → Prop),
  ∀ (P68 : Int → Int → Int → Int → Prop),
  (∀ (v3 : Int) (v4 : Int), (rg v4 ∧ rg (3 * (gMo_triangles s0)) ∧ (((3 * (gMo_triangles s0)) ≤ v4 → (rg v3 ∧ ((v3 ≤ 0 → (Q 0)) ∧ (0 < v3 → (Q v3))))) ∧ (v4 < (3 * (gMo_triangles s0)) → ((0 ≤ v4 ∧ v4 < 360) ∧ (rg (Int.tmod v4 3) ∧ (((Int.tmod v4 3) ≠ 2 → (P48 v3 v4 ((gMo_named s0) v4) (v4 + 1))) ∧ ((Int.tmod v4 3) = 2 → (P48 v3 v4 ((gMo_named s0) v4) (v4 - 2))))))))) → P5 v3 v4) →
  (∀ (v3 : Int) (v4 : Int) (v5 : Int) (t0 : Int), ((0 ≤ t0 ∧ t0 < 360) ∧ (rg v5 ∧ rg x1 ∧ ((v5 ≠ x1 → (P68 v4 v5 ((gMo_named s0) t0) v3)) ∧ (v5 = x1 → (rg ((gMo_named s0) t0) ∧ rg x2 ∧ ((((gMo_named s0) t0) ≠ x2 → (P68 v4 v5 ((gMo_named s0) t0) v3)) ∧ (((gMo_named s0) t0) = x2 → (P5 (v3 + 1) (v4 + 1))))))))) → P48 v3 v4 v5 t0) →
  (∀ (v4 : Int) (v5 : Int) (v6 : Int) (t0 : Int), (rg v5 ∧ rg x2 ∧ ((v5 ≠ x2 → (P5 (t0 + 0) (v4 + 1))) ∧ (v5 = x2 → (rg v6 ∧ rg x1 ∧ ((v6 ≠ x1 → (P5 (t0 + 0) (v4 + 1))) ∧ (v6 = x1 → (P5 (t0 + (-1)) (v4 + 1)))))))) → P68 v4 v5 v6 t0) →
  P5 0 0

/-- LayerSlicerModel.only(I)I -/
def wp_Mo_only (x1 : Int) (s0 : s_Mo) (Q : Int → Prop) : Prop :=
  ∀ (P4 : Int → Int → Prop),
  ∀ (P27 : Int → Int → Int → Prop),
  (∀ (v2 : Int) (v3 : Int), (rg v3 ∧ rg (gMo_corners s0) ∧ (((gMo_corners s0) ≤ v3 → (Q v2)) ∧ (v3 < (gMo_corners s0) → (rg x1 ∧ ((x1 ≠ v3 → (wp_Mo_open x1 v3 s0 (fun r4 => P27 v2 v3 r4))) ∧ (x1 = v3 → (P27 v2 v3 0))))))) → P4 v2 v3) →
  (∀ (v2 : Int) (v3 : Int) (t0 : Int), (rg t0 ∧ ((t0 ≠ 0 → ((1 < t0 → (Q (-1))) ∧ (t0 ≤ 1 → (rg v2 ∧ ((v2 < 0 → (P4 v3 (v3 + 1))) ∧ (0 ≤ v2 → (Q (-1)))))))) ∧ (t0 = 0 → (P4 v2 (v3 + 1))))) → P27 v2 v3 t0) →
  P4 (-1) 0

/-- LayerSlicerModel.hole(I)I -/
def wp_Mo_hole (x1 : Int) (s0 : s_Mo) (Q : Int → s_Mo → Prop) : Prop :=
  ∀ (P4 : Int → Int → s_Mo → Prop),
  ∀ (P27 : Int → Int → Int → Int → s_Mo → Prop),
  (∀ (v2 : Int) (v3 : Int) (s0 : s_Mo), (rg v2 ∧ ((17 ≤ v2 → (Q 0 s0)) ∧ (v2 < 17 → (wp_Mo_only v3 s0 (fun r2 => rg r2 ∧ ((0 ≤ r2 → (P27 v2 v3 r2 0 s0)) ∧ (r2 < 0 → (Q 0 s0)))))))) → P4 v2 v3 s0) →
  (∀ (v2 : Int) (v3 : Int) (v4 : Int) (v5 : Int) (s0 : s_Mo), (rg v5 ∧ rg v2 ∧ ((v2 ≤ v5 → ((0 ≤ v2 ∧ v2 < 17) ∧ (rg v4 ∧ rg x1 ∧ ((v4 ≠ x1 → (P4 (v2 + 1) v4 (mkMo (gMo_thrown s0) (gMo_corners s0) (gMo_px s0) (gMo_py s0) (gMo_pz s0) (gMo_triangles s0) (gMo_named s0) (gMo_joined s0) (gMo_dropped s0) (gMo_closed s0) (gMo_layers s0) (gMo_thickness s0) (gMo_cuts s0) (gMo_cx s0) (gMo_cy s0) (gMo_cz s0) (gMo_solids s0) (gMo_shell s0) (gMo_skin s0) (gMo_period s0) (gMo_reach s0) (gMo_gap s0) (gMo_bytes s0) (gMo_played s0) (gMo_at s0) (gMo_program s0) (gMo_beads s0) (iset (gMo_ring s0) v2 v3)))) ∧ (v4 = x1 → (rg (v2 + 1) ∧ (((v2 + 1) < 3 → (Q 0 (mkMo (gMo_thrown s0) (gMo_corners s0) (gMo_px s0) (gMo_py s0) (gMo_pz s0) (gMo_triangles s0) (gMo_named s0) (gMo_joined s0) (gMo_dropped s0) (gMo_closed s0) (gMo_layers s0) (gMo_thickness s0) (gMo_cuts s0) (gMo_cx s0) (gMo_cy s0) (gMo_cz s0) (gMo_solids s0) (gMo_shell s0) (gMo_skin s0) (gMo_period s0) (gMo_reach s0) (gMo_gap s0) (gMo_bytes s0) (gMo_played s0) (gMo_at s0) (gMo_program s0) (gMo_beads s0) (iset (gMo_ring s0) v2 v3)))) ∧ (3 ≤ (v2 + 1) → ((16 < (v2 + 1) → (Q 0 (mkMo (gMo_thrown s0) (gMo_corners s0) (gMo_px s0) (gMo_py s0) (gMo_pz s0) (gMo_triangles s0) (gMo_named s0) (gMo_joined s0) (gMo_dropped s0) (gMo_closed s0) (gMo_layers s0) (gMo_thickness s0) (gMo_cuts s0) (gMo_cx s0) (gMo_cy s0) (gMo_cz s0) (gMo_solids s0) (gMo_shell s0) (gMo_skin s0) (gMo_period s0) (gMo_reach s0) (gMo_gap s0) (gMo_bytes s0) (gMo_played s0) (gMo_at s0) (gMo_program s0) (gMo_beads s0) (iset (gMo_ring s0) v2 v3)))) ∧ ((v2 + 1) ≤ 16 → (rg (((gMo_triangles s0) + (v2 + 1)) - 2) ∧ ((120 < (((gMo_triangles s0) + (v2 + 1)) - 2) → (Q 0 (mkMo (gMo_thrown s0) (gMo_corners s0) (gMo_px s0) (gMo_py s0) (gMo_pz s0) (gMo_triangles s0) (gMo_named s0) (gMo_joined s0) (gMo_dropped s0) (gMo_closed s0) (gMo_layers s0) (gMo_thickness s0) (gMo_cuts s0) (gMo_cx s0) (gMo_cy s0) (gMo_cz s0) (gMo_solids s0) (gMo_shell s0) (gMo_skin s0) (gMo_period s0) (gMo_reach s0) (gMo_gap s0) (gMo_bytes s0) (gMo_played s0) (gMo_at s0) (gMo_program s0) (gMo_beads s0) (iset (gMo_ring s0) v2 v3)))) ∧ ((((gMo_triangles s0) + (v2 + 1)) - 2) ≤ 120 → (Q (v2 + 1) (mkMo (gMo_thrown s0) (gMo_corners s0) (gMo_px s0) (gMo_py s0) (gMo_pz s0) (gMo_triangles s0) (gMo_named s0) (gMo_joined s0) (gMo_dropped s0) (gMo_closed s0) (gMo_layers s0) (gMo_thickness s0) (gMo_cuts s0) (gMo_cx s0) (gMo_cy s0) (gMo_cz s0) (gMo_solids s0) (gMo_shell s0) (gMo_skin s0) (gMo_period s0) (gMo_reach s0) (gMo_gap s0) (gMo_bytes s0) (gMo_played s0) (gMo_at s0) (gMo_program s0) (gMo_beads s0) (iset (gMo_ring s0) v2 v3)))))))))))))))) ∧ (v5 < v2 → ((0 ≤ v5 ∧ v5 < 17) ∧ (rg ((gMo_ring s0) v5) ∧ rg v3 ∧ ((((gMo_ring s0) v5) ≠ v3 → (P27 v2 v3 v4 (v5 + 1) s0)) ∧ (((gMo_ring s0) v5) = v3 → (Q 0 s0)))))))) → P27 v2 v3 v4 v5 s0) →
  P4 0 x1 s0

/-- LayerSlicerModel.mend()I -/
def wp_Mo_mend (s0 : s_Mo) (Q : Int → s_Mo → Prop) : Prop :=
  ∀ (P15 : Int → s_Mo → Prop),
  ∀ (P41 : Int → Int → s_Mo → Prop),
  ∀ (P98 : Int → Int → s_Mo → Prop),
  ∀ (P109 : Int → Int → Int → s_Mo → Prop),
  (∀ (v1 : Int) (s0 : s_Mo), (rg v1 ∧ rg (gMo_corners s0) ∧ (((gMo_corners s0) ≤ v1 → (P98 0 0 s0)) ∧ (v1 < (gMo_corners s0) → (wp_Mo_hole v1 s0 (fun r5 u6 => rg r5 ∧ ((r5 ≠ 0 → (P41 r5 1 u6)) ∧ (r5 = 0 → (P15 (v1 + 1) u6)))))))) → P15 v1 s0) →
  (∀ (v2 : Int) (v3 : Int) (s0 : s_Mo), (rg v3 ∧ rg (v2 - 2) ∧ (((v2 - 2) < v3 → (P15 0 (mkMo (gMo_thrown s0) (gMo_corners s0) (gMo_px s0) (gMo_py s0) (gMo_pz s0) (gMo_triangles s0) (gMo_named s0) (gMo_joined s0) (gMo_dropped s0) ((gMo_closed s0) + 1) (gMo_layers s0) (gMo_thickness s0) (gMo_cuts s0) (gMo_cx s0) (gMo_cy s0) (gMo_cz s0) (gMo_solids s0) (gMo_shell s0) (gMo_skin s0) (gMo_period s0) (gMo_reach s0) (gMo_gap s0) (gMo_bytes s0) (gMo_played s0) (gMo_at s0) (gMo_program s0) (gMo_beads s0) (gMo_ring s0)))) ∧ (v3 ≤ (v2 - 2) → ((0 ≤ (v3 + 1) ∧ (v3 + 1) < 17) ∧ ((0 ≤ v3 ∧ v3 < 17) ∧ (wp_Mo_add ((gMo_ring s0) 0) ((gMo_ring s0) (v3 + 1)) ((gMo_ring s0) v3) s0 (fun r14 u15 => P41 v2 (v3 + 1) u15))))))) → P41 v2 v3 s0) →
  (∀ (v2 : Int) (v3 : Int) (s0 : s_Mo), (rg v3 ∧ rg (gMo_corners s0) ∧ (((gMo_corners s0) ≤ v3 → (Q v2 s0)) ∧ (v3 < (gMo_corners s0) → (P109 v2 v3 0 s0)))) → P98 v2 v3 s0) →
  (∀ (v2 : Int) (v3 : Int) (v4 : Int) (s0 : s_Mo), (rg v4 ∧ rg (gMo_corners s0) ∧ (((gMo_corners s0) ≤ v4 → (P98 v2 (v3 + 1) s0)) ∧ (v4 < (gMo_corners s0) → (rg v3 ∧ ((v3 = v4 → (P109 v2 v3 (v4 + 1) s0)) ∧ (v3 ≠ v4 → (wp_Mo_open v3 v4 s0 (fun r19 => P109 (v2 + r19) v3 (v4 + 1) s0)))))))) → P109 v2 v3 v4 s0) →
  wp_Mo_join (mkMo 0 (gMo_corners s0) (gMo_px s0) (gMo_py s0) (gMo_pz s0) (gMo_triangles s0) (gMo_named s0) (gMo_joined s0) (gMo_dropped s0) (gMo_closed s0) (gMo_layers s0) (gMo_thickness s0) (gMo_cuts s0) (gMo_cx s0) (gMo_cy s0) (gMo_cz s0) (gMo_solids s0) (gMo_shell s0) (gMo_skin s0) (gMo_period s0) (gMo_reach s0) (gMo_gap s0) (gMo_bytes s0) (gMo_played s0) (gMo_at s0) (gMo_program s0) (gMo_beads s0) (gMo_ring s0)) (fun u1 => wp_Mo_drop u1 (fun u2 => P15 0 u2))

/-- LayerSlicerModel.mended(I)I -/
def wp_Mo_mended (x1 : Int) (s0 : s_Mo) (Q : Int → s_Mo → Prop) : Prop :=
  rg x1 ∧ ((x1 ≠ 0 → ((x1 ≠ 1 → ((x1 ≠ 2 → ((x1 ≠ 3 → (Q (-1) (mkMo 0 (gMo_corners s0) (gMo_px s0) (gMo_py s0) (gMo_pz s0) (gMo_triangles s0) (gMo_named s0) (gMo_joined s0) (gMo_dropped s0) (gMo_closed s0) (gMo_layers s0) (gMo_thickness s0) (gMo_cuts s0) (gMo_cx s0) (gMo_cy s0) (gMo_cz s0) (gMo_solids s0) (gMo_shell s0) (gMo_skin s0) (gMo_period s0) (gMo_reach s0) (gMo_gap s0) (gMo_bytes s0) (gMo_played s0) (gMo_at s0) (gMo_program s0) (gMo_beads s0) (gMo_ring s0)))) ∧ (x1 = 3 → (Q (gMo_triangles s0) (mkMo 0 (gMo_corners s0) (gMo_px s0) (gMo_py s0) (gMo_pz s0) (gMo_triangles s0) (gMo_named s0) (gMo_joined s0) (gMo_dropped s0) (gMo_closed s0) (gMo_layers s0) (gMo_thickness s0) (gMo_cuts s0) (gMo_cx s0) (gMo_cy s0) (gMo_cz s0) (gMo_solids s0) (gMo_shell s0) (gMo_skin s0) (gMo_period s0) (gMo_reach s0) (gMo_gap s0) (gMo_bytes s0) (gMo_played s0) (gMo_at s0) (gMo_program s0) (gMo_beads s0) (gMo_ring s0)))))) ∧ (x1 = 2 → (Q (gMo_closed s0) (mkMo 0 (gMo_corners s0) (gMo_px s0) (gMo_py s0) (gMo_pz s0) (gMo_triangles s0) (gMo_named s0) (gMo_joined s0) (gMo_dropped s0) (gMo_closed s0) (gMo_layers s0) (gMo_thickness s0) (gMo_cuts s0) (gMo_cx s0) (gMo_cy s0) (gMo_cz s0) (gMo_solids s0) (gMo_shell s0) (gMo_skin s0) (gMo_period s0) (gMo_reach s0) (gMo_gap s0) (gMo_bytes s0) (gMo_played s0) (gMo_at s0) (gMo_program s0) (gMo_beads s0) (gMo_ring s0)))))) ∧ (x1 = 1 → (Q (gMo_dropped s0) (mkMo 0 (gMo_corners s0) (gMo_px s0) (gMo_py s0) (gMo_pz s0) (gMo_triangles s0) (gMo_named s0) (gMo_joined s0) (gMo_dropped s0) (gMo_closed s0) (gMo_layers s0) (gMo_thickness s0) (gMo_cuts s0) (gMo_cx s0) (gMo_cy s0) (gMo_cz s0) (gMo_solids s0) (gMo_shell s0) (gMo_skin s0) (gMo_period s0) (gMo_reach s0) (gMo_gap s0) (gMo_bytes s0) (gMo_played s0) (gMo_at s0) (gMo_program s0) (gMo_beads s0) (gMo_ring s0)))))) ∧ (x1 = 0 → (Q (gMo_joined s0) (mkMo 0 (gMo_corners s0) (gMo_px s0) (gMo_py s0) (gMo_pz s0) (gMo_triangles s0) (gMo_named s0) (gMo_joined s0) (gMo_dropped s0) (gMo_closed s0) (gMo_layers s0) (gMo_thickness s0) (gMo_cuts s0) (gMo_cx s0) (gMo_cy s0) (gMo_cz s0) (gMo_solids s0) (gMo_shell s0) (gMo_skin s0) (gMo_period s0) (gMo_reach s0) (gMo_gap s0) (gMo_bytes s0) (gMo_played s0) (gMo_at s0) (gMo_program s0) (gMo_beads s0) (gMo_ring s0)))))

/-- LayerSlicerModel.triangle(II)I -/
def wp_Mo_triangle (x1 : Int) (x2 : Int) (s0 : s_Mo) (Q : Int → s_Mo → Prop) : Prop :=
  wp_Mo_in x1 0 ((gMo_triangles s0) - 1) (fun r1 => rg r1 ∧ ((r1 = 0 → (Q (-1) (mkMo 0 (gMo_corners s0) (gMo_px s0) (gMo_py s0) (gMo_pz s0) (gMo_triangles s0) (gMo_named s0) (gMo_joined s0) (gMo_dropped s0) (gMo_closed s0) (gMo_layers s0) (gMo_thickness s0) (gMo_cuts s0) (gMo_cx s0) (gMo_cy s0) (gMo_cz s0) (gMo_solids s0) (gMo_shell s0) (gMo_skin s0) (gMo_period s0) (gMo_reach s0) (gMo_gap s0) (gMo_bytes s0) (gMo_played s0) (gMo_at s0) (gMo_program s0) (gMo_beads s0) (gMo_ring s0)))) ∧ (r1 ≠ 0 → (wp_Mo_in x2 0 2 (fun r3 => rg r3 ∧ ((r3 = 0 → (Q (-1) (mkMo 0 (gMo_corners s0) (gMo_px s0) (gMo_py s0) (gMo_pz s0) (gMo_triangles s0) (gMo_named s0) (gMo_joined s0) (gMo_dropped s0) (gMo_closed s0) (gMo_layers s0) (gMo_thickness s0) (gMo_cuts s0) (gMo_cx s0) (gMo_cy s0) (gMo_cz s0) (gMo_solids s0) (gMo_shell s0) (gMo_skin s0) (gMo_period s0) (gMo_reach s0) (gMo_gap s0) (gMo_bytes s0) (gMo_played s0) (gMo_at s0) (gMo_program s0) (gMo_beads s0) (gMo_ring s0)))) ∧ (r3 ≠ 0 → ((0 ≤ ((3 * x1) + x2) ∧ ((3 * x1) + x2) < 360) ∧ (Q ((gMo_named s0) ((3 * x1) + x2)) (mkMo 0 (gMo_corners s0) (gMo_px s0) (gMo_py s0) (gMo_pz s0) (gMo_triangles s0) (gMo_named s0) (gMo_joined s0) (gMo_dropped s0) (gMo_closed s0) (gMo_layers s0) (gMo_thickness s0) (gMo_cuts s0) (gMo_cx s0) (gMo_cy s0) (gMo_cz s0) (gMo_solids s0) (gMo_shell s0) (gMo_skin s0) (gMo_period s0) (gMo_reach s0) (gMo_gap s0) (gMo_bytes s0) (gMo_played s0) (gMo_at s0) (gMo_program s0) (gMo_beads s0) (gMo_ring s0)))))))))))

/-- LayerSlicerModel.turn(II)Z -/
def wp_Mo_turn (x1 : Int) (x2 : Int) (s0 : s_Mo) (Q : Int → s_Mo → Prop) : Prop :=
  ∀ (P27 : Int → s_Mo → Prop),
  ∀ (P35 : Int → Int → s_Mo → Prop),
  ∀ (P101 : Int → Int → Int → Int → Int → Int → Int → s_Mo → Prop),
  ∀ (P132 : Int → Int → Int → Int → Int → Int → Int → s_Mo → Prop),
  (∀ (v3 : Int) (s0 : s_Mo), (rg v3 ∧ rg x2 ∧ ((x2 ≤ v3 → (Q 1 s0)) ∧ (v3 < x2 → (P35 v3 0 s0)))) → P27 v3 s0) →
  (∀ (v3 : Int) (v4 : Int) (s0 : s_Mo), (rg v4 ∧ rg (gMo_corners s0) ∧ (((gMo_corners s0) ≤ v4 → (P27 (v3 + 1) s0)) ∧ (v4 < (gMo_corners s0) → ((0 ≤ v4 ∧ v4 < 80) ∧ (rg x1 ∧ ((x1 ≠ 0 → ((x1 ≠ 1 → (P101 v3 v4 ((gMo_px s0) v4) ((gMo_py s0) v4) ((gMo_pz s0) v4) (120 - ((gMo_py s0) v4)) v4 s0)) ∧ (x1 = 1 → (P101 v3 v4 ((gMo_px s0) v4) ((gMo_py s0) v4) ((gMo_pz s0) v4) ((gMo_pz s0) v4) v4 s0)))) ∧ (x1 = 0 → (P101 v3 v4 ((gMo_px s0) v4) ((gMo_py s0) v4) ((gMo_pz s0) v4) ((gMo_px s0) v4) v4 s0)))))))) → P35 v3 v4 s0) →
  (∀ (v3 : Int) (v4 : Int) (v5 : Int) (v6 : Int) (v7 : Int) (t0 : Int) (t1 : Int) (s0 : s_Mo), ((0 ≤ t1 ∧ t1 < 80) ∧ (rg x1 ∧ ((x1 ≠ 0 → ((x1 ≠ 1 → (P132 v3 v4 v5 v6 v7 v5 v4 (mkMo (gMo_thrown s0) (gMo_corners s0) (iset (gMo_px s0) t1 t0) (gMo_py s0) (gMo_pz s0) (gMo_triangles s0) (gMo_named s0) (gMo_joined s0) (gMo_dropped s0) (gMo_closed s0) (gMo_layers s0) (gMo_thickness s0) (gMo_cuts s0) (gMo_cx s0) (gMo_cy s0) (gMo_cz s0) (gMo_solids s0) (gMo_shell s0) (gMo_skin s0) (gMo_period s0) (gMo_reach s0) (gMo_gap s0) (gMo_bytes s0) (gMo_played s0) (gMo_at s0) (gMo_program s0) (gMo_beads s0) (gMo_ring s0)))) ∧ (x1 = 1 → (P132 v3 v4 v5 v6 v7 v6 v4 (mkMo (gMo_thrown s0) (gMo_corners s0) (iset (gMo_px s0) t1 t0) (gMo_py s0) (gMo_pz s0) (gMo_triangles s0) (gMo_named s0) (gMo_joined s0) (gMo_dropped s0) (gMo_closed s0) (gMo_layers s0) (gMo_thickness s0) (gMo_cuts s0) (gMo_cx s0) (gMo_cy s0) (gMo_cz s0) (gMo_solids s0) (gMo_shell s0) (gMo_skin s0) (gMo_period s0) (gMo_reach s0) (gMo_gap s0) (gMo_bytes s0) (gMo_played s0) (gMo_at s0) (gMo_program s0) (gMo_beads s0) (gMo_ring s0)))))) ∧ (x1 = 0 → (P132 v3 v4 v5 v6 v7 (120 - v7) v4 (mkMo (gMo_thrown s0) (gMo_corners s0) (iset (gMo_px s0) t1 t0) (gMo_py s0) (gMo_pz s0) (gMo_triangles s0) (gMo_named s0) (gMo_joined s0) (gMo_dropped s0) (gMo_closed s0) (gMo_layers s0) (gMo_thickness s0) (gMo_cuts s0) (gMo_cx s0) (gMo_cy s0) (gMo_cz s0) (gMo_solids s0) (gMo_shell s0) (gMo_skin s0) (gMo_period s0) (gMo_reach s0) (gMo_gap s0) (gMo_bytes s0) (gMo_played s0) (gMo_at s0) (gMo_program s0) (gMo_beads s0) (gMo_ring s0))))))) → P101 v3 v4 v5 v6 v7 t0 t1 s0) →
  (∀ (v3 : Int) (v4 : Int) (v5 : Int) (v6 : Int) (v7 : Int) (t0 : Int) (t1 : Int) (s0 : s_Mo), ((0 ≤ t1 ∧ t1 < 80) ∧ (rg x1 ∧ ((x1 ≠ 0 → ((x1 ≠ 1 → ((0 ≤ v4 ∧ v4 < 80) ∧ (P35 v3 (v4 + 1) (mkMo (gMo_thrown s0) (gMo_corners s0) (gMo_px s0) (iset (gMo_py s0) t1 t0) (iset (gMo_pz s0) v4 v7) (gMo_triangles s0) (gMo_named s0) (gMo_joined s0) (gMo_dropped s0) (gMo_closed s0) (gMo_layers s0) (gMo_thickness s0) (gMo_cuts s0) (gMo_cx s0) (gMo_cy s0) (gMo_cz s0) (gMo_solids s0) (gMo_shell s0) (gMo_skin s0) (gMo_period s0) (gMo_reach s0) (gMo_gap s0) (gMo_bytes s0) (gMo_played s0) (gMo_at s0) (gMo_program s0) (gMo_beads s0) (gMo_ring s0))))) ∧ (x1 = 1 → ((0 ≤ v4 ∧ v4 < 80) ∧ (P35 v3 (v4 + 1) (mkMo (gMo_thrown s0) (gMo_corners s0) (gMo_px s0) (iset (gMo_py s0) t1 t0) (iset (gMo_pz s0) v4 (120 - v5)) (gMo_triangles s0) (gMo_named s0) (gMo_joined s0) (gMo_dropped s0) (gMo_closed s0) (gMo_layers s0) (gMo_thickness s0) (gMo_cuts s0) (gMo_cx s0) (gMo_cy s0) (gMo_cz s0) (gMo_solids s0) (gMo_shell s0) (gMo_skin s0) (gMo_period s0) (gMo_reach s0) (gMo_gap s0) (gMo_bytes s0) (gMo_played s0) (gMo_at s0) (gMo_program s0) (gMo_beads s0) (gMo_ring s0))))))) ∧ (x1 = 0 → ((0 ≤ v4 ∧ v4 < 80) ∧ (P35 v3 (v4 + 1) (mkMo (gMo_thrown s0) (gMo_corners s0) (gMo_px s0) (iset (gMo_py s0) t1 t0) (iset (gMo_pz s0) v4 v6) (gMo_triangles s0) (gMo_named s0) (gMo_joined s0) (gMo_dropped s0) (gMo_closed s0) (gMo_layers s0) (gMo_thickness s0) (gMo_cuts s0) (gMo_cx s0) (gMo_cy s0) (gMo_cz s0) (gMo_solids s0) (gMo_shell s0) (gMo_skin s0) (gMo_period s0) (gMo_reach s0) (gMo_gap s0) (gMo_bytes s0) (gMo_played s0) (gMo_at s0) (gMo_program s0) (gMo_beads s0) (gMo_ring s0)))))))) → P132 v3 v4 v5 v6 v7 t0 t1 s0) →
  wp_Mo_in x1 0 2 (fun r1 => rg r1 ∧ ((r1 = 0 → (Q 0 (mkMo 0 (gMo_corners s0) (gMo_px s0) (gMo_py s0) (gMo_pz s0) (gMo_triangles s0) (gMo_named s0) (gMo_joined s0) (gMo_dropped s0) (gMo_closed s0) (gMo_layers s0) (gMo_thickness s0) (gMo_cuts s0) (gMo_cx s0) (gMo_cy s0) (gMo_cz s0) (gMo_solids s0) (gMo_shell s0) (gMo_skin s0) (gMo_period s0) (gMo_reach s0) (gMo_gap s0) (gMo_bytes s0) (gMo_played s0) (gMo_at s0) (gMo_program s0) (gMo_beads s0) (gMo_ring s0)))) ∧ (r1 ≠ 0 → (wp_Mo_in x2 0 3 (fun r3 => rg r3 ∧ ((r3 ≠ 0 → (P27 0 (mkMo 0 (gMo_corners s0) (gMo_px s0) (gMo_py s0) (gMo_pz s0) (gMo_triangles s0) (gMo_named s0) (gMo_joined s0) (gMo_dropped s0) (gMo_closed s0) (gMo_layers s0) (gMo_thickness s0) (gMo_cuts s0) (gMo_cx s0) (gMo_cy s0) (gMo_cz s0) (gMo_solids s0) (gMo_shell s0) (gMo_skin s0) (gMo_period s0) (gMo_reach s0) (gMo_gap s0) (gMo_bytes s0) (gMo_played s0) (gMo_at s0) (gMo_program s0) (gMo_beads s0) (gMo_ring s0)))) ∧ (r3 = 0 → (Q 0 (mkMo 0 (gMo_corners s0) (gMo_px s0) (gMo_py s0) (gMo_pz s0) (gMo_triangles s0) (gMo_named s0) (gMo_joined s0) (gMo_dropped s0) (gMo_closed s0) (gMo_layers s0) (gMo_thickness s0) (gMo_cuts s0) (gMo_cx s0) (gMo_cy s0) (gMo_cz s0) (gMo_solids s0) (gMo_shell s0) (gMo_skin s0) (gMo_period s0) (gMo_reach s0) (gMo_gap s0) (gMo_bytes s0) (gMo_played s0) (gMo_at s0) (gMo_program s0) (gMo_beads s0) (gMo_ring s0))))))))))

/-- LayerSlicerModel.high(I)I -/
def wp_Mo_high (x1 : Int) (s0 : s_Mo) (Q : Int → Prop) : Prop :=
  Q (((2 * x1) + 1) * (gMo_thickness s0))

/-- LayerSlicerModel.isAbove(II)Z -/
def wp_Mo_isAbove (x1 : Int) (x2 : Int) (s0 : s_Mo) (Q : Int → Prop) : Prop :=
  (0 ≤ x1 ∧ x1 < 360) ∧ (wp_Mo_high x2 s0 (fun r2 => rg (2 * ((gMo_cz s0) x1)) ∧ rg r2 ∧ (((2 * ((gMo_cz s0) x1)) ≤ r2 → (Q 0)) ∧ (r2 < (2 * ((gMo_cz s0) x1)) → (Q 1)))))

/-- LayerSlicerModel.isCut(II)Z -/
def wp_Mo_isCut (x1 : Int) (x2 : Int) (s0 : s_Mo) (Q : Int → Prop) : Prop :=
  wp_Mo_isAbove (3 * x2) x1 s0 (fun r1 => wp_Mo_isAbove ((3 * x2) + 1) x1 s0 (fun r2 => rg r2 ∧ rg r1 ∧ ((r2 ≠ r1 → (Q 1)) ∧ (r2 = r1 → (wp_Mo_isAbove ((3 * x2) + 2) x1 s0 (fun r5 => rg r5 ∧ ((r5 = r1 → (Q 0)) ∧ (r5 ≠ r1 → (Q 1)))))))))

/-- LayerSlicerModel.edgeOf(III)I -/
def wp_Mo_edgeOf (x1 : Int) (x2 : Int) (x3 : Int) (s0 : s_Mo) (Q : Int → Prop) : Prop :=
  ∀ (P6 : Int → Int → Prop),
  (∀ (v4 : Int) (v5 : Int), (rg v5 ∧ ((3 ≤ v5 → (Q (-1))) ∧ (v5 < 3 → (wp_Mo_isAbove ((3 * x2) + v5) x1 s0 (fun r2 => rg (v5 + 1) ∧ (wp_Mo_isAbove ((3 * x2) + (Int.tmod (v5 + 1) 3)) x1 s0 (fun r4 => rg r2 ∧ rg r4 ∧ ((r2 ≠ r4 → (rg v4 ∧ ((v4 ≠ 0 → (P6 (v4 + (-1)) (v5 + 1))) ∧ (v4 = 0 → (Q v5))))) ∧ (r2 = r4 → (P6 v4 (v5 + 1))))))))))) → P6 v4 v5) →
  P6 x3 0

/-- LayerSlicerModel.end(IIII)I -/
def wp_Mo_end (x1 : Int) (x2 : Int) (x3 : Int) (x4 : Int) (s0 : s_Mo) (Q : Int → Prop) : Prop :=
  ∀ (P51 : Int → Int → Prop),
  (∀ (v6 : Int) (v7 : Int), ((0 ≤ v7 ∧ v7 < 360) ∧ ((0 ≤ v6 ∧ v6 < 360) ∧ (wp_Mo_high x1 s0 (fun r7 => rg x4 ∧ ((x4 ≠ 0 → ((x4 ≠ 1 → (Q ((((gMo_cy s0) v6) * (2 * (((gMo_cz s0) v7) - ((gMo_cz s0) v6)))) + ((((gMo_cy s0) v7) - ((gMo_cy s0) v6)) * (r7 - (2 * ((gMo_cz s0) v6))))))) ∧ (x4 = 1 → (Q ((((gMo_cx s0) v6) * (2 * (((gMo_cz s0) v7) - ((gMo_cz s0) v6)))) + ((((gMo_cx s0) v7) - ((gMo_cx s0) v6)) * (r7 - (2 * ((gMo_cz s0) v6))))))))) ∧ (x4 = 0 → (Q (2 * (((gMo_cz s0) v7) - ((gMo_cz s0) v6)))))))))) → P51 v6 v7) →
  wp_Mo_edgeOf x1 x2 x3 s0 (fun r1 => rg (r1 + 1) ∧ (wp_Mo_isAbove ((3 * x2) + r1) x1 s0 (fun r3 => rg r3 ∧ ((r3 = 0 → (P51 ((3 * x2) + r1) ((3 * x2) + (Int.tmod (r1 + 1) 3)))) ∧ (r3 ≠ 0 → (P51 ((3 * x2) + (Int.tmod (r1 + 1) 3)) ((3 * x2) + r1)))))))

/-- LayerSlicerModel.isLeft(IIII)Z -/
def wp_Mo_isLeft (x1 : Int) (x2 : Int) (x3 : Int) (x4 : Int) (s0 : s_Mo) (Q : Int → Prop) : Prop :=
  ∀ (P133 : Int → Int → Int → Int → Int → Int → Int → Int → Int → Int → Prop),
  (∀ (v5 : Int) (v7 : Int) (v9 : Int) (v11 : Int) (v13 : Int) (v15 : Int) (v17 : Int) (v19 : Int) (v21 : Int) (t0 : Int), (rg v21 ∧ rg t0 ∧ ((v21 ≠ t0 → ((v21 = 0 → (rgl ((((v13 * v5) - (v7 * v11)) * ((v17 * v5) - (2 * v9))) - (((v15 * v5) - (v9 * v11)) * ((v19 * v5) - (2 * v7)))) ∧ (((cmpZ ((((v13 * v5) - (v7 * v11)) * ((v17 * v5) - (2 * v9))) - (((v15 * v5) - (v9 * v11)) * ((v19 * v5) - (2 * v7)))) 0) ≤ 0 → (Q 0)) ∧ (0 < (cmpZ ((((v13 * v5) - (v7 * v11)) * ((v17 * v5) - (2 * v9))) - (((v15 * v5) - (v9 * v11)) * ((v19 * v5) - (2 * v7)))) 0) → (Q 1))))) ∧ (v21 ≠ 0 → (rgl ((((v13 * v5) - (v7 * v11)) * ((v17 * v5) - (2 * v9))) - (((v15 * v5) - (v9 * v11)) * ((v19 * v5) - (2 * v7)))) ∧ ((0 ≤ (cmpZ ((((v13 * v5) - (v7 * v11)) * ((v17 * v5) - (2 * v9))) - (((v15 * v5) - (v9 * v11)) * ((v19 * v5) - (2 * v7)))) 0) → (Q 0)) ∧ ((cmpZ ((((v13 * v5) - (v7 * v11)) * ((v17 * v5) - (2 * v9))) - (((v15 * v5) - (v9 * v11)) * ((v19 * v5) - (2 * v7)))) 0) < 0 → (Q 1))))))) ∧ (v21 = t0 → (Q 0)))) → P133 v5 v7 v9 v11 v13 v15 v17 v19 v21 t0) →
  wp_Mo_end x1 x2 0 0 s0 (fun r1 => rg r1 ∧ (wp_Mo_end x1 x2 0 1 s0 (fun r3 => rg r3 ∧ (wp_Mo_end x1 x2 0 2 s0 (fun r5 => rg r5 ∧ (wp_Mo_end x1 x2 1 0 s0 (fun r7 => rg r7 ∧ (wp_Mo_end x1 x2 1 1 s0 (fun r9 => rg r9 ∧ (wp_Mo_end x1 x2 1 2 s0 (fun r11 => rg r11 ∧ (rg x4 ∧ (rg x3 ∧ (rgl (2 * r5) ∧ rgl (((20 * x4) + 9) * r1) ∧ ((0 < (cmpZ (2 * r5) (((20 * x4) + 9) * r1)) → (rgl (2 * r11) ∧ rgl (((20 * x4) + 9) * r7) ∧ ((0 < (cmpZ (2 * r11) (((20 * x4) + 9) * r7)) → (P133 r1 r3 r5 r7 r9 r11 ((20 * x4) + 9) ((20 * x3) + 9) 0 0)) ∧ ((cmpZ (2 * r11) (((20 * x4) + 9) * r7)) ≤ 0 → (P133 r1 r3 r5 r7 r9 r11 ((20 * x4) + 9) ((20 * x3) + 9) 0 1))))) ∧ ((cmpZ (2 * r5) (((20 * x4) + 9) * r1)) ≤ 0 → (rgl (2 * r11) ∧ rgl (((20 * x4) + 9) * r7) ∧ ((0 < (cmpZ (2 * r11) (((20 * x4) + 9) * r7)) → (P133 r1 r3 r5 r7 r9 r11 ((20 * x4) + 9) ((20 * x3) + 9) 1 0)) ∧ ((cmpZ (2 * r11) (((20 * x4) + 9) * r7)) ≤ 0 → (P133 r1 r3 r5 r7 r9 r11 ((20 * x4) + 9) ((20 * x3) + 9) 1 1))))))))))))))))))))

/-- LayerSlicerModel.isInside(III)Z -/
def wp_Mo_isInside (x1 : Int) (x2 : Int) (x3 : Int) (s0 : s_Mo) (Q : Int → Prop) : Prop :=
  ∀ (P6 : Int → Int → Prop),
  (∀ (v4 : Int) (v5 : Int), (rg v5 ∧ rg (gMo_cuts s0) ∧ (((gMo_cuts s0) ≤ v5 → ((v4 = 0 ∨ v4 = 1) ∧ (Q v4))) ∧ (v5 < (gMo_cuts s0) → (wp_Mo_isCut x1 v5 s0 (fun r4 => rg r4 ∧ ((r4 = 0 → (P6 v4 (v5 + 1))) ∧ (r4 ≠ 0 → (wp_Mo_isLeft x1 v5 x2 x3 s0 (fun r6 => rg r6 ∧ ((r6 = 0 → (P6 v4 (v5 + 1))) ∧ (r6 ≠ 0 → (rg v4 ∧ ((v4 ≠ 0 → (P6 0 (v5 + 1))) ∧ (v4 = 0 → (P6 1 (v5 + 1)))))))))))))))) → P6 v4 v5) →
  P6 0 0

/-- LayerSlicerModel.clear()V -/
def wp_Mo_clear (s0 : s_Mo) (Q : s_Mo → Prop) : Prop :=
  ∀ (P12 : Int → s_Mo → Prop),
  (∀ (v1 : Int) (s0 : s_Mo), (rg v1 ∧ ((3456 ≤ v1 → (Q s0)) ∧ (v1 < 3456 → ((0 ≤ v1 ∧ v1 < 3456) ∧ (P12 (v1 + 1) (mkMo (gMo_thrown s0) (gMo_corners s0) (gMo_px s0) (gMo_py s0) (gMo_pz s0) (gMo_triangles s0) (gMo_named s0) (gMo_joined s0) (gMo_dropped s0) (gMo_closed s0) (gMo_layers s0) (gMo_thickness s0) (gMo_cuts s0) (gMo_cx s0) (gMo_cy s0) (gMo_cz s0) (gMo_solids s0) (gMo_shell s0) (gMo_skin s0) (gMo_period s0) (gMo_reach s0) (gMo_gap s0) (gMo_bytes s0) (gMo_played s0) (gMo_at s0) (gMo_program s0) (iset (gMo_beads s0) v1 0) (gMo_ring s0))))))) → P12 v1 s0) →
  P12 0 (mkMo (gMo_thrown s0) (gMo_corners s0) (gMo_px s0) (gMo_py s0) (gMo_pz s0) (gMo_triangles s0) (gMo_named s0) (gMo_joined s0) (gMo_dropped s0) (gMo_closed s0) (gMo_layers s0) (gMo_thickness s0) (gMo_cuts s0) (gMo_cx s0) (gMo_cy s0) (gMo_cz s0) (gMo_solids s0) (gMo_shell s0) (gMo_skin s0) (gMo_period s0) (gMo_reach s0) (gMo_gap s0) (gMo_bytes s0) 0 (-1) (gMo_program s0) (gMo_beads s0) (gMo_ring s0))

/-- LayerSlicerModel.layers(I)I -/
def wp_Mo_layers (x1 : Int) (s0 : s_Mo) (Q : Int → s_Mo → Prop) : Prop :=
  ∀ (P40 : Int → Int → s_Mo → Prop),
  ∀ (P133 : Int → s_Mo → Prop),
  ∀ (P171 : Int → s_Mo → Prop),
  ∀ (P180 : Int → Int → s_Mo → Prop),
  ∀ (P190 : Int → Int → Int → s_Mo → Prop),
  (∀ (v2 : Int) (v3 : Int) (s0 : s_Mo), (rg v3 ∧ rg (3 * (gMo_triangles s0)) ∧ (((3 * (gMo_triangles s0)) ≤ v3 → (P133 v2 (mkMo (gMo_thrown s0) (gMo_corners s0) (gMo_px s0) (gMo_py s0) (gMo_pz s0) (gMo_triangles s0) (gMo_named s0) (gMo_joined s0) (gMo_dropped s0) (gMo_closed s0) 0 (gMo_thickness s0) (gMo_cuts s0) (gMo_cx s0) (gMo_cy s0) (gMo_cz s0) (gMo_solids s0) (gMo_shell s0) (gMo_skin s0) (gMo_period s0) (gMo_reach s0) (gMo_gap s0) (gMo_bytes s0) (gMo_played s0) (gMo_at s0) (gMo_program s0) (gMo_beads s0) (gMo_ring s0)))) ∧ (v3 < (3 * (gMo_triangles s0)) → ((0 ≤ v3 ∧ v3 < 360) ∧ ((0 ≤ ((gMo_named s0) v3) ∧ ((gMo_named s0) v3) < 80) ∧ (rg ((iset (gMo_cz s0) v3 ((gMo_pz s0) ((gMo_named s0) v3))) v3) ∧ rg v2 ∧ ((((iset (gMo_cz s0) v3 ((gMo_pz s0) ((gMo_named s0) v3))) v3) ≤ v2 → (P40 v2 (v3 + 1) (mkMo (gMo_thrown s0) (gMo_corners s0) (gMo_px s0) (gMo_py s0) (gMo_pz s0) (gMo_triangles s0) (gMo_named s0) (gMo_joined s0) (gMo_dropped s0) (gMo_closed s0) (gMo_layers s0) (gMo_thickness s0) (gMo_cuts s0) (iset (gMo_cx s0) v3 ((gMo_px s0) ((gMo_named s0) v3))) (iset (gMo_cy s0) v3 ((gMo_py s0) ((gMo_named s0) v3))) (iset (gMo_cz s0) v3 ((gMo_pz s0) ((gMo_named s0) v3))) (gMo_solids s0) (gMo_shell s0) (gMo_skin s0) (gMo_period s0) (gMo_reach s0) (gMo_gap s0) (gMo_bytes s0) (gMo_played s0) (gMo_at s0) (gMo_program s0) (gMo_beads s0) (gMo_ring s0)))) ∧ (v2 < ((iset (gMo_cz s0) v3 ((gMo_pz s0) ((gMo_named s0) v3))) v3) → (P40 ((iset (gMo_cz s0) v3 ((gMo_pz s0) ((gMo_named s0) v3))) v3) (v3 + 1) (mkMo (gMo_thrown s0) (gMo_corners s0) (gMo_px s0) (gMo_py s0) (gMo_pz s0) (gMo_triangles s0) (gMo_named s0) (gMo_joined s0) (gMo_dropped s0) (gMo_closed s0) (gMo_layers s0) (gMo_thickness s0) (gMo_cuts s0) (iset (gMo_cx s0) v3 ((gMo_px s0) ((gMo_named s0) v3))) (iset (gMo_cy s0) v3 ((gMo_py s0) ((gMo_named s0) v3))) (iset (gMo_cz s0) v3 ((gMo_pz s0) ((gMo_named s0) v3))) (gMo_solids s0) (gMo_shell s0) (gMo_skin s0) (gMo_period s0) (gMo_reach s0) (gMo_gap s0) (gMo_bytes s0) (gMo_played s0) (gMo_at s0) (gMo_program s0) (gMo_beads s0) (gMo_ring s0))))))))))) → P40 v2 v3 s0) →
  (∀ (v2 : Int) (s0 : s_Mo), (rg (gMo_layers s0) ∧ ((24 ≤ (gMo_layers s0) → (P171 0 s0)) ∧ ((gMo_layers s0) < 24 → (wp_Mo_high (gMo_layers s0) s0 (fun r12 => rg r12 ∧ rg (2 * v2) ∧ (((2 * v2) ≤ r12 → (P171 0 s0)) ∧ (r12 < (2 * v2) → (P133 v2 (mkMo (gMo_thrown s0) (gMo_corners s0) (gMo_px s0) (gMo_py s0) (gMo_pz s0) (gMo_triangles s0) (gMo_named s0) (gMo_joined s0) (gMo_dropped s0) (gMo_closed s0) ((gMo_layers s0) + 1) (gMo_thickness s0) (gMo_cuts s0) (gMo_cx s0) (gMo_cy s0) (gMo_cz s0) (gMo_solids s0) (gMo_shell s0) (gMo_skin s0) (gMo_period s0) (gMo_reach s0) (gMo_gap s0) (gMo_bytes s0) (gMo_played s0) (gMo_at s0) (gMo_program s0) (gMo_beads s0) (gMo_ring s0)))))))))) → P133 v2 s0) →
  (∀ (v3 : Int) (s0 : s_Mo), (rg v3 ∧ ((24 ≤ v3 → (wp_Mo_clear (mkMo (gMo_thrown s0) (gMo_corners s0) (gMo_px s0) (gMo_py s0) (gMo_pz s0) (gMo_triangles s0) (gMo_named s0) (gMo_joined s0) (gMo_dropped s0) (gMo_closed s0) (gMo_layers s0) (gMo_thickness s0) (gMo_cuts s0) (gMo_cx s0) (gMo_cy s0) (gMo_cz s0) (gMo_solids s0) (gMo_shell s0) (gMo_skin s0) (gMo_period s0) (gMo_reach s0) (gMo_gap s0) 0 (gMo_played s0) (gMo_at s0) (gMo_program s0) (gMo_beads s0) (gMo_ring s0)) (fun u16 => Q (gMo_layers u16) u16))) ∧ (v3 < 24 → (P180 v3 0 s0)))) → P171 v3 s0) →
  (∀ (v3 : Int) (v4 : Int) (s0 : s_Mo), (rg v4 ∧ ((12 ≤ v4 → (P171 (v3 + 1) s0)) ∧ (v4 < 12 → (P190 v3 v4 0 s0)))) → P180 v3 v4 s0) →
  (∀ (v3 : Int) (v4 : Int) (v5 : Int) (s0 : s_Mo), (rg v5 ∧ ((12 ≤ v5 → (P180 v3 (v4 + 1) s0)) ∧ (v5 < 12 → (rg v3 ∧ rg (gMo_layers s0) ∧ (((gMo_layers s0) ≤ v3 → ((0 ≤ (((144 * v3) + (12 * v4)) + v5) ∧ (((144 * v3) + (12 * v4)) + v5) < 3456) ∧ (P190 v3 v4 (v5 + 1) (mkMo (gMo_thrown s0) (gMo_corners s0) (gMo_px s0) (gMo_py s0) (gMo_pz s0) (gMo_triangles s0) (gMo_named s0) (gMo_joined s0) (gMo_dropped s0) (gMo_closed s0) (gMo_layers s0) (gMo_thickness s0) (gMo_cuts s0) (gMo_cx s0) (gMo_cy s0) (gMo_cz s0) (iset (gMo_solids s0) (((144 * v3) + (12 * v4)) + v5) 0) (gMo_shell s0) (gMo_skin s0) (gMo_period s0) (gMo_reach s0) (gMo_gap s0) (gMo_bytes s0) (gMo_played s0) (gMo_at s0) (gMo_program s0) (gMo_beads s0) (gMo_ring s0))))) ∧ (v3 < (gMo_layers s0) → (wp_Mo_isInside v3 v5 v4 s0 (fun r22 => rg r22 ∧ ((r22 = 0 → ((0 ≤ (((144 * v3) + (12 * v4)) + v5) ∧ (((144 * v3) + (12 * v4)) + v5) < 3456) ∧ (P190 v3 v4 (v5 + 1) (mkMo (gMo_thrown s0) (gMo_corners s0) (gMo_px s0) (gMo_py s0) (gMo_pz s0) (gMo_triangles s0) (gMo_named s0) (gMo_joined s0) (gMo_dropped s0) (gMo_closed s0) (gMo_layers s0) (gMo_thickness s0) (gMo_cuts s0) (gMo_cx s0) (gMo_cy s0) (gMo_cz s0) (iset (gMo_solids s0) (((144 * v3) + (12 * v4)) + v5) 0) (gMo_shell s0) (gMo_skin s0) (gMo_period s0) (gMo_reach s0) (gMo_gap s0) (gMo_bytes s0) (gMo_played s0) (gMo_at s0) (gMo_program s0) (gMo_beads s0) (gMo_ring s0))))) ∧ (r22 ≠ 0 → ((0 ≤ (((144 * v3) + (12 * v4)) + v5) ∧ (((144 * v3) + (12 * v4)) + v5) < 3456) ∧ (P190 v3 v4 (v5 + 1) (mkMo (gMo_thrown s0) (gMo_corners s0) (gMo_px s0) (gMo_py s0) (gMo_pz s0) (gMo_triangles s0) (gMo_named s0) (gMo_joined s0) (gMo_dropped s0) (gMo_closed s0) (gMo_layers s0) (gMo_thickness s0) (gMo_cuts s0) (gMo_cx s0) (gMo_cy s0) (gMo_cz s0) (iset (gMo_solids s0) (((144 * v3) + (12 * v4)) + v5) 1) (gMo_shell s0) (gMo_skin s0) (gMo_period s0) (gMo_reach s0) (gMo_gap s0) (gMo_bytes s0) (gMo_played s0) (gMo_at s0) (gMo_program s0) (gMo_beads s0) (gMo_ring s0)))))))))))))) → P190 v3 v4 v5 s0) →
  wp_Mo_in x1 1 41 (fun r1 => rg r1 ∧ ((r1 = 0 → (Q (-1) (mkMo 0 (gMo_corners s0) (gMo_px s0) (gMo_py s0) (gMo_pz s0) (gMo_triangles s0) (gMo_named s0) (gMo_joined s0) (gMo_dropped s0) (gMo_closed s0) (gMo_layers s0) (gMo_thickness s0) (gMo_cuts s0) (gMo_cx s0) (gMo_cy s0) (gMo_cz s0) (gMo_solids s0) (gMo_shell s0) (gMo_skin s0) (gMo_period s0) (gMo_reach s0) (gMo_gap s0) (gMo_bytes s0) (gMo_played s0) (gMo_at s0) (gMo_program s0) (gMo_beads s0) (gMo_ring s0)))) ∧ (r1 ≠ 0 → (rg x1 ∧ (rg (Int.tmod x1 2) ∧ (((Int.tmod x1 2) ≠ 0 → (P40 0 0 (mkMo 0 (gMo_corners s0) (gMo_px s0) (gMo_py s0) (gMo_pz s0) (gMo_triangles s0) (gMo_named s0) (gMo_joined s0) (gMo_dropped s0) (gMo_closed s0) (gMo_layers s0) x1 (gMo_triangles s0) (gMo_cx s0) (gMo_cy s0) (gMo_cz s0) (gMo_solids s0) (gMo_shell s0) (gMo_skin s0) (gMo_period s0) (gMo_reach s0) (gMo_gap s0) (gMo_bytes s0) (gMo_played s0) (gMo_at s0) (gMo_program s0) (gMo_beads s0) (gMo_ring s0)))) ∧ ((Int.tmod x1 2) = 0 → (Q (-1) (mkMo 0 (gMo_corners s0) (gMo_px s0) (gMo_py s0) (gMo_pz s0) (gMo_triangles s0) (gMo_named s0) (gMo_joined s0) (gMo_dropped s0) (gMo_closed s0) (gMo_layers s0) (gMo_thickness s0) (gMo_cuts s0) (gMo_cx s0) (gMo_cy s0) (gMo_cz s0) (gMo_solids s0) (gMo_shell s0) (gMo_skin s0) (gMo_period s0) (gMo_reach s0) (gMo_gap s0) (gMo_bytes s0) (gMo_played s0) (gMo_at s0) (gMo_program s0) (gMo_beads s0) (gMo_ring s0))))))))))

/-- LayerSlicerModel.cut(IIII)I -/
def wp_Mo_cut (x1 : Int) (x2 : Int) (x3 : Int) (x4 : Int) (s0 : s_Mo) (Q : Int → s_Mo → Prop) : Prop :=
  ∀ (P61 : Int → s_Mo → Prop),
  (∀ (t0 : Int) (s0 : s_Mo), (rg t0 ∧ ((t0 = 0 → ((t0 = 0 → (Q 0 (mkMo 1 (gMo_corners s0) (gMo_px s0) (gMo_py s0) (gMo_pz s0) (gMo_triangles s0) (gMo_named s0) (gMo_joined s0) (gMo_dropped s0) (gMo_closed s0) (gMo_layers s0) (gMo_thickness s0) (gMo_cuts s0) (gMo_cx s0) (gMo_cy s0) (gMo_cz s0) (gMo_solids s0) (gMo_shell s0) (gMo_skin s0) (gMo_period s0) (gMo_reach s0) (gMo_gap s0) (gMo_bytes s0) (gMo_played s0) (gMo_at s0) (gMo_program s0) (gMo_beads s0) (gMo_ring s0)))) ∧ (t0 ≠ 0 → (wp_Mo_end x1 x2 x3 x4 (mkMo 1 (gMo_corners s0) (gMo_px s0) (gMo_py s0) (gMo_pz s0) (gMo_triangles s0) (gMo_named s0) (gMo_joined s0) (gMo_dropped s0) (gMo_closed s0) (gMo_layers s0) (gMo_thickness s0) (gMo_cuts s0) (gMo_cx s0) (gMo_cy s0) (gMo_cz s0) (gMo_solids s0) (gMo_shell s0) (gMo_skin s0) (gMo_period s0) (gMo_reach s0) (gMo_gap s0) (gMo_bytes s0) (gMo_played s0) (gMo_at s0) (gMo_program s0) (gMo_beads s0) (gMo_ring s0)) (fun r12 => Q r12 (mkMo 1 (gMo_corners s0) (gMo_px s0) (gMo_py s0) (gMo_pz s0) (gMo_triangles s0) (gMo_named s0) (gMo_joined s0) (gMo_dropped s0) (gMo_closed s0) (gMo_layers s0) (gMo_thickness s0) (gMo_cuts s0) (gMo_cx s0) (gMo_cy s0) (gMo_cz s0) (gMo_solids s0) (gMo_shell s0) (gMo_skin s0) (gMo_period s0) (gMo_reach s0) (gMo_gap s0) (gMo_bytes s0) (gMo_played s0) (gMo_at s0) (gMo_program s0) (gMo_beads s0) (gMo_ring s0))))))) ∧ (t0 ≠ 0 → ((t0 = 0 → (Q 0 (mkMo 0 (gMo_corners s0) (gMo_px s0) (gMo_py s0) (gMo_pz s0) (gMo_triangles s0) (gMo_named s0) (gMo_joined s0) (gMo_dropped s0) (gMo_closed s0) (gMo_layers s0) (gMo_thickness s0) (gMo_cuts s0) (gMo_cx s0) (gMo_cy s0) (gMo_cz s0) (gMo_solids s0) (gMo_shell s0) (gMo_skin s0) (gMo_period s0) (gMo_reach s0) (gMo_gap s0) (gMo_bytes s0) (gMo_played s0) (gMo_at s0) (gMo_program s0) (gMo_beads s0) (gMo_ring s0)))) ∧ (t0 ≠ 0 → (wp_Mo_end x1 x2 x3 x4 (mkMo 0 (gMo_corners s0) (gMo_px s0) (gMo_py s0) (gMo_pz s0) (gMo_triangles s0) (gMo_named s0) (gMo_joined s0) (gMo_dropped s0) (gMo_closed s0) (gMo_layers s0) (gMo_thickness s0) (gMo_cuts s0) (gMo_cx s0) (gMo_cy s0) (gMo_cz s0) (gMo_solids s0) (gMo_shell s0) (gMo_skin s0) (gMo_period s0) (gMo_reach s0) (gMo_gap s0) (gMo_bytes s0) (gMo_played s0) (gMo_at s0) (gMo_program s0) (gMo_beads s0) (gMo_ring s0)) (fun r13 => Q r13 (mkMo 0 (gMo_corners s0) (gMo_px s0) (gMo_py s0) (gMo_pz s0) (gMo_triangles s0) (gMo_named s0) (gMo_joined s0) (gMo_dropped s0) (gMo_closed s0) (gMo_layers s0) (gMo_thickness s0) (gMo_cuts s0) (gMo_cx s0) (gMo_cy s0) (gMo_cz s0) (gMo_solids s0) (gMo_shell s0) (gMo_skin s0) (gMo_period s0) (gMo_reach s0) (gMo_gap s0) (gMo_bytes s0) (gMo_played s0) (gMo_at s0) (gMo_program s0) (gMo_beads s0) (gMo_ring s0))))))))) → P61 t0 s0) →
  wp_Mo_in x1 0 ((gMo_layers s0) - 1) (fun r1 => rg r1 ∧ ((r1 = 0 → (P61 0 s0)) ∧ (r1 ≠ 0 → (wp_Mo_in x2 0 ((gMo_cuts s0) - 1) (fun r3 => rg r3 ∧ ((r3 = 0 → (P61 0 s0)) ∧ (r3 ≠ 0 → (wp_Mo_in x3 0 1 (fun r5 => rg r5 ∧ ((r5 = 0 → (P61 0 s0)) ∧ (r5 ≠ 0 → (wp_Mo_in x4 0 2 (fun r7 => rg r7 ∧ ((r7 = 0 → (P61 0 s0)) ∧ (r7 ≠ 0 → (wp_Mo_isCut x1 x2 s0 (fun r9 => rg r9 ∧ ((r9 = 0 → (P61 0 s0)) ∧ (r9 ≠ 0 → (P61 1 s0))))))))))))))))))))

/-- LayerSlicerModel.isSolid(III)Z -/
def wp_Mo_isSolid (x1 : Int) (x2 : Int) (x3 : Int) (s0 : s_Mo) (Q : Int → Prop) : Prop :=
  wp_Mo_in x1 0 ((gMo_layers s0) - 1) (fun r1 => rg r1 ∧ ((r1 = 0 → (Q 0)) ∧ (r1 ≠ 0 → (wp_Mo_in x2 0 11 (fun r3 => rg r3 ∧ ((r3 = 0 → (Q 0)) ∧ (r3 ≠ 0 → (wp_Mo_in x3 0 11 (fun r5 => rg r5 ∧ ((r5 = 0 → (Q 0)) ∧ (r5 ≠ 0 → ((0 ≤ (((144 * x1) + (12 * x3)) + x2) ∧ (((144 * x1) + (12 * x3)) + x2) < 3456) ∧ (rg ((gMo_solids s0) (((144 * x1) + (12 * x3)) + x2)) ∧ ((((gMo_solids s0) (((144 * x1) + (12 * x3)) + x2)) = 0 → (Q 0)) ∧ (((gMo_solids s0) (((144 * x1) + (12 * x3)) + x2)) ≠ 0 → (Q 1))))))))))))))))

/-- LayerSlicerModel.solid(III)I -/
def wp_Mo_solid (x1 : Int) (x2 : Int) (x3 : Int) (s0 : s_Mo) (Q : Int → s_Mo → Prop) : Prop :=
  wp_Mo_isSolid x1 x2 x3 (mkMo 0 (gMo_corners s0) (gMo_px s0) (gMo_py s0) (gMo_pz s0) (gMo_triangles s0) (gMo_named s0) (gMo_joined s0) (gMo_dropped s0) (gMo_closed s0) (gMo_layers s0) (gMo_thickness s0) (gMo_cuts s0) (gMo_cx s0) (gMo_cy s0) (gMo_cz s0) (gMo_solids s0) (gMo_shell s0) (gMo_skin s0) (gMo_period s0) (gMo_reach s0) (gMo_gap s0) (gMo_bytes s0) (gMo_played s0) (gMo_at s0) (gMo_program s0) (gMo_beads s0) (gMo_ring s0)) (fun r1 => rg r1 ∧ ((r1 = 0 → (Q 0 (mkMo 0 (gMo_corners s0) (gMo_px s0) (gMo_py s0) (gMo_pz s0) (gMo_triangles s0) (gMo_named s0) (gMo_joined s0) (gMo_dropped s0) (gMo_closed s0) (gMo_layers s0) (gMo_thickness s0) (gMo_cuts s0) (gMo_cx s0) (gMo_cy s0) (gMo_cz s0) (gMo_solids s0) (gMo_shell s0) (gMo_skin s0) (gMo_period s0) (gMo_reach s0) (gMo_gap s0) (gMo_bytes s0) (gMo_played s0) (gMo_at s0) (gMo_program s0) (gMo_beads s0) (gMo_ring s0)))) ∧ (r1 ≠ 0 → (Q 1 (mkMo 0 (gMo_corners s0) (gMo_px s0) (gMo_py s0) (gMo_pz s0) (gMo_triangles s0) (gMo_named s0) (gMo_joined s0) (gMo_dropped s0) (gMo_closed s0) (gMo_layers s0) (gMo_thickness s0) (gMo_cuts s0) (gMo_cx s0) (gMo_cy s0) (gMo_cz s0) (gMo_solids s0) (gMo_shell s0) (gMo_skin s0) (gMo_period s0) (gMo_reach s0) (gMo_gap s0) (gMo_bytes s0) (gMo_played s0) (gMo_at s0) (gMo_program s0) (gMo_beads s0) (gMo_ring s0))))))

/-- LayerSlicerModel.settings(IIIII)Z -/
def wp_Mo_settings (x1 : Int) (x2 : Int) (x3 : Int) (x4 : Int) (x5 : Int) (s0 : s_Mo) (Q : Int → s_Mo → Prop) : Prop :=
  wp_Mo_in x1 0 3 (fun r1 => rg r1 ∧ ((r1 = 0 → (Q 0 (mkMo 0 (gMo_corners s0) (gMo_px s0) (gMo_py s0) (gMo_pz s0) (gMo_triangles s0) (gMo_named s0) (gMo_joined s0) (gMo_dropped s0) (gMo_closed s0) (gMo_layers s0) (gMo_thickness s0) (gMo_cuts s0) (gMo_cx s0) (gMo_cy s0) (gMo_cz s0) (gMo_solids s0) (gMo_shell s0) (gMo_skin s0) (gMo_period s0) (gMo_reach s0) (gMo_gap s0) (gMo_bytes s0) (gMo_played s0) (gMo_at s0) (gMo_program s0) (gMo_beads s0) (gMo_ring s0)))) ∧ (r1 ≠ 0 → (wp_Mo_in x2 0 3 (fun r3 => rg r3 ∧ ((r3 = 0 → (Q 0 (mkMo 0 (gMo_corners s0) (gMo_px s0) (gMo_py s0) (gMo_pz s0) (gMo_triangles s0) (gMo_named s0) (gMo_joined s0) (gMo_dropped s0) (gMo_closed s0) (gMo_layers s0) (gMo_thickness s0) (gMo_cuts s0) (gMo_cx s0) (gMo_cy s0) (gMo_cz s0) (gMo_solids s0) (gMo_shell s0) (gMo_skin s0) (gMo_period s0) (gMo_reach s0) (gMo_gap s0) (gMo_bytes s0) (gMo_played s0) (gMo_at s0) (gMo_program s0) (gMo_beads s0) (gMo_ring s0)))) ∧ (r3 ≠ 0 → (wp_Mo_in x3 0 6 (fun r5 => rg r5 ∧ ((r5 = 0 → (Q 0 (mkMo 0 (gMo_corners s0) (gMo_px s0) (gMo_py s0) (gMo_pz s0) (gMo_triangles s0) (gMo_named s0) (gMo_joined s0) (gMo_dropped s0) (gMo_closed s0) (gMo_layers s0) (gMo_thickness s0) (gMo_cuts s0) (gMo_cx s0) (gMo_cy s0) (gMo_cz s0) (gMo_solids s0) (gMo_shell s0) (gMo_skin s0) (gMo_period s0) (gMo_reach s0) (gMo_gap s0) (gMo_bytes s0) (gMo_played s0) (gMo_at s0) (gMo_program s0) (gMo_beads s0) (gMo_ring s0)))) ∧ (r5 ≠ 0 → (wp_Mo_in x4 0 3 (fun r7 => rg r7 ∧ ((r7 = 0 → (Q 0 (mkMo 0 (gMo_corners s0) (gMo_px s0) (gMo_py s0) (gMo_pz s0) (gMo_triangles s0) (gMo_named s0) (gMo_joined s0) (gMo_dropped s0) (gMo_closed s0) (gMo_layers s0) (gMo_thickness s0) (gMo_cuts s0) (gMo_cx s0) (gMo_cy s0) (gMo_cz s0) (gMo_solids s0) (gMo_shell s0) (gMo_skin s0) (gMo_period s0) (gMo_reach s0) (gMo_gap s0) (gMo_bytes s0) (gMo_played s0) (gMo_at s0) (gMo_program s0) (gMo_beads s0) (gMo_ring s0)))) ∧ (r7 ≠ 0 → (wp_Mo_in x5 0 2 (fun r9 => rg r9 ∧ ((r9 ≠ 0 → (Q 1 (mkMo 0 (gMo_corners s0) (gMo_px s0) (gMo_py s0) (gMo_pz s0) (gMo_triangles s0) (gMo_named s0) (gMo_joined s0) (gMo_dropped s0) (gMo_closed s0) (gMo_layers s0) (gMo_thickness s0) (gMo_cuts s0) (gMo_cx s0) (gMo_cy s0) (gMo_cz s0) (gMo_solids s0) x1 x2 x3 x4 x5 (gMo_bytes s0) (gMo_played s0) (gMo_at s0) (gMo_program s0) (gMo_beads s0) (gMo_ring s0)))) ∧ (r9 = 0 → (Q 0 (mkMo 0 (gMo_corners s0) (gMo_px s0) (gMo_py s0) (gMo_pz s0) (gMo_triangles s0) (gMo_named s0) (gMo_joined s0) (gMo_dropped s0) (gMo_closed s0) (gMo_layers s0) (gMo_thickness s0) (gMo_cuts s0) (gMo_cx s0) (gMo_cy s0) (gMo_cz s0) (gMo_solids s0) (gMo_shell s0) (gMo_skin s0) (gMo_period s0) (gMo_reach s0) (gMo_gap s0) (gMo_bytes s0) (gMo_played s0) (gMo_at s0) (gMo_program s0) (gMo_beads s0) (gMo_ring s0))))))))))))))))))))))

/-- LayerSlicerModel.around(IIII)I -/
def wp_Mo_around (x1 : Int) (x2 : Int) (x3 : Int) (x4 : Int) (s0 : s_Mo) (Q : Int → Prop) : Prop :=
  ∀ (P9 : Int → Int → Prop),
  ∀ (P24 : Int → Int → Int → Prop),
  (∀ (v5 : Int) (v6 : Int), (rg v6 ∧ rg (x2 + x4) ∧ (((x2 + x4) < v6 → (Q v5)) ∧ (v6 ≤ (x2 + x4) → (P24 v5 v6 (x3 - x4))))) → P9 v5 v6) →
  (∀ (v5 : Int) (v6 : Int) (v7 : Int), (rg v7 ∧ rg (x3 + x4) ∧ (((x3 + x4) < v7 → (P9 v5 (v6 + 1))) ∧ (v7 ≤ (x3 + x4) → (wp_Mo_isSolid x1 v6 v7 s0 (fun r5 => rg r5 ∧ ((r5 = 0 → (P24 (v5 + 0) v6 (v7 + 1))) ∧ (r5 ≠ 0 → (P24 (v5 + 1) v6 (v7 + 1))))))))) → P24 v5 v6 v7) →
  P9 0 (x2 - x4)

/-- LayerSlicerModel.hangs(III)Z -/
def wp_Mo_hangs (x1 : Int) (x2 : Int) (x3 : Int) (s0 : s_Mo) (Q : Int → Prop) : Prop :=
  rg x1 ∧ ((x1 ≤ 0 → (Q 0)) ∧ (0 < x1 → (wp_Mo_isSolid x1 x2 x3 s0 (fun r2 => rg r2 ∧ ((r2 = 0 → (Q 0)) ∧ (r2 ≠ 0 → (wp_Mo_around (x1 - 1) x2 x3 (gMo_reach s0) s0 (fun r4 => rg r4 ∧ ((r4 ≠ 0 → (Q 0)) ∧ (r4 = 0 → (Q 1)))))))))))

/-- LayerSlicerModel.kindOf(III)I -/
def wp_Mo_kindOf (x1 : Int) (x2 : Int) (x3 : Int) (s0 : s_Mo) (Q : Int → Prop) : Prop :=
  ∀ (P51 : Int → Prop),
  ∀ (P77 : Int → Prop),
  ∀ (P159 : Int → Prop),
  (∀ (v4 : Int), (rg v4 ∧ rg (gMo_layers s0) ∧ (((gMo_layers s0) ≤ v4 → (P77 v4)) ∧ (v4 < (gMo_layers s0) → (wp_Mo_isSolid v4 x2 x3 s0 (fun r30 => rg r30 ∧ ((r30 ≠ 0 → (P77 v4)) ∧ (r30 = 0 → (P51 (v4 + 1))))))))) → P51 v4) →
  (∀ (v4 : Int), (wp_Mo_hangs v4 x2 x3 s0 (fun r32 => rg r32 ∧ ((r32 ≠ 0 → (rg (gMo_gap s0) ∧ (((gMo_gap s0) ≤ 0 → (Q 5)) ∧ (0 < (gMo_gap s0) → (wp_Mo_around x1 x2 x3 (gMo_gap s0) s0 (fun r35 => rg r35 ∧ ((r35 ≤ 0 → (Q 5)) ∧ (0 < r35 → (Q 6))))))))) ∧ (r32 = 0 → (Q 0))))) → P77 v4) →
  (∀ (v5 : Int), (rg v5 ∧ rg (gMo_skin s0) ∧ (((gMo_skin s0) < v5 → (rg (gMo_period s0) ∧ (((gMo_period s0) ≤ 0 → (Q 4)) ∧ (0 < (gMo_period s0) → (rg x1 ∧ (rg (Int.tmod x1 2) ∧ (((Int.tmod x1 2) ≠ 0 → (rg x3 ∧ 0 < (gMo_period s0) ∧ (rg (Int.tmod x3 (gMo_period s0)) ∧ (((Int.tmod x3 (gMo_period s0)) ≠ 0 → (Q 4)) ∧ ((Int.tmod x3 (gMo_period s0)) = 0 → (Q 3)))))) ∧ ((Int.tmod x1 2) = 0 → (rg x2 ∧ 0 < (gMo_period s0) ∧ (rg (Int.tmod x2 (gMo_period s0)) ∧ (((Int.tmod x2 (gMo_period s0)) ≠ 0 → (Q 4)) ∧ ((Int.tmod x2 (gMo_period s0)) = 0 → (Q 3))))))))))))) ∧ (v5 ≤ (gMo_skin s0) → (wp_Mo_isSolid (x1 - v5) x2 x3 s0 (fun r24 => rg r24 ∧ ((r24 = 0 → (Q 2)) ∧ (r24 ≠ 0 → (wp_Mo_isSolid (x1 + v5) x2 x3 s0 (fun r26 => rg r26 ∧ ((r26 ≠ 0 → (P159 (v5 + 1))) ∧ (r26 = 0 → (Q 2)))))))))))) → P159 v5) →
  wp_Mo_in x1 0 ((gMo_layers s0) - 1) (fun r1 => rg r1 ∧ ((r1 = 0 → (Q 0)) ∧ (r1 ≠ 0 → (wp_Mo_in x2 0 11 (fun r3 => rg r3 ∧ ((r3 = 0 → (Q 0)) ∧ (r3 ≠ 0 → (wp_Mo_in x3 0 11 (fun r5 => rg r5 ∧ ((r5 ≠ 0 → (wp_Mo_isSolid x1 x2 x3 s0 (fun r7 => rg r7 ∧ ((r7 ≠ 0 → (rg (gMo_shell s0) ∧ (((gMo_shell s0) ≤ 0 → (P159 1)) ∧ (0 < (gMo_shell s0) → (wp_Mo_around x1 x2 x3 (gMo_shell s0) s0 (fun r10 => rg r10 ∧ rg (((2 * (gMo_shell s0)) + 1) * ((2 * (gMo_shell s0)) + 1)) ∧ (((((2 * (gMo_shell s0)) + 1) * ((2 * (gMo_shell s0)) + 1)) ≤ r10 → (P159 1)) ∧ (r10 < (((2 * (gMo_shell s0)) + 1) * ((2 * (gMo_shell s0)) + 1)) → (Q 1))))))))) ∧ (r7 = 0 → (P51 (x1 + 1))))))) ∧ (r5 = 0 → (Q 0))))))))))))

/-- LayerSlicerModel.kind(III)I -/
def wp_Mo_kind (x1 : Int) (x2 : Int) (x3 : Int) (s0 : s_Mo) (Q : Int → s_Mo → Prop) : Prop :=
  wp_Mo_kindOf x1 x2 x3 (mkMo 0 (gMo_corners s0) (gMo_px s0) (gMo_py s0) (gMo_pz s0) (gMo_triangles s0) (gMo_named s0) (gMo_joined s0) (gMo_dropped s0) (gMo_closed s0) (gMo_layers s0) (gMo_thickness s0) (gMo_cuts s0) (gMo_cx s0) (gMo_cy s0) (gMo_cz s0) (gMo_solids s0) (gMo_shell s0) (gMo_skin s0) (gMo_period s0) (gMo_reach s0) (gMo_gap s0) (gMo_bytes s0) (gMo_played s0) (gMo_at s0) (gMo_program s0) (gMo_beads s0) (gMo_ring s0)) (fun r1 => Q r1 (mkMo 0 (gMo_corners s0) (gMo_px s0) (gMo_py s0) (gMo_pz s0) (gMo_triangles s0) (gMo_named s0) (gMo_joined s0) (gMo_dropped s0) (gMo_closed s0) (gMo_layers s0) (gMo_thickness s0) (gMo_cuts s0) (gMo_cx s0) (gMo_cy s0) (gMo_cz s0) (gMo_solids s0) (gMo_shell s0) (gMo_skin s0) (gMo_period s0) (gMo_reach s0) (gMo_gap s0) (gMo_bytes s0) (gMo_played s0) (gMo_at s0) (gMo_program s0) (gMo_beads s0) (gMo_ring s0)))

/-- LayerSlicerModel.overhang(I)I -/
def wp_Mo_overhang (x1 : Int) (s0 : s_Mo) (Q : Int → s_Mo → Prop) : Prop :=
  ∀ (P9 : Int → Int → s_Mo → Prop),
  ∀ (P18 : Int → Int → Int → s_Mo → Prop),
  (∀ (v2 : Int) (v3 : Int) (s0 : s_Mo), (rg v3 ∧ ((12 ≤ v3 → (Q v2 s0)) ∧ (v3 < 12 → (P18 v2 v3 0 s0)))) → P9 v2 v3 s0) →
  (∀ (v2 : Int) (v3 : Int) (v4 : Int) (s0 : s_Mo), (rg v4 ∧ ((12 ≤ v4 → (P9 v2 (v3 + 1) s0)) ∧ (v4 < 12 → (wp_Mo_in x1 0 ((gMo_layers s0) - 1) (fun r3 => rg r3 ∧ ((r3 = 0 → (P18 (v2 + 0) v3 (v4 + 1) s0)) ∧ (r3 ≠ 0 → (wp_Mo_hangs x1 v3 v4 s0 (fun r5 => rg r5 ∧ ((r5 = 0 → (P18 (v2 + 0) v3 (v4 + 1) s0)) ∧ (r5 ≠ 0 → (P18 (v2 + 1) v3 (v4 + 1) s0)))))))))))) → P18 v2 v3 v4 s0) →
  P9 0 0 (mkMo 0 (gMo_corners s0) (gMo_px s0) (gMo_py s0) (gMo_pz s0) (gMo_triangles s0) (gMo_named s0) (gMo_joined s0) (gMo_dropped s0) (gMo_closed s0) (gMo_layers s0) (gMo_thickness s0) (gMo_cuts s0) (gMo_cx s0) (gMo_cy s0) (gMo_cz s0) (gMo_solids s0) (gMo_shell s0) (gMo_skin s0) (gMo_period s0) (gMo_reach s0) (gMo_gap s0) (gMo_bytes s0) (gMo_played s0) (gMo_at s0) (gMo_program s0) (gMo_beads s0) (gMo_ring s0))

/-- LayerSlicerModel.volume(I)I -/
def wp_Mo_volume (x1 : Int) (s0 : s_Mo) (Q : Int → s_Mo → Prop) : Prop :=
  ∀ (P21 : Int → Int → s_Mo → Prop),
  ∀ (P32 : Int → Int → Int → s_Mo → Prop),
  ∀ (P42 : Int → Int → Int → Int → s_Mo → Prop),
  (∀ (v2 : Int) (v3 : Int) (s0 : s_Mo), (rg v3 ∧ rg (gMo_layers s0) ∧ (((gMo_layers s0) ≤ v3 → (Q v2 s0)) ∧ (v3 < (gMo_layers s0) → (P32 v2 v3 0 s0)))) → P21 v2 v3 s0) →
  (∀ (v2 : Int) (v3 : Int) (v4 : Int) (s0 : s_Mo), (rg v4 ∧ ((12 ≤ v4 → (P21 v2 (v3 + 1) s0)) ∧ (v4 < 12 → (P42 v2 v3 v4 0 s0)))) → P32 v2 v3 v4 s0) →
  (∀ (v2 : Int) (v3 : Int) (v4 : Int) (v5 : Int) (s0 : s_Mo), (rg v5 ∧ ((12 ≤ v5 → (P32 v2 v3 (v4 + 1) s0)) ∧ (v5 < 12 → (wp_Mo_kindOf v3 v4 v5 s0 (fun r7 => rg r7 ∧ rg x1 ∧ ((r7 ≠ x1 → (P42 (v2 + 0) v3 v4 (v5 + 1) s0)) ∧ (r7 = x1 → (P42 (v2 + 1) v3 v4 (v5 + 1) s0)))))))) → P42 v2 v3 v4 v5 s0) →
  wp_Mo_in x1 0 6 (fun r1 => rg r1 ∧ ((r1 ≠ 0 → (P21 0 0 (mkMo 0 (gMo_corners s0) (gMo_px s0) (gMo_py s0) (gMo_pz s0) (gMo_triangles s0) (gMo_named s0) (gMo_joined s0) (gMo_dropped s0) (gMo_closed s0) (gMo_layers s0) (gMo_thickness s0) (gMo_cuts s0) (gMo_cx s0) (gMo_cy s0) (gMo_cz s0) (gMo_solids s0) (gMo_shell s0) (gMo_skin s0) (gMo_period s0) (gMo_reach s0) (gMo_gap s0) (gMo_bytes s0) (gMo_played s0) (gMo_at s0) (gMo_program s0) (gMo_beads s0) (gMo_ring s0)))) ∧ (r1 = 0 → (Q (-1) (mkMo 0 (gMo_corners s0) (gMo_px s0) (gMo_py s0) (gMo_pz s0) (gMo_triangles s0) (gMo_named s0) (gMo_joined s0) (gMo_dropped s0) (gMo_closed s0) (gMo_layers s0) (gMo_thickness s0) (gMo_cuts s0) (gMo_cx s0) (gMo_cy s0) (gMo_cz s0) (gMo_solids s0) (gMo_shell s0) (gMo_skin s0) (gMo_period s0) (gMo_reach s0) (gMo_gap s0) (gMo_bytes s0) (gMo_played s0) (gMo_at s0) (gMo_program s0) (gMo_beads s0) (gMo_ring s0))))))

/-- LayerSlicerModel.isLaid(I)Z -/
def wp_Mo_isLaid (x0 : Int) (Q : Int → Prop) : Prop :=
  rg x0 ∧ ((x0 = 1 → (Q 1)) ∧ (x0 ≠ 1 → ((x0 = 2 → (Q 1)) ∧ (x0 ≠ 2 → ((x0 = 3 → (Q 1)) ∧ (x0 ≠ 3 → ((x0 ≠ 5 → (Q 0)) ∧ (x0 = 5 → (Q 1)))))))))

/-- LayerSlicerModel.begins(II)I -/
def wp_Mo_begins (x1 : Int) (x2 : Int) (s0 : s_Mo) (Q : Int → Prop) : Prop :=
  ∀ (P5 : Int → Int → Prop),
  (∀ (v3 : Int) (v4 : Int), (rg v4 ∧ ((144 ≤ v4 → (Q (-1))) ∧ (v4 < 144 → (wp_Mo_kindOf x1 (Int.tmod v4 12) (Int.tdiv v4 12) s0 (fun r2 => wp_Mo_isLaid r2 (fun r3 => rg r3 ∧ ((r3 = 0 → (P5 v3 (v4 + 1))) ∧ (r3 ≠ 0 → (rg (Int.tmod v4 12) ∧ (((Int.tmod v4 12) ≤ 0 → (rg v3 ∧ ((v3 ≠ 0 → (P5 (v3 + (-1)) (v4 + 1))) ∧ (v3 = 0 → (Q v4))))) ∧ (0 < (Int.tmod v4 12) → (wp_Mo_kindOf x1 ((Int.tmod v4 12) - 1) (Int.tdiv v4 12) s0 (fun r7 => rg r7 ∧ rg r2 ∧ ((r7 ≠ r2 → (rg v3 ∧ ((v3 ≠ 0 → (P5 (v3 + (-1)) (v4 + 1))) ∧ (v3 = 0 → (Q v4))))) ∧ (r7 = r2 → (P5 v3 (v4 + 1))))))))))))))))) → P5 v3 v4) →
  P5 x2 0

/-- LayerSlicerModel.longAt(II)I -/
def wp_Mo_longAt (x1 : Int) (x2 : Int) (s0 : s_Mo) (Q : Int → Prop) : Prop :=
  ∀ (P2 : Int → Prop),
  (∀ (v3 : Int), (rg x2 ∧ (rg ((Int.tmod x2 12) + v3) ∧ ((12 ≤ ((Int.tmod x2 12) + v3) → (Q v3)) ∧ (((Int.tmod x2 12) + v3) < 12 → (wp_Mo_kindOf x1 ((Int.tmod x2 12) + v3) (Int.tdiv x2 12) s0 (fun r3 => wp_Mo_kindOf x1 (Int.tmod x2 12) (Int.tdiv x2 12) s0 (fun r4 => rg r3 ∧ rg r4 ∧ ((r3 ≠ r4 → (Q v3)) ∧ (r3 = r4 → (P2 (v3 + 1))))))))))) → P2 v3) →
  P2 1

/-- LayerSlicerModel.pathsOf(I)I -/
def wp_Mo_pathsOf (x1 : Int) (s0 : s_Mo) (Q : Int → Prop) : Prop :=
  ∀ (P2 : Int → Prop),
  (∀ (v2 : Int), (wp_Mo_in x1 0 ((gMo_layers s0) - 1) (fun r1 => rg r1 ∧ ((r1 = 0 → (Q v2)) ∧ (r1 ≠ 0 → (wp_Mo_begins x1 v2 s0 (fun r3 => rg r3 ∧ ((r3 < 0 → (Q v2)) ∧ (0 ≤ r3 → (P2 (v2 + 1)))))))))) → P2 v2) →
  P2 0

/-- LayerSlicerModel.paths(I)I -/
def wp_Mo_paths (x1 : Int) (s0 : s_Mo) (Q : Int → s_Mo → Prop) : Prop :=
  wp_Mo_pathsOf x1 (mkMo 0 (gMo_corners s0) (gMo_px s0) (gMo_py s0) (gMo_pz s0) (gMo_triangles s0) (gMo_named s0) (gMo_joined s0) (gMo_dropped s0) (gMo_closed s0) (gMo_layers s0) (gMo_thickness s0) (gMo_cuts s0) (gMo_cx s0) (gMo_cy s0) (gMo_cz s0) (gMo_solids s0) (gMo_shell s0) (gMo_skin s0) (gMo_period s0) (gMo_reach s0) (gMo_gap s0) (gMo_bytes s0) (gMo_played s0) (gMo_at s0) (gMo_program s0) (gMo_beads s0) (gMo_ring s0)) (fun r1 => Q r1 (mkMo 0 (gMo_corners s0) (gMo_px s0) (gMo_py s0) (gMo_pz s0) (gMo_triangles s0) (gMo_named s0) (gMo_joined s0) (gMo_dropped s0) (gMo_closed s0) (gMo_layers s0) (gMo_thickness s0) (gMo_cuts s0) (gMo_cx s0) (gMo_cy s0) (gMo_cz s0) (gMo_solids s0) (gMo_shell s0) (gMo_skin s0) (gMo_period s0) (gMo_reach s0) (gMo_gap s0) (gMo_bytes s0) (gMo_played s0) (gMo_at s0) (gMo_program s0) (gMo_beads s0) (gMo_ring s0)))

/-- LayerSlicerModel.path(III)I -/
def wp_Mo_path (x1 : Int) (x2 : Int) (x3 : Int) (s0 : s_Mo) (Q : Int → s_Mo → Prop) : Prop :=
  ∀ (P50 : Int → Int → s_Mo → Prop),
  (∀ (v4 : Int) (t0 : Int) (s0 : s_Mo), (rg v4 ∧ ((0 ≤ v4 → (rg x3 ∧ ((x3 ≠ 0 → ((x3 ≠ 1 → ((x3 ≠ 2 → (wp_Mo_longAt x1 v4 (mkMo t0 (gMo_corners s0) (gMo_px s0) (gMo_py s0) (gMo_pz s0) (gMo_triangles s0) (gMo_named s0) (gMo_joined s0) (gMo_dropped s0) (gMo_closed s0) (gMo_layers s0) (gMo_thickness s0) (gMo_cuts s0) (gMo_cx s0) (gMo_cy s0) (gMo_cz s0) (gMo_solids s0) (gMo_shell s0) (gMo_skin s0) (gMo_period s0) (gMo_reach s0) (gMo_gap s0) (gMo_bytes s0) (gMo_played s0) (gMo_at s0) (gMo_program s0) (gMo_beads s0) (gMo_ring s0)) (fun r10 => Q r10 (mkMo t0 (gMo_corners s0) (gMo_px s0) (gMo_py s0) (gMo_pz s0) (gMo_triangles s0) (gMo_named s0) (gMo_joined s0) (gMo_dropped s0) (gMo_closed s0) (gMo_layers s0) (gMo_thickness s0) (gMo_cuts s0) (gMo_cx s0) (gMo_cy s0) (gMo_cz s0) (gMo_solids s0) (gMo_shell s0) (gMo_skin s0) (gMo_period s0) (gMo_reach s0) (gMo_gap s0) (gMo_bytes s0) (gMo_played s0) (gMo_at s0) (gMo_program s0) (gMo_beads s0) (gMo_ring s0))))) ∧ (x3 = 2 → (Q (Int.tdiv v4 12) (mkMo t0 (gMo_corners s0) (gMo_px s0) (gMo_py s0) (gMo_pz s0) (gMo_triangles s0) (gMo_named s0) (gMo_joined s0) (gMo_dropped s0) (gMo_closed s0) (gMo_layers s0) (gMo_thickness s0) (gMo_cuts s0) (gMo_cx s0) (gMo_cy s0) (gMo_cz s0) (gMo_solids s0) (gMo_shell s0) (gMo_skin s0) (gMo_period s0) (gMo_reach s0) (gMo_gap s0) (gMo_bytes s0) (gMo_played s0) (gMo_at s0) (gMo_program s0) (gMo_beads s0) (gMo_ring s0)))))) ∧ (x3 = 1 → (Q (Int.tmod v4 12) (mkMo t0 (gMo_corners s0) (gMo_px s0) (gMo_py s0) (gMo_pz s0) (gMo_triangles s0) (gMo_named s0) (gMo_joined s0) (gMo_dropped s0) (gMo_closed s0) (gMo_layers s0) (gMo_thickness s0) (gMo_cuts s0) (gMo_cx s0) (gMo_cy s0) (gMo_cz s0) (gMo_solids s0) (gMo_shell s0) (gMo_skin s0) (gMo_period s0) (gMo_reach s0) (gMo_gap s0) (gMo_bytes s0) (gMo_played s0) (gMo_at s0) (gMo_program s0) (gMo_beads s0) (gMo_ring s0)))))) ∧ (x3 = 0 → (wp_Mo_kindOf x1 (Int.tmod v4 12) (Int.tdiv v4 12) (mkMo t0 (gMo_corners s0) (gMo_px s0) (gMo_py s0) (gMo_pz s0) (gMo_triangles s0) (gMo_named s0) (gMo_joined s0) (gMo_dropped s0) (gMo_closed s0) (gMo_layers s0) (gMo_thickness s0) (gMo_cuts s0) (gMo_cx s0) (gMo_cy s0) (gMo_cz s0) (gMo_solids s0) (gMo_shell s0) (gMo_skin s0) (gMo_period s0) (gMo_reach s0) (gMo_gap s0) (gMo_bytes s0) (gMo_played s0) (gMo_at s0) (gMo_program s0) (gMo_beads s0) (gMo_ring s0)) (fun r11 => Q r11 (mkMo t0 (gMo_corners s0) (gMo_px s0) (gMo_py s0) (gMo_pz s0) (gMo_triangles s0) (gMo_named s0) (gMo_joined s0) (gMo_dropped s0) (gMo_closed s0) (gMo_layers s0) (gMo_thickness s0) (gMo_cuts s0) (gMo_cx s0) (gMo_cy s0) (gMo_cz s0) (gMo_solids s0) (gMo_shell s0) (gMo_skin s0) (gMo_period s0) (gMo_reach s0) (gMo_gap s0) (gMo_bytes s0) (gMo_played s0) (gMo_at s0) (gMo_program s0) (gMo_beads s0) (gMo_ring s0)))))))) ∧ (v4 < 0 → (Q 0 (mkMo t0 (gMo_corners s0) (gMo_px s0) (gMo_py s0) (gMo_pz s0) (gMo_triangles s0) (gMo_named s0) (gMo_joined s0) (gMo_dropped s0) (gMo_closed s0) (gMo_layers s0) (gMo_thickness s0) (gMo_cuts s0) (gMo_cx s0) (gMo_cy s0) (gMo_cz s0) (gMo_solids s0) (gMo_shell s0) (gMo_skin s0) (gMo_period s0) (gMo_reach s0) (gMo_gap s0) (gMo_bytes s0) (gMo_played s0) (gMo_at s0) (gMo_program s0) (gMo_beads s0) (gMo_ring s0)))))) → P50 v4 t0 s0) →
  wp_Mo_in x1 0 ((gMo_layers s0) - 1) (fun r1 => rg r1 ∧ ((r1 = 0 → (P50 (-1) 1 s0)) ∧ (r1 ≠ 0 → (rg x2 ∧ ((x2 < 0 → (P50 (-1) 1 s0)) ∧ (0 ≤ x2 → (wp_Mo_in x3 0 3 (fun r4 => rg r4 ∧ ((r4 = 0 → (P50 (-1) 1 s0)) ∧ (r4 ≠ 0 → (wp_Mo_begins x1 x2 s0 (fun r6 => rg r6 ∧ ((r6 < 0 → (P50 r6 1 s0)) ∧ (0 ≤ r6 → (P50 r6 0 s0)))))))))))))))

/-- LayerSlicerModel.put(I)V -/
def wp_Mo_put (x1 : Int) (s0 : s_Mo) (Q : s_Mo → Prop) : Prop :=
  (0 ≤ (gMo_bytes s0) ∧ (gMo_bytes s0) < 17400) ∧ (Q (mkMo (gMo_thrown s0) (gMo_corners s0) (gMo_px s0) (gMo_py s0) (gMo_pz s0) (gMo_triangles s0) (gMo_named s0) (gMo_joined s0) (gMo_dropped s0) (gMo_closed s0) (gMo_layers s0) (gMo_thickness s0) (gMo_cuts s0) (gMo_cx s0) (gMo_cy s0) (gMo_cz s0) (gMo_solids s0) (gMo_shell s0) (gMo_skin s0) (gMo_period s0) (gMo_reach s0) (gMo_gap s0) ((gMo_bytes s0) + 1) (gMo_played s0) (gMo_at s0) (iset (gMo_program s0) (gMo_bytes s0) x1) (gMo_beads s0) (gMo_ring s0)))

/-- LayerSlicerModel.emit()I -/
def wp_Mo_emit (s0 : s_Mo) (Q : Int → s_Mo → Prop) : Prop :=
  ∀ (P16 : Int → s_Mo → Prop),
  ∀ (P33 : Int → Int → s_Mo → Prop),
  ∀ (P90 : Int → Int → Int → s_Mo → Prop),
  (∀ (v1 : Int) (s0 : s_Mo), (rg v1 ∧ rg (gMo_layers s0) ∧ (((gMo_layers s0) ≤ v1 → (Q (gMo_bytes s0) s0)) ∧ (v1 < (gMo_layers s0) → (wp_Mo_put 200 s0 (fun u4 => P33 v1 0 u4))))) → P16 v1 s0) →
  (∀ (v1 : Int) (v2 : Int) (s0 : s_Mo), (rg v2 ∧ ((144 ≤ v2 → (P16 (v1 + 1) s0)) ∧ (v2 < 144 → (wp_Mo_kindOf v1 (Int.tmod v2 12) (Int.tdiv v2 12) s0 (fun r6 => wp_Mo_isLaid r6 (fun r7 => rg r7 ∧ ((r7 = 0 → (P33 v1 (v2 + 1) s0)) ∧ (r7 ≠ 0 → (rg (Int.tmod v2 12) ∧ (((Int.tmod v2 12) ≤ 0 → (P90 v1 v2 r6 s0)) ∧ (0 < (Int.tmod v2 12) → (wp_Mo_kindOf v1 ((Int.tmod v2 12) - 1) (Int.tdiv v2 12) s0 (fun r10 => rg r10 ∧ rg r6 ∧ ((r10 ≠ r6 → (P90 v1 v2 r6 s0)) ∧ (r10 = r6 → (P33 v1 (v2 + 1) s0)))))))))))))))) → P33 v1 v2 s0) →
  (∀ (v1 : Int) (v2 : Int) (v3 : Int) (s0 : s_Mo), (wp_Mo_put 201 s0 (fun u13 => rg v2 ∧ (wp_Mo_put (Int.tmod v2 12) u13 (fun u15 => wp_Mo_put (Int.tdiv v2 12) u15 (fun u16 => wp_Mo_put v3 u16 (fun u17 => wp_Mo_longAt v1 v2 u17 (fun r18 => wp_Mo_put r18 u17 (fun u19 => P33 v1 (v2 + 1) u19)))))))) → P90 v1 v2 v3 s0) →
  wp_Mo_clear (mkMo 0 (gMo_corners s0) (gMo_px s0) (gMo_py s0) (gMo_pz s0) (gMo_triangles s0) (gMo_named s0) (gMo_joined s0) (gMo_dropped s0) (gMo_closed s0) (gMo_layers s0) (gMo_thickness s0) (gMo_cuts s0) (gMo_cx s0) (gMo_cy s0) (gMo_cz s0) (gMo_solids s0) (gMo_shell s0) (gMo_skin s0) (gMo_period s0) (gMo_reach s0) (gMo_gap s0) 0 (gMo_played s0) (gMo_at s0) (gMo_program s0) (gMo_beads s0) (gMo_ring s0)) (fun u1 => P16 0 u1)

/-- LayerSlicerModel.byteOf(I)I -/
def wp_Mo_byteOf (x1 : Int) (s0 : s_Mo) (Q : Int → s_Mo → Prop) : Prop :=
  wp_Mo_in x1 0 ((gMo_bytes s0) - 1) (fun r1 => rg r1 ∧ ((r1 = 0 → (Q (-1) (mkMo 0 (gMo_corners s0) (gMo_px s0) (gMo_py s0) (gMo_pz s0) (gMo_triangles s0) (gMo_named s0) (gMo_joined s0) (gMo_dropped s0) (gMo_closed s0) (gMo_layers s0) (gMo_thickness s0) (gMo_cuts s0) (gMo_cx s0) (gMo_cy s0) (gMo_cz s0) (gMo_solids s0) (gMo_shell s0) (gMo_skin s0) (gMo_period s0) (gMo_reach s0) (gMo_gap s0) (gMo_bytes s0) (gMo_played s0) (gMo_at s0) (gMo_program s0) (gMo_beads s0) (gMo_ring s0)))) ∧ (r1 ≠ 0 → ((0 ≤ x1 ∧ x1 < 17400) ∧ (Q ((gMo_program s0) x1) (mkMo 0 (gMo_corners s0) (gMo_px s0) (gMo_py s0) (gMo_pz s0) (gMo_triangles s0) (gMo_named s0) (gMo_joined s0) (gMo_dropped s0) (gMo_closed s0) (gMo_layers s0) (gMo_thickness s0) (gMo_cuts s0) (gMo_cx s0) (gMo_cy s0) (gMo_cz s0) (gMo_solids s0) (gMo_shell s0) (gMo_skin s0) (gMo_period s0) (gMo_reach s0) (gMo_gap s0) (gMo_bytes s0) (gMo_played s0) (gMo_at s0) (gMo_program s0) (gMo_beads s0) (gMo_ring s0)))))))

/-- LayerSlicerModel.play(I)I -/
def wp_Mo_play (x1 : Int) (s0 : s_Mo) (Q : Int → s_Mo → Prop) : Prop :=
  ∀ (P7 : Int → s_Mo → Prop),
  ∀ (P63 : Int → Int → s_Mo → Prop),
  (∀ (v2 : Int) (s0 : s_Mo), (rg v2 ∧ rg x1 ∧ ((x1 ≤ v2 → (Q v2 s0)) ∧ (v2 < x1 → (rg (gMo_played s0) ∧ rg (gMo_bytes s0) ∧ (((gMo_bytes s0) ≤ (gMo_played s0) → (Q v2 s0)) ∧ ((gMo_played s0) < (gMo_bytes s0) → ((0 ≤ (gMo_played s0) ∧ (gMo_played s0) < 17400) ∧ (rg ((gMo_program s0) (gMo_played s0)) ∧ ((((gMo_program s0) (gMo_played s0)) ≠ 200 → (P63 v2 0 s0)) ∧ (((gMo_program s0) (gMo_played s0)) = 200 → (P7 (v2 + 1) (mkMo (gMo_thrown s0) (gMo_corners s0) (gMo_px s0) (gMo_py s0) (gMo_pz s0) (gMo_triangles s0) (gMo_named s0) (gMo_joined s0) (gMo_dropped s0) (gMo_closed s0) (gMo_layers s0) (gMo_thickness s0) (gMo_cuts s0) (gMo_cx s0) (gMo_cy s0) (gMo_cz s0) (gMo_solids s0) (gMo_shell s0) (gMo_skin s0) (gMo_period s0) (gMo_reach s0) (gMo_gap s0) (gMo_bytes s0) ((gMo_played s0) + 1) ((gMo_at s0) + 1) (gMo_program s0) (gMo_beads s0) (gMo_ring s0))))))))))))) → P7 v2 s0) →
  (∀ (v2 : Int) (v3 : Int) (s0 : s_Mo), ((0 ≤ ((gMo_played s0) + 4) ∧ ((gMo_played s0) + 4) < 17400) ∧ (rg v3 ∧ rg ((gMo_program s0) ((gMo_played s0) + 4)) ∧ ((((gMo_program s0) ((gMo_played s0) + 4)) ≤ v3 → (P7 (v2 + 1) (mkMo (gMo_thrown s0) (gMo_corners s0) (gMo_px s0) (gMo_py s0) (gMo_pz s0) (gMo_triangles s0) (gMo_named s0) (gMo_joined s0) (gMo_dropped s0) (gMo_closed s0) (gMo_layers s0) (gMo_thickness s0) (gMo_cuts s0) (gMo_cx s0) (gMo_cy s0) (gMo_cz s0) (gMo_solids s0) (gMo_shell s0) (gMo_skin s0) (gMo_period s0) (gMo_reach s0) (gMo_gap s0) (gMo_bytes s0) ((gMo_played s0) + 5) (gMo_at s0) (gMo_program s0) (gMo_beads s0) (gMo_ring s0)))) ∧ (v3 < ((gMo_program s0) ((gMo_played s0) + 4)) → ((0 ≤ ((gMo_played s0) + 2) ∧ ((gMo_played s0) + 2) < 17400) ∧ ((0 ≤ ((gMo_played s0) + 1) ∧ ((gMo_played s0) + 1) < 17400) ∧ ((0 ≤ ((((144 * (gMo_at s0)) + (12 * ((gMo_program s0) ((gMo_played s0) + 2)))) + ((gMo_program s0) ((gMo_played s0) + 1))) + v3) ∧ ((((144 * (gMo_at s0)) + (12 * ((gMo_program s0) ((gMo_played s0) + 2)))) + ((gMo_program s0) ((gMo_played s0) + 1))) + v3) < 3456) ∧ (P63 v2 (v3 + 1) (mkMo (gMo_thrown s0) (gMo_corners s0) (gMo_px s0) (gMo_py s0) (gMo_pz s0) (gMo_triangles s0) (gMo_named s0) (gMo_joined s0) (gMo_dropped s0) (gMo_closed s0) (gMo_layers s0) (gMo_thickness s0) (gMo_cuts s0) (gMo_cx s0) (gMo_cy s0) (gMo_cz s0) (gMo_solids s0) (gMo_shell s0) (gMo_skin s0) (gMo_period s0) (gMo_reach s0) (gMo_gap s0) (gMo_bytes s0) (gMo_played s0) (gMo_at s0) (gMo_program s0) (iset (gMo_beads s0) ((((144 * (gMo_at s0)) + (12 * ((gMo_program s0) ((gMo_played s0) + 2)))) + ((gMo_program s0) ((gMo_played s0) + 1))) + v3) (((gMo_beads s0) ((((144 * (gMo_at s0)) + (12 * ((gMo_program s0) ((gMo_played s0) + 2)))) + ((gMo_program s0) ((gMo_played s0) + 1))) + v3)) + 1)) (gMo_ring s0)))))))))) → P63 v2 v3 s0) →
  P7 0 (mkMo 0 (gMo_corners s0) (gMo_px s0) (gMo_py s0) (gMo_pz s0) (gMo_triangles s0) (gMo_named s0) (gMo_joined s0) (gMo_dropped s0) (gMo_closed s0) (gMo_layers s0) (gMo_thickness s0) (gMo_cuts s0) (gMo_cx s0) (gMo_cy s0) (gMo_cz s0) (gMo_solids s0) (gMo_shell s0) (gMo_skin s0) (gMo_period s0) (gMo_reach s0) (gMo_gap s0) (gMo_bytes s0) (gMo_played s0) (gMo_at s0) (gMo_program s0) (gMo_beads s0) (gMo_ring s0))

/-- LayerSlicerModel.laid(III)I -/
def wp_Mo_laid (x1 : Int) (x2 : Int) (x3 : Int) (s0 : s_Mo) (Q : Int → s_Mo → Prop) : Prop :=
  wp_Mo_in x1 0 23 (fun r1 => rg r1 ∧ ((r1 = 0 → (Q 0 (mkMo 0 (gMo_corners s0) (gMo_px s0) (gMo_py s0) (gMo_pz s0) (gMo_triangles s0) (gMo_named s0) (gMo_joined s0) (gMo_dropped s0) (gMo_closed s0) (gMo_layers s0) (gMo_thickness s0) (gMo_cuts s0) (gMo_cx s0) (gMo_cy s0) (gMo_cz s0) (gMo_solids s0) (gMo_shell s0) (gMo_skin s0) (gMo_period s0) (gMo_reach s0) (gMo_gap s0) (gMo_bytes s0) (gMo_played s0) (gMo_at s0) (gMo_program s0) (gMo_beads s0) (gMo_ring s0)))) ∧ (r1 ≠ 0 → (wp_Mo_in x2 0 11 (fun r3 => rg r3 ∧ ((r3 = 0 → (Q 0 (mkMo 0 (gMo_corners s0) (gMo_px s0) (gMo_py s0) (gMo_pz s0) (gMo_triangles s0) (gMo_named s0) (gMo_joined s0) (gMo_dropped s0) (gMo_closed s0) (gMo_layers s0) (gMo_thickness s0) (gMo_cuts s0) (gMo_cx s0) (gMo_cy s0) (gMo_cz s0) (gMo_solids s0) (gMo_shell s0) (gMo_skin s0) (gMo_period s0) (gMo_reach s0) (gMo_gap s0) (gMo_bytes s0) (gMo_played s0) (gMo_at s0) (gMo_program s0) (gMo_beads s0) (gMo_ring s0)))) ∧ (r3 ≠ 0 → (wp_Mo_in x3 0 11 (fun r5 => rg r5 ∧ ((r5 = 0 → (Q 0 (mkMo 0 (gMo_corners s0) (gMo_px s0) (gMo_py s0) (gMo_pz s0) (gMo_triangles s0) (gMo_named s0) (gMo_joined s0) (gMo_dropped s0) (gMo_closed s0) (gMo_layers s0) (gMo_thickness s0) (gMo_cuts s0) (gMo_cx s0) (gMo_cy s0) (gMo_cz s0) (gMo_solids s0) (gMo_shell s0) (gMo_skin s0) (gMo_period s0) (gMo_reach s0) (gMo_gap s0) (gMo_bytes s0) (gMo_played s0) (gMo_at s0) (gMo_program s0) (gMo_beads s0) (gMo_ring s0)))) ∧ (r5 ≠ 0 → ((0 ≤ (((144 * x1) + (12 * x3)) + x2) ∧ (((144 * x1) + (12 * x3)) + x2) < 3456) ∧ (Q ((gMo_beads s0) (((144 * x1) + (12 * x3)) + x2)) (mkMo 0 (gMo_corners s0) (gMo_px s0) (gMo_py s0) (gMo_pz s0) (gMo_triangles s0) (gMo_named s0) (gMo_joined s0) (gMo_dropped s0) (gMo_closed s0) (gMo_layers s0) (gMo_thickness s0) (gMo_cuts s0) (gMo_cx s0) (gMo_cy s0) (gMo_cz s0) (gMo_solids s0) (gMo_shell s0) (gMo_skin s0) (gMo_period s0) (gMo_reach s0) (gMo_gap s0) (gMo_bytes s0) (gMo_played s0) (gMo_at s0) (gMo_program s0) (gMo_beads s0) (gMo_ring s0)))))))))))))))
