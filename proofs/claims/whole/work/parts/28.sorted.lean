/-! ===== MEANING 18: all cells sorted ===== -/
theorem Good_same {u s : s_So} {a : Int} {so : Int → Int → Int → Bool} {n : Int} {sh sk : Nat} {pe : Int} {re ga : Nat} {l y : Int} (h : Same u s a) (hne : l * 12 + y ≠ a) (hg : Good s so n sh sk pe re ga l y) : Good u so n sh sk pe re ga l y := by
  obtain ⟨-, h1, h2⟩ := h
  refine ⟨fun k k1 k2 => ?_, ?_⟩
  · rw [h1 k _ hne]
    exact hg.1 k k1 k2
  · rw [h2 _ hne]
    exact hg.2
theorem m_sortCells {s0 : s_So} {s1 : s_Sl} {so : Int → Int → Int → Bool} {Q : s_So → Prop} (hs : SlOk s1 so) {sh sk pe re ga : Int} (e0 : gSo_shell s0 = sh ∧ gSo_skin s0 = sk ∧ gSo_period s0 = pe ∧ gSo_reach s0 = re ∧ gSo_gap s0 = ga) (hsh : 0 ≤ sh ∧ sh ≤ 3) (hsk : 0 ≤ sk ∧ sk ≤ 3) (hpe : 0 ≤ pe ∧ pe ≤ 6) (hre : 0 ≤ re ∧ re ≤ 3) (hga : 0 ≤ ga ∧ ga ≤ 2)
    (h : ∀ u : s_So, (gSo_shell u = sh ∧ gSo_skin u = sk ∧ gSo_period u = pe ∧ gSo_reach u = re ∧ gSo_gap u = ga) → (∀ l y : Int, 0 ≤ l → l < gSl_count s1 → 0 ≤ y → y < 12 → Good u so (gSl_count s1) sh.toNat sk.toNat pe re.toNat ga.toNat l y) → Q u) : wp_So_sortCells s0 s1 Q := by
  have hc := hs.1
  unfold wp_So_sortCells
  intro P2 P18 h2 h18
  have inner : ∀ (y : Int), 0 ≤ y → y < 12 → (∀ u : s_So, (gSo_shell u = sh ∧ gSo_skin u = sk ∧ gSo_period u = pe ∧ gSo_reach u = re ∧ gSo_gap u = ga) → (∀ l y' : Int, 0 ≤ l → l < gSl_count s1 → 0 ≤ y' → y' < y + 1 → Good u so (gSl_count s1) sh.toNat sk.toNat pe re.toNat ga.toNat l y') → P2 (y + 1) u) →
      ∀ (k : Nat) (uh : Int) (s : s_So), (k : Int) ≤ gSl_count s1 → (gSo_shell s = sh ∧ gSo_skin s = sk ∧ gSo_period s = pe ∧ gSo_reach s = re ∧ gSo_gap s = ga) → (∀ l y' : Int, 0 ≤ l → l < gSl_count s1 → 0 ≤ y' → (y' < y ∨ (y' = y ∧ (k : Int) ≤ l)) → Good s so (gSl_count s1) sh.toNat sk.toNat pe re.toNat ga.toNat l y') →
      (∀ x : Nat, x < 12 → bt uh x = uhg so re.toNat (gSl_count s1) x y (gSl_count s1 - k).toNat) → P18 y uh ((k : Int) - 1) s := by
    intro y y1 y2 hn k
    induction k with
    | zero =>
      intro uh s hk es hg hu
      apply h18
      refine ⟨⟨by omega, by omega⟩, fun _ => hn s es (fun l y' l1 l2 q1 q2 => hg l y' l1 l2 q1 (by omega)), fun q => by omega⟩
    | succ k ih =>
      intro uh s hk es hg hu
      obtain ⟨s1e, s2e, s3e, s4e, s5e⟩ := id es
      apply h18
      refine ⟨⟨by omega, by omega⟩, fun q => by omega, fun _ => ?_⟩
      have ek : ((k + 1 : Nat) : Int) - 1 = (k : Int) := by omega
      rw [ek]
      refine m_sortRow hs (l := (k : Int)) (y := y) ⟨by omega, by omega⟩ ⟨y1, y2⟩ (by rw [s1e]; exact hsh) (by rw [s2e]; exact hsk) (by rw [s3e]; exact hpe) (by rw [s4e]; exact hre) (by rw [s5e]; exact hga) (fun x hx => ?_) (fun u hsame hgood => ?_)
      · rw [hu x hx, s4e]
        congr 1
        omega
      · rw [s1e, s2e, s3e, s4e, s5e] at hgood
        refine m_solidRow hs ⟨by omega, by omega⟩ ⟨by omega, by omega⟩ (fun r5 hr5 b5 => ⟨⟨by omega, by omega⟩, ?_⟩)
        have eu : gSo_shell u = sh ∧ gSo_skin u = sk ∧ gSo_period u = pe ∧ gSo_reach u = re ∧ gSo_gap u = ga := by
          obtain ⟨⟨a1, a2, a3, a4, a5⟩, -⟩ := hsame
          exact ⟨a1.trans s1e, a2.trans s2e, a3.trans s3e, a4.trans s4e, a5.trans s5e⟩
        have h9 := ih (ior (iand uh (-1 - r5)) (gSo_hanging u ((k : Int) * 12 + y))) u (by omega) eu (fun l y' l1 l2 q1 q2 => ?_) (fun x hx => ?_)
        · exact h9
        · by_cases e : l = k ∧ y' = y
          · obtain ⟨rfl, rfl⟩ := e
            exact hgood
          · exact Good_same hsame (by omega) (hg l y' l1 l2 q1 (by omega))
        · have e1 : gSl_count s1 - (k : Int) = gSl_count s1 - k := rfl
          rw [uhg_s so re.toNat (n := gSl_count s1) (v := (k : Int)) x y (by omega), bt_or, bt_and, bt_not _ (by omega), b5, hgood.2.2 x hx, hu x hx, show gSl_count s1 - ((k + 1 : Nat) : Int) = gSl_count s1 - ((k : Int) + 1) by omega]
          cases hv : so k x y with
          | true =>
            rw [if_pos rfl]
            simp
          | false =>
            have hz : hgs so re.toNat k x y = false := by
              unfold hgs
              rw [hv, Bool.and_false, Bool.false_and]
            rw [hz, if_neg (by decide)]
            simp
  have outer : ∀ (j : Nat) (y : Int) (s : s_So), y + j = 12 → 0 ≤ y → (gSo_shell s = sh ∧ gSo_skin s = sk ∧ gSo_period s = pe ∧ gSo_reach s = re ∧ gSo_gap s = ga) → (∀ l y' : Int, 0 ≤ l → l < gSl_count s1 → 0 ≤ y' → y' < y → Good s so (gSl_count s1) sh.toNat sk.toNat pe re.toNat ga.toNat l y') → P2 y s := by
    intro j
    induction j with
    | zero =>
      intro y s hj y0 es hg
      apply h2
      exact ⟨⟨by omega, by omega⟩, fun _ => h s es (fun l y' l1 l2 q1 q2 => hg l y' l1 l2 q1 (by omega)), fun q => by omega⟩
    | succ j ih =>
      intro y s hj y0 es hg
      apply h2
      refine ⟨⟨by omega, by omega⟩, fun q => by omega, fun _ => ?_⟩
      have h9 := inner y y0 (by omega) (fun u eu hu => ih (y + 1) u (by omega) (by omega) eu hu) (gSl_count s1).toNat 0 s (by omega) es (fun l y' l1 l2 q1 q2 => hg l y' l1 l2 q1 (by omega)) (fun x hx => by
        rw [bt_z, show (gSl_count s1 - ((gSl_count s1).toNat : Int)).toNat = 0 by omega]
        rfl)
      rw [show (((gSl_count s1).toNat : Nat) : Int) - 1 = gSl_count s1 - 1 by omega] at h9
      exact h9
  exact outer 12 0 s0 (by omega) (by omega) e0 (fun l y' l1 l2 q1 q2 => by omega)
theorem SlOk_of {s : s_Sl} {ly th cu : Int} {cx cy cz so : Int → Int} (h : RSl s ly th cu cx cy cz so) : SlOk s (sol ly so) := by
  obtain ⟨e1, -, hl, -, -, -, -, -, hr⟩ := h
  subst e1
  refine ⟨hl, fun l x y q => sol_out q, fun l y l1 l2 y1 y2 => ?_⟩
  obtain ⟨r1, r2⟩ := hr l y l1 l2 y1 y2
  refine ⟨r1, fun x hx => ?_⟩
  rw [sol_in ⟨l1, l2, by omega, by omega, y1, y2⟩, r2 x hx]
  cases bt (gSl_solidRows s (l * 12 + y)) x <;> rfl
theorem kOk_of {sx : s_LS} {sm : s_Mo} (hi : Inv sx sm) : kOk sm := by
  obtain ⟨-, -, h3, h4, -⟩ := hi
  obtain ⟨-, -, hl, -, -, -, -, -, hr⟩ := h3
  obtain ⟨-, -, -, -, -, a1, a2, a3, a4, a5, -⟩ := h4
  refine ⟨hl, fun l x y l1 l2 x1 x2 y1 y2 => ?_, a1, a2, a3, a4, a5⟩
  have h := (hr l y l1 l2 y1 y2).2 x.toNat (by omega)
  rw [show ((x.toNat : Nat) : Int) = x by omega] at h
  rw [h]
  exact b01_01 _
theorem t_settings {a1 a2 a3 a4 a5 : Int} (r1 : rg a1) (r2 : rg a2) (r3 : rg a3) (r4 : rg a4) (r5 : rg a5) {sx : s_LS} {sm : s_Mo} (hi : Inv sx sm) : wp_LS_settings a1 a2 a3 a4 a5 sx (fun r1 u2 => wp_Mo_settings a1 a2 a3 a4 a5 sm (fun r3 u4 => r1 = r3 ∧ Inv u2 u4)) := by
  have hI : Inv sx (mkMo (0) (gMo_corners sm) (gMo_px sm) (gMo_py sm) (gMo_pz sm) (gMo_triangles sm) (gMo_named sm) (gMo_joined sm) (gMo_dropped sm) (gMo_closed sm) (gMo_layers sm) (gMo_thickness sm) (gMo_cuts sm) (gMo_cx sm) (gMo_cy sm) (gMo_cz sm) (gMo_solids sm) (gMo_shell sm) (gMo_skin sm) (gMo_period sm) (gMo_reach sm) (gMo_gap sm) (gMo_bytes sm) (gMo_played sm) (gMo_at sm) (gMo_program sm) (gMo_beads sm) (gMo_ring sm)) := hi
  obtain ⟨h1, h2, h3, h4, h5⟩ := hi
  by_cases g : (0 ≤ a1 ∧ a1 ≤ 3) ∧ (0 ≤ a2 ∧ a2 ≤ 3) ∧ (0 ≤ a3 ∧ a3 ≤ 6) ∧ (0 ≤ a4 ∧ a4 ≤ 3) ∧ (0 ≤ a5 ∧ a5 ≤ 2)
  · obtain ⟨g1, g2, g3, g4, g5⟩ := g
    have hq : wp_So_sortCells (mkSo (gSo_rowsOfKind0 (gLS_sorter sx)) (gSo_rowsOfKind1 (gLS_sorter sx)) (gSo_rowsOfKind2 (gLS_sorter sx)) (gSo_rowsOfKind3 (gLS_sorter sx)) (gSo_rowsOfKind4 (gLS_sorter sx)) (gSo_rowsOfKind5 (gLS_sorter sx)) (gSo_rowsOfKind6 (gLS_sorter sx)) (gSo_hanging (gLS_sorter sx)) a1 a2 a3 a4 a5) (gLS_slices sx) (fun u4 => wp_Mo_settings a1 a2 a3 a4 a5 sm (fun r3 u5 => 1 = r3 ∧ Inv (mkLS (gLS_mesh sx) (gLS_mender sx) (gLS_slices sx) u4 (gLS_router sx) (gLS_printer sx)) u5)) := by
      refine m_sortCells (SlOk_of h3) ⟨rfl, rfl, rfl, rfl, rfl⟩ g1 g2 g3 g4 g5 (fun u eu hu => ?_)
      have ec : gSl_count (gLS_slices sx) = gMo_layers sm := h3.1
      rw [ec] at hu
      have hfin : (1 : Int) = 1 ∧ Inv (mkLS (gLS_mesh sx) (gLS_mender sx) (gLS_slices sx) u (gLS_router sx) (gLS_printer sx)) (mkMo (0) (gMo_corners sm) (gMo_px sm) (gMo_py sm) (gMo_pz sm) (gMo_triangles sm) (gMo_named sm) (gMo_joined sm) (gMo_dropped sm) (gMo_closed sm) (gMo_layers sm) (gMo_thickness sm) (gMo_cuts sm) (gMo_cx sm) (gMo_cy sm) (gMo_cz sm) (gMo_solids sm) (a1) (a2) (a3) (a4) (a5) (gMo_bytes sm) (gMo_played sm) (gMo_at sm) (gMo_program sm) (gMo_beads sm) (gMo_ring sm)) := by
        obtain ⟨b1, b2, b3, b4, b5⟩ := eu
        exact ⟨rfl, h1, h2, h3, ⟨b1, b2, b3, b4, b5, g1, g2, g3, g4, g5, fun k l y k1 k2 l1 l2 y1 y2 => (hu l y l1 l2 y1 y2).1 k k1 k2, fun l y l1 l2 y1 y2 => (hu l y l1 l2 y1 y2).2⟩, h5⟩
      generalize hP : (fun (r3 : Int) (u5 : s_Mo) => 1 = r3 ∧ Inv (mkLS (gLS_mesh sx) (gLS_mender sx) (gLS_slices sx) u (gLS_router sx) (gLS_printer sx)) u5) = P
      have hl : P 1 (mkMo (0) (gMo_corners sm) (gMo_px sm) (gMo_py sm) (gMo_pz sm) (gMo_triangles sm) (gMo_named sm) (gMo_joined sm) (gMo_dropped sm) (gMo_closed sm) (gMo_layers sm) (gMo_thickness sm) (gMo_cuts sm) (gMo_cx sm) (gMo_cy sm) (gMo_cz sm) (gMo_solids sm) (a1) (a2) (a3) (a4) (a5) (gMo_bytes sm) (gMo_played sm) (gMo_at sm) (gMo_program sm) (gMo_beads sm) (gMo_ring sm)) := by rw [← hP]; exact hfin
      clear hI h1 h2 h3 h4 h5 hu hfin hP eu
      unfold wp_Mo_settings
      simp only [wp_Mo_in]
      repeat' first | (exact hl) | (intro _) | (refine And.intro ?_ ?_) | omega | (exfalso; omega)
    generalize hR : (fun (r1 : Int) (u2 : s_LS) => wp_Mo_settings a1 a2 a3 a4 a5 sm (fun r3 u4 => r1 = r3 ∧ Inv u2 u4)) = R
    have hq2 : wp_So_sortCells (mkSo (gSo_rowsOfKind0 (gLS_sorter sx)) (gSo_rowsOfKind1 (gLS_sorter sx)) (gSo_rowsOfKind2 (gLS_sorter sx)) (gSo_rowsOfKind3 (gLS_sorter sx)) (gSo_rowsOfKind4 (gLS_sorter sx)) (gSo_rowsOfKind5 (gLS_sorter sx)) (gSo_rowsOfKind6 (gLS_sorter sx)) (gSo_hanging (gLS_sorter sx)) a1 a2 a3 a4 a5) (gLS_slices sx) (fun u4 => R 1 (mkLS (gLS_mesh sx) (gLS_mender sx) (gLS_slices sx) u4 (gLS_router sx) (gLS_printer sx))) := by rw [← hR]; exact hq
    clear hI h1 h2 h3 h4 h5 hR hq
    unfold wp_LS_settings wp_So_accept
    simp only [wp_So_upTo]
    generalize wp_So_sortCells = W at hq2 ⊢
    repeat' first | (exact hq2) | (intro _) | (refine And.intro ?_ ?_) | omega | (exfalso; omega)
  · have m0 : wp_Mo_settings a1 a2 a3 a4 a5 sm (fun r3 u4 => 0 = r3 ∧ Inv sx u4) := by
      generalize hP : (fun (r3 : Int) (u5 : s_Mo) => 0 = r3 ∧ Inv sx u5) = P
      have hl : P 0 (mkMo (0) (gMo_corners sm) (gMo_px sm) (gMo_py sm) (gMo_pz sm) (gMo_triangles sm) (gMo_named sm) (gMo_joined sm) (gMo_dropped sm) (gMo_closed sm) (gMo_layers sm) (gMo_thickness sm) (gMo_cuts sm) (gMo_cx sm) (gMo_cy sm) (gMo_cz sm) (gMo_solids sm) (gMo_shell sm) (gMo_skin sm) (gMo_period sm) (gMo_reach sm) (gMo_gap sm) (gMo_bytes sm) (gMo_played sm) (gMo_at sm) (gMo_program sm) (gMo_beads sm) (gMo_ring sm)) := by rw [← hP]; exact ⟨rfl, hI⟩
      clear hI h1 h2 h3 h4 h5 hP
      unfold wp_Mo_settings
      simp only [wp_Mo_in]
      repeat' first | (exact hl) | (intro _) | (refine And.intro ?_ ?_) | omega | (exfalso; omega)
    generalize hR : (fun (r1 : Int) (u2 : s_LS) => wp_Mo_settings a1 a2 a3 a4 a5 sm (fun r3 u4 => r1 = r3 ∧ Inv u2 u4)) = R
    have hq2 : R 0 (mkLS (gLS_mesh sx) (gLS_mender sx) (gLS_slices sx) (gLS_sorter sx) (gLS_router sx) (gLS_printer sx)) := by rw [← hR]; exact m0
    clear hI h1 h2 h3 h4 h5 hR m0
    unfold wp_LS_settings wp_So_accept
    simp only [wp_So_upTo]
    generalize wp_So_sortCells = W at hq2 ⊢
    repeat' first | (exact hq2) | (intro _) | (refine And.intro ?_ ?_) | omega | (exfalso; omega)
