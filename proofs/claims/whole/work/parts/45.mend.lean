/-! ===== MEANING 35: mend ===== -/
/-- the mesh after joining and dropping -/
def jnm (px py pz nm : Int → Int) (n : Nat) : Int → Int := ifl (fun i => lw px py pz (nm i)) nm ((3 * n : Nat) : Int)
def dkm (px py pz nm : Int → Int) (n : Nat) : (Int → Int) × Nat := dk (flt px py pz) (jnm px py pz nm n) n
theorem jnm_in {px py pz nm : Int → Int} {n nc : Nat} (hr : ∀ i : Int, 0 ≤ i → i < 3 * n → 0 ≤ nm i ∧ nm i < nc) : ∀ i : Int, 0 ≤ i → i < 3 * n → 0 ≤ jnm px py pz nm n i ∧ jnm px py pz nm n i < nc := by
  intro i i1 i2
  unfold jnm
  rw [ifl_i ⟨i1, by omega⟩]
  have h1 := hr i i1 i2
  have h2 := lw_in px py pz (c := nm i) h1.1
  omega
theorem tok_dk {px py pz nm : Int → Int} {n nc : Nat} (hr : ∀ i : Int, 0 ≤ i → i < 3 * n → 0 ≤ nm i ∧ nm i < nc) : Tok (dkm px py pz nm n).1 nc (dkm px py pz nm n).2 ∧ (dkm px py pz nm n).2 ≤ n := by
  have hle := dk_le (flt px py pz) (jnm px py pz nm n) n
  refine ⟨⟨fun i i1 i2 => dk_in (f := flt px py pz) (jnm_in hr) n (Int.le_refl _) i i1 ?_, fun t ht => flt_ne (dk_ok (flt px py pz) (jnm px py pz nm n) n t ht)⟩, hle⟩
  have i2 : i < 3 * ((dk (flt px py pz) (jnm px py pz nm n) n).2 : Int) := i2
  omega
def rdm (px py pz nm : Int → Int) (n nc : Nat) (cl : Int) : (Int → Int) × Nat × Int := rd nc 120 (dkm px py pz nm n).1 (dkm px py pz nm n).2 cl
theorem m_LS_mend {sx : s_LS} {px py pz nm : Int → Int} {n nc : Nat} {jn dr cl : Int} {Q : Int → s_LS → Prop} (hp : Plc px py pz) (e1 : gLS_mesh sx = mkMe px py pz nc nm n) (hn : n ≤ 120) (hc : nc ≤ 80) (hr : ∀ i : Int, 0 ≤ i → i < 3 * n → 0 ≤ nm i ∧ nm i < nc) (ej : gMn_joined (gLS_mender sx) = jn) (ed : gMn_dropped (gLS_mender sx) = dr) (ec : gMn_closed (gLS_mender sx) = cl)
    (h : ∀ lo co B O ho : Int → Int, Q (opa (rdm px py pz nm n nc cl).1 (rdm px py pz nm n nc cl).2.1 nc) (mkLS (mkMe px py pz nc (rdm px py pz nm n nc cl).1 ((rdm px py pz nm n nc cl).2.1 : Int)) (mkMn (jn + sm (fun k => jc (lw px py pz) nm (3 * n) k) nc) (dr + ((n : Int) - (dkm px py pz nm n).2)) (rdm px py pz nm n nc cl).2.2 lo co B O ho) (gLS_slices sx) (gLS_sorter sx) (gLS_router sx) (gLS_printer sx))) : wp_LS_mend sx Q := by
  unfold wp_LS_mend wp_Mn_mendMesh
  rw [e1]
  intro P19 h19
  subst ej ed ec
  obtain ⟨hT, hle⟩ := tok_dk (px := px) (py := py) (pz := pz) hr
  generalize hR : rdm px py pz nm n nc (gMn_closed (gLS_mender sx)) = R at h
  have key : ∀ (k r : Nat) (m : Int → Int) (N : Nat) (c : Int) (J D : Int) (lo co B O ho : Int → Int), J = gMn_joined (gLS_mender sx) + sm (fun k => jc (lw px py pz) nm (3 * n) k) nc → D = gMn_dropped (gLS_mender sx) + ((n : Int) - (dkm px py pz nm n).2) → r + k = 120 → Tok m nc N → N ≤ 120 → BO B O (En m (3 * N)) → rd nc k m N c = R → P19 1 r (mkMn J D c lo co B O ho) (mkMe px py pz nc m N) := by
    intro k
    induction k with
    | zero =>
      intro r m N c J D lo co B O ho eJ eD e hT hN hb eR
      have e : r = 120 := by omega
      subst e eJ eD
      rw [← eR] at h
      apply h19
      exact ⟨by decide, fun q => absurd q (by decide), fun _ => ⟨by decide, fun _ => m_openInAll (s0 := mkMn _ _ c lo co B O ho) hT hc hb (h lo co B O ho), fun q => absurd q (by decide)⟩⟩
    | succ k ih =>
      intro r m N c J D lo co B O ho eJ eD e hT hN hb eR
      rw [rd_s] at eR
      apply h19
      refine ⟨by decide, fun q => absurd q (by decide), fun _ => ⟨⟨by omega, by omega⟩, fun q => by omega, fun _ => ?_⟩⟩
      refine m_closeFirst (s0 := mkMn J D c lo co B O ho) (s1 := mkMe px py pz nc m N) (nm := m) hT hN hc rfl rfl rfl hb (fun w ho' => ?_) (fun w B' O' ho' hb' => ?_)
      · rw [if_neg w] at eR
        subst eJ eD
        rw [← eR] at h
        apply h19
        exact ⟨by decide, fun _ => m_openInAll (s0 := mkMn _ _ c lo co B O ho') hT hc hb (h lo co B O ho'), fun q => absurd rfl q⟩
      · rw [if_pos w] at eR
        obtain ⟨s1, s2⟩ := st_ok hT w
        have s3 := s1.1
        have s4 := s1.2.2
        exact ih (r + 1) (nm1 m N nc) (N + (Hh m N nc - 2)) (c + 1) J D lo co B' O' ho' eJ eD (by omega) s2 (by omega) hb' eR
  refine m_joinCorners (s1 := mkMe px py pz nc nm n) (l := lw px py pz) (nm := nm) (n := 3 * n) (nc := nc) hp rfl rfl rfl hc (by show 3 * (n : Int) = ((3 * n : Nat) : Int); omega) (by omega) (fun i i1 i2 => hr i i1 (by omega)) (fun lo co => ?_)
  refine m_dropTriangles (s1 := mkMe px py pz nc (jnm px py pz nm n) n) (nm := jnm px py pz nm n) (n := n) (nc := nc) hp rfl hc rfl hn (jnm_in hr) ?_
  refine m_weighEdges (s1 := mkMe px py pz nc (dkm px py pz nm n).1 ((dkm px py pz nm n).2 : Int)) (nm := (dkm px py pz nm n).1) (nc := nc) (n := (dkm px py pz nm n).2) hT (by omega) rfl (by omega) rfl (fun B O hb => ?_)
  exact key 120 0 (dkm px py pz nm n).1 (dkm px py pz nm n).2 (gMn_closed (gLS_mender sx)) _ _ lo co B O _ rfl rfl (by omega) hT (by omega) hb hR
/-! the reference -/
theorem m_Mo_mend {s0 : s_Mo} {px py pz nm : Int → Int} {n nc : Nat} {Q : Int → s_Mo → Prop} (hp : Plc px py pz) (ex : gMo_px s0 = px) (ey : gMo_py s0 = py) (ez : gMo_pz s0 = pz) (en : gMo_triangles s0 = n) (enm : gMo_named s0 = nm) (enc : gMo_corners s0 = nc) (hn : n ≤ 120) (hc : nc ≤ 80) (hr : ∀ i : Int, 0 ≤ i → i < 3 * n → 0 ≤ nm i ∧ nm i < nc)
    (h : ∀ ri : Int → Int, Q (opa (rdm px py pz nm n nc (gMo_closed s0)).1 (rdm px py pz nm n nc (gMo_closed s0)).2.1 nc) (mkMo (0) (gMo_corners s0) (gMo_px s0) (gMo_py s0) (gMo_pz s0) (((rdm px py pz nm n nc (gMo_closed s0)).2.1 : Int)) ((rdm px py pz nm n nc (gMo_closed s0)).1) (gMo_joined s0 + sm (fun k => jc (lw px py pz) nm (3 * n) k) nc) (gMo_dropped s0 + ((n : Int) - (dkm px py pz nm n).2)) ((rdm px py pz nm n nc (gMo_closed s0)).2.2) (gMo_layers s0) (gMo_thickness s0) (gMo_cuts s0) (gMo_cx s0) (gMo_cy s0) (gMo_cz s0) (gMo_solids s0) (gMo_shell s0) (gMo_skin s0) (gMo_period s0) (gMo_reach s0) (gMo_gap s0) (gMo_bytes s0) (gMo_played s0) (gMo_at s0) (gMo_program s0) (gMo_beads s0) (ri))) : wp_Mo_mend s0 Q := by
  unfold wp_Mo_mend
  intro P15 P41 P98 P109 h15 h41 h98 h109
  obtain ⟨hT0, hle⟩ := tok_dk (px := px) (py := py) (pz := pz) hr
  generalize hR : rdm px py pz nm n nc (gMo_closed s0) = R at h
  generalize eJ : gMo_joined s0 + sm (fun k => jc (lw px py pz) nm (3 * n) k) nc = J at h
  generalize eD : gMo_dropped s0 + ((n : Int) - (dkm px py pz nm n).2) = D at h
  -- the sum of open edges
  have sum : ∀ (m : Int → Int) (N : Nat) (c : Int) (ri : Int → Int), Tok m nc N → N ≤ 120 → (m, N, c) = R → P98 0 0 (mkMo (0) (gMo_corners s0) (gMo_px s0) (gMo_py s0) (gMo_pz s0) ((N : Int)) (m) (J) (D) (c) (gMo_layers s0) (gMo_thickness s0) (gMo_cuts s0) (gMo_cx s0) (gMo_cy s0) (gMo_cz s0) (gMo_solids s0) (gMo_shell s0) (gMo_skin s0) (gMo_period s0) (gMo_reach s0) (gMo_gap s0) (gMo_bytes s0) (gMo_played s0) (gMo_at s0) (gMo_program s0) (gMo_beads s0) (ri)) := by
    intro m N c ri hT hN eR
    rw [← eR] at h
    have hr8 : ∀ i : Int, 0 ≤ i → i < 3 * N → 0 ≤ m i ∧ m i < 80 := fun i i1 i2 => ⟨(hT.1 i i1 i2).1, by have := (hT.1 i i1 i2).2; omega⟩
    have p109 : ∀ (a : Nat) (A : Int), a < nc → P98 (A + sm (opn m N (a : Int)) nc) ((a : Int) + 1) (mkMo (0) (gMo_corners s0) (gMo_px s0) (gMo_py s0) (gMo_pz s0) ((N : Int)) (m) (J) (D) (c) (gMo_layers s0) (gMo_thickness s0) (gMo_cuts s0) (gMo_cx s0) (gMo_cy s0) (gMo_cz s0) (gMo_solids s0) (gMo_shell s0) (gMo_skin s0) (gMo_period s0) (gMo_reach s0) (gMo_gap s0) (gMo_bytes s0) (gMo_played s0) (gMo_at s0) (gMo_program s0) (gMo_beads s0) (ri)) → ∀ (k b : Nat), b + k = nc → P109 (A + sm (opn m N (a : Int)) b) a b (mkMo (0) (gMo_corners s0) (gMo_px s0) (gMo_py s0) (gMo_pz s0) ((N : Int)) (m) (J) (D) (c) (gMo_layers s0) (gMo_thickness s0) (gMo_cuts s0) (gMo_cx s0) (gMo_cy s0) (gMo_cz s0) (gMo_solids s0) (gMo_shell s0) (gMo_skin s0) (gMo_period s0) (gMo_reach s0) (gMo_gap s0) (gMo_bytes s0) (gMo_played s0) (gMo_at s0) (gMo_program s0) (gMo_beads s0) (ri)) := by
      intro a A ha hq k
      induction k with
      | zero =>
        intro b e
        have e : b = nc := by omega
        subst e
        apply h109
        refine ⟨⟨by omega, by omega⟩, ⟨by show -2147483648 ≤ gMo_corners s0; omega, by show gMo_corners s0 ≤ 2147483647; omega⟩, fun _ => hq, fun q => ?_⟩
        have q : (b : Int) < gMo_corners s0 := q
        omega
      | succ k ih =>
        intro b e
        have h9 := ih (b + 1) (by omega)
        rw [sm_s, ← Int.add_assoc, show ((b + 1 : Nat) : Int) = (b : Int) + 1 from rfl] at h9
        apply h109
        refine ⟨⟨by omega, by omega⟩, ⟨by show -2147483648 ≤ gMo_corners s0; omega, by show gMo_corners s0 ≤ 2147483647; omega⟩, fun q => ?_, fun _ => ⟨⟨by omega, by omega⟩, fun q => ?_, fun q => ?_⟩⟩
        · have q : gMo_corners s0 ≤ (b : Int) := q
          omega
        · have w : a = b := by omega
          subst w
          rw [opn_self hT a, Int.add_zero] at h9
          exact h9
        · exact m_open (nm := m) (n := N) ⟨by omega, by omega⟩ ⟨by omega, by omega⟩ rfl hN rfl hr8 h9
    have p98 : ∀ (k a : Nat), a + k = nc → P98 (sm (fun p => sm (opn m N (p : Int)) nc) a) a (mkMo (0) (gMo_corners s0) (gMo_px s0) (gMo_py s0) (gMo_pz s0) ((N : Int)) (m) (J) (D) (c) (gMo_layers s0) (gMo_thickness s0) (gMo_cuts s0) (gMo_cx s0) (gMo_cy s0) (gMo_cz s0) (gMo_solids s0) (gMo_shell s0) (gMo_skin s0) (gMo_period s0) (gMo_reach s0) (gMo_gap s0) (gMo_bytes s0) (gMo_played s0) (gMo_at s0) (gMo_program s0) (gMo_beads s0) (ri)) := by
      intro k
      induction k with
      | zero =>
        intro a e
        have e : a = nc := by omega
        subst e
        apply h98
        refine ⟨⟨by omega, by omega⟩, ⟨by show -2147483648 ≤ gMo_corners s0; omega, by show gMo_corners s0 ≤ 2147483647; omega⟩, fun _ => h ri, fun q => ?_⟩
        have q : (a : Int) < gMo_corners s0 := q
        omega
      | succ k ih =>
        intro a e
        have h9 := ih (a + 1) (by omega)
        rw [sm_s] at h9
        have h8 := p109 a _ (by omega) h9 nc 0 (by omega)
        rw [sm_0, Int.add_zero] at h8
        apply h98
        refine ⟨⟨by omega, by omega⟩, ⟨by show -2147483648 ≤ gMo_corners s0; omega, by show gMo_corners s0 ≤ 2147483647; omega⟩, fun q => ?_, fun _ => h8⟩
        have q : gMo_corners s0 ≤ (a : Int) := q
        omega
    exact p98 nc 0 (by omega)
  -- a hole is filled
  have fill : ∀ (m : Int → Int) (N H : Nat) (c : Int) (v : Nat → Int) (ri : Int → Int), 3 ≤ H → H ≤ 16 → N + H ≤ 122 → (∀ k : Nat, k < H → ri k = v k) → P15 0 (mkMo (0) (gMo_corners s0) (gMo_px s0) (gMo_py s0) (gMo_pz s0) (((N + (H - 2) : Nat) : Int)) (fln v m N (H - 2)) (J) (D) (c + 1) (gMo_layers s0) (gMo_thickness s0) (gMo_cuts s0) (gMo_cx s0) (gMo_cy s0) (gMo_cz s0) (gMo_solids s0) (gMo_shell s0) (gMo_skin s0) (gMo_period s0) (gMo_reach s0) (gMo_gap s0) (gMo_bytes s0) (gMo_played s0) (gMo_at s0) (gMo_program s0) (gMo_beads s0) (ri)) → ∀ (j k : Nat), k + j = H - 2 → P41 H ((k : Int) + 1) (mkMo (0) (gMo_corners s0) (gMo_px s0) (gMo_py s0) (gMo_pz s0) (((N + k : Nat) : Int)) (fln v m N k) (J) (D) (c) (gMo_layers s0) (gMo_thickness s0) (gMo_cuts s0) (gMo_cx s0) (gMo_cy s0) (gMo_cz s0) (gMo_solids s0) (gMo_shell s0) (gMo_skin s0) (gMo_period s0) (gMo_reach s0) (gMo_gap s0) (gMo_bytes s0) (gMo_played s0) (gMo_at s0) (gMo_program s0) (gMo_beads s0) (ri)) := by
    intro m N H c v ri H3 H16 HN hri hq j
    induction j with
    | zero =>
      intro k e
      have e : k = H - 2 := by omega
      subst e
      apply h41
      exact ⟨⟨by omega, by omega⟩, ⟨by omega, by omega⟩, fun _ => hq, fun q => by omega⟩
    | succ j ih =>
      intro k e
      have g0 : ri 0 = v 0 := hri 0 (by omega)
      have g1 : ri ((k : Int) + 1) = v (k + 1) := hri (k + 1) (by omega)
      have g2 : ri ((k : Int) + 1 + 1) = v (k + 2) := hri (k + 2) (by omega)
      have h9 := ih (k + 1) (by omega)
      apply h41
      refine ⟨⟨by omega, by omega⟩, ⟨by omega, by omega⟩, fun q => by omega, fun _ => ⟨⟨by omega, by omega⟩, ⟨by omega, by omega⟩, ?_⟩⟩
      show wp_Mo_add (ri 0) (ri ((k : Int) + 1 + 1)) (ri ((k : Int) + 1)) _ _
      rw [g0, g1, g2]
      exact ⟨⟨by show 0 ≤ 3 * ((N + k : Nat) : Int); omega, by show 3 * ((N + k : Nat) : Int) < 360; omega⟩, ⟨by show 0 ≤ 3 * ((N + k : Nat) : Int) + 1; omega, by show 3 * ((N + k : Nat) : Int) + 1 < 360; omega⟩, ⟨by show 0 ≤ 3 * ((N + k : Nat) : Int) + 2; omega, by show 3 * ((N + k : Nat) : Int) + 2 < 360; omega⟩, h9⟩
  have rounds : ∀ (k : Nat) (m : Int → Int) (N : Nat) (c : Int) (ri : Int → Int), 120 ≤ N + k → Tok m nc N → N ≤ 120 → rd nc k m N c = R → P15 0 (mkMo (0) (gMo_corners s0) (gMo_px s0) (gMo_py s0) (gMo_pz s0) ((N : Int)) (m) (J) (D) (c) (gMo_layers s0) (gMo_thickness s0) (gMo_cuts s0) (gMo_cx s0) (gMo_cy s0) (gMo_cz s0) (gMo_solids s0) (gMo_shell s0) (gMo_skin s0) (gMo_period s0) (gMo_reach s0) (gMo_gap s0) (gMo_bytes s0) (gMo_played s0) (gMo_at s0) (gMo_program s0) (gMo_beads s0) (ri)) := by
    intro k
    induction k with
    | zero =>
      intro m N c ri hk hT hN eR
      have eR : (m, N, c) = R := eR
      have p15 : ∀ (j a : Nat) (ri : Int → Int), a + j = nc → P15 a (mkMo (0) (gMo_corners s0) (gMo_px s0) (gMo_py s0) (gMo_pz s0) ((N : Int)) (m) (J) (D) (c) (gMo_layers s0) (gMo_thickness s0) (gMo_cuts s0) (gMo_cx s0) (gMo_cy s0) (gMo_cz s0) (gMo_solids s0) (gMo_shell s0) (gMo_skin s0) (gMo_period s0) (gMo_reach s0) (gMo_gap s0) (gMo_bytes s0) (gMo_played s0) (gMo_at s0) (gMo_program s0) (gMo_beads s0) (ri)) := by
        intro j
        induction j with
        | zero =>
          intro a ri e
          apply h15
          refine ⟨⟨by omega, by omega⟩, ⟨by show -2147483648 ≤ gMo_corners s0; omega, by show gMo_corners s0 ≤ 2147483647; omega⟩, fun _ => sum m N c ri hT hN eR, fun q => ?_⟩
          have q : (a : Int) < gMo_corners s0 := q
          omega
        | succ j ih2 =>
          intro a ri e
          apply h15
          refine ⟨⟨by omega, by omega⟩, ⟨by show -2147483648 ≤ gMo_corners s0; omega, by show gMo_corners s0 ≤ 2147483647; omega⟩, fun q => ?_, fun _ => m_hole (nm := m) (n := N) (nc := nc) hT hN hc rfl rfl enc ⟨by omega, by omega⟩ (fun w => ?_) (fun w ri' => ⟨by decide, fun q => absurd rfl q, fun _ => ih2 (a + 1) ri' (by omega)⟩)⟩
          · have q : gMo_corners s0 ≤ (a : Int) := q
            omega
          · exfalso
            unfold okh at w
            omega
      exact p15 nc 0 ri (by omega)
    | succ k ih =>
      intro m N c ri hk hT hN eR
      rw [rd_s] at eR
      have p15 : ∀ (j a : Nat) (ri : Int → Int), a + j = nc → c0 m N nc = fc (pp m N nc) j a → P15 a (mkMo (0) (gMo_corners s0) (gMo_px s0) (gMo_py s0) (gMo_pz s0) ((N : Int)) (m) (J) (D) (c) (gMo_layers s0) (gMo_thickness s0) (gMo_cuts s0) (gMo_cx s0) (gMo_cy s0) (gMo_cz s0) (gMo_solids s0) (gMo_shell s0) (gMo_skin s0) (gMo_period s0) (gMo_reach s0) (gMo_gap s0) (gMo_bytes s0) (gMo_played s0) (gMo_at s0) (gMo_program s0) (gMo_beads s0) (ri)) := by
        intro j
        induction j with
        | zero =>
          intro a ri e ec
          have ec : c0 m N nc = a := ec
          rw [if_neg (by omega)] at eR
          apply h15
          refine ⟨⟨by omega, by omega⟩, ⟨by show -2147483648 ≤ gMo_corners s0; omega, by show gMo_corners s0 ≤ 2147483647; omega⟩, fun _ => sum m N c ri hT hN eR, fun q => ?_⟩
          have q : (a : Int) < gMo_corners s0 := q
          omega
        | succ j ih2 =>
          intro a ri e ec
          rw [fc_s] at ec
          obtain ⟨o1, o2⟩ := hf_ok (nxt m N nc) a N
          apply h15
          refine ⟨⟨by omega, by omega⟩, ⟨by show -2147483648 ≤ gMo_corners s0; omega, by show gMo_corners s0 ≤ 2147483647; omega⟩, fun q => ?_, fun _ => m_hole (nm := m) (n := N) (nc := nc) hT hN hc rfl rfl enc ⟨by omega, by omega⟩ (fun w ri' hri => ?_) (fun w ri' => ⟨by decide, fun q => absurd rfl q, fun _ => ih2 (a + 1) ri' (by omega) ?_⟩)⟩
          · have q : gMo_corners s0 ≤ (a : Int) := q
            omega
          · have w6 := o1.mp w
            have eH := o2 w6
            rw [if_pos (pp_t.mpr w6)] at ec
            rw [eH] at hri ⊢
            have wl : c0 m N nc < nc := by omega
            rw [if_pos wl] at eR
            obtain ⟨s1, s2⟩ := st_ok hT wl
            have hH : Hh m N nc = hf (nxt m N nc) a 16 0 := by
              unfold Hh
              rw [ec]
            have hm1 : nm1 m N nc = fln (vv (nxt m N nc) a) m N (hf (nxt m N nc) a 16 0 - 2) := by
              unfold nm1
              rw [hH, ec]
            rw [hH, hm1] at eR
            rw [hH, hm1] at s2
            have w1 := w6.1
            have w2 := w6.2.1
            have w3 := w6.2.2
            refine ⟨⟨by omega, by omega⟩, fun _ => ?_, fun q => by omega⟩
            exact fill m N (hf (nxt m N nc) a 16 0) c (vv (nxt m N nc) a) ri' w1 w2 (by omega) hri (ih _ _ (c + 1) ri' (by omega) s2 (by omega) eR) _ 0 (Nat.zero_add _)
          · rw [if_neg (fun x => w (o1.mpr (pp_t.mp x)))] at ec
            exact ec
      exact p15 nc 0 ri (by omega) rfl
  subst ex ey ez
  refine m_Mo_join (l := lw (gMo_px s0) (gMo_py s0) (gMo_pz s0)) (nm := nm) (n := 3 * n) (nc := nc) hp rfl enm enc hc (by show 3 * gMo_triangles s0 = ((3 * n : Nat) : Int); omega) (by omega) (fun i i1 i2 => hr i i1 (by omega)) ?_
  refine m_Mo_drop (nm := jnm (gMo_px s0) (gMo_py s0) (gMo_pz s0) nm n) (n := n) (nc := nc) hp rfl hc en hn (jnm_in hr) ?_
  rw [← eJ, ← eD] at rounds
  exact rounds 120 (dkm (gMo_px s0) (gMo_py s0) (gMo_pz s0) nm n).1 (dkm (gMo_px s0) (gMo_py s0) (gMo_pz s0) nm n).2 (gMo_closed s0) (gMo_ring s0) (by omega) hT0 (by omega) hR
theorem t_mend {sx : s_LS} {sm : s_Mo} (hi : Inv sx sm) : wp_LS_mend sx (fun r1 u2 => wp_Mo_mend sm (fun r3 u4 => r1 = r3 ∧ Inv u2 u4)) := by
  obtain ⟨⟨e1, hc, ht, hp, hn⟩, ⟨j1, j2, j3⟩, h3, h4, h5⟩ := hi
  obtain ⟨n, en⟩ : ∃ n : Nat, gMo_triangles sm = n := ⟨(gMo_triangles sm).toNat, by omega⟩
  obtain ⟨nc, enc⟩ : ∃ n : Nat, gMo_corners sm = n := ⟨(gMo_corners sm).toNat, by omega⟩
  rw [en, enc] at e1
  have hr : ∀ i : Int, 0 ≤ i → i < 3 * n → 0 ≤ gMo_named sm i ∧ gMo_named sm i < nc := fun i i1 i2 => by
    have := hn i i1 (by omega)
    omega
  refine m_LS_mend (n := n) (nc := nc) hp e1 (by omega) (by omega) hr j1 j2 j3 (fun lo co B O ho => ?_)
  refine m_Mo_mend (n := n) (nc := nc) hp rfl rfl rfl en rfl enc (by omega) (by omega) hr (fun ri => ⟨rfl, ⟨?_, hc, ?_, hp, ?_⟩, ⟨rfl, rfl, rfl⟩, h3, h4, h5⟩)
  · rw [← enc]
  · have := (rd_ok (nc := nc) 120 (cl := gMo_closed sm) (tok_dk (px := gMo_px sm) (py := gMo_py sm) (pz := gMo_pz sm) hr).1 (by have := (tok_dk (px := gMo_px sm) (py := gMo_py sm) (pz := gMo_pz sm) hr).2; omega)).2
    show 0 ≤ ((rdm (gMo_px sm) (gMo_py sm) (gMo_pz sm) (gMo_named sm) n nc (gMo_closed sm)).2.1 : Int) ∧ ((rdm (gMo_px sm) (gMo_py sm) (gMo_pz sm) (gMo_named sm) n nc (gMo_closed sm)).2.1 : Int) ≤ 120
    unfold rdm
    omega
  · have := (rd_ok (nc := nc) 120 (cl := gMo_closed sm) (tok_dk (px := gMo_px sm) (py := gMo_py sm) (pz := gMo_pz sm) hr).1 (by have := (tok_dk (px := gMo_px sm) (py := gMo_py sm) (pz := gMo_pz sm) hr).2; omega)).1.1
    intro i i1 i2
    have h9 := this i i1 i2
    show 0 ≤ (rdm (gMo_px sm) (gMo_py sm) (gMo_pz sm) (gMo_named sm) n nc (gMo_closed sm)).1 i ∧ (rdm (gMo_px sm) (gMo_py sm) (gMo_pz sm) (gMo_named sm) n nc (gMo_closed sm)).1 i < gMo_corners sm
    rw [enc]
    exact h9
