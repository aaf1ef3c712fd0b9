/-! ===== MEANING 30: corners at one place ===== -/
/-- the same place -/
def spl (px py pz : Int → Int) (c v : Int) : Bool := decide (px v = px c ∧ py v = py c ∧ pz v = pz c)
def lwf (s : Int → Bool) : Nat → Int → Int
  | 0, v => v
  | k + 1, v => if s v = true then v else lwf s k (v + 1)
/-- the lowest corner at the place of c -/
def lw (px py pz : Int → Int) (c : Int) : Int := lwf (spl px py pz c) c.toNat 0
theorem lwf_in (s : Int → Bool) : ∀ (k : Nat) (v : Int), v ≤ lwf s k v ∧ lwf s k v ≤ v + k
  | 0, v => ⟨Int.le_refl _, by show v ≤ v + (0 : Nat); omega⟩
  | k + 1, v => by
    have := lwf_in s k (v + 1)
    show v ≤ (if s v = true then v else lwf s k (v + 1)) ∧ (if s v = true then v else lwf s k (v + 1)) ≤ v + (k + 1 : Nat)
    split <;> omega
theorem lw_in (px py pz : Int → Int) {c : Int} (h : 0 ≤ c) : 0 ≤ lw px py pz c ∧ lw px py pz c ≤ c := by
  have := lwf_in (spl px py pz c) c.toNat 0
  unfold lw
  omega
def Plc (px py pz : Int → Int) : Prop := ∀ i : Int, (0 ≤ px i ∧ px i ≤ 120) ∧ (0 ≤ py i ∧ py i ≤ 120) ∧ (0 ≤ pz i ∧ pz i ≤ 120)
theorem m_samePlace {v c : Int} {s0 : s_Me} {Q : Int → Prop} (hv : 0 ≤ v ∧ v < 80) (hc : 0 ≤ c ∧ c < 80) (hp : Plc (gMe_x s0) (gMe_y s0) (gMe_z s0)) (h : Q (b01 (spl (gMe_x s0) (gMe_y s0) (gMe_z s0) c v))) : wp_Me_samePlace v c s0 Q := by
  obtain ⟨a1, a2, a3⟩ := hp v
  obtain ⟨b1, b2, b3⟩ := hp c
  unfold wp_Me_samePlace
  unfold spl at h
  refine ⟨hv, hc, ⟨by omega, by omega⟩, ⟨by omega, by omega⟩, fun q => ?_, fun q1 => ⟨⟨by omega, by omega⟩, ⟨by omega, by omega⟩, fun q => ?_, fun q2 => ⟨⟨by omega, by omega⟩, ⟨by omega, by omega⟩, fun q => ?_, fun q3 => ?_⟩⟩⟩
  · rw [decide_eq_false (fun w => q w.1)] at h
    exact h
  · rw [decide_eq_false (fun w => q w.2.1)] at h
    exact h
  · rw [decide_eq_false (fun w => q w.2.2)] at h
    exact h
  · rw [decide_eq_true ⟨q1, q2, q3⟩] at h
    exact h
theorem m_lowestAtPlaceOf {c : Int} {s0 : s_Me} {Q : Int → Prop} (hc : 0 ≤ c ∧ c < 80) (hp : Plc (gMe_x s0) (gMe_y s0) (gMe_z s0)) (h : Q (lw (gMe_x s0) (gMe_y s0) (gMe_z s0) c)) : wp_Mn_lowestAtPlaceOf c s0 Q := by
  unfold wp_Mn_lowestAtPlaceOf
  intro P2 h2
  unfold lw at h
  have key : ∀ (k : Nat) (v : Int), v + k = c → 0 ≤ v → Q (lwf (spl (gMe_x s0) (gMe_y s0) (gMe_z s0) c) k v) → P2 v := by
    intro k
    induction k with
    | zero =>
      intro v e v0 hq
      have hq : Q v := hq
      have e : v = c := by omega
      subst e
      apply h2
      exact ⟨⟨by omega, by omega⟩, ⟨by omega, by omega⟩, fun _ => hq, fun q => by omega⟩
    | succ k ih =>
      intro v e v0 hq
      have hq : Q (if spl (gMe_x s0) (gMe_y s0) (gMe_z s0) c v = true then v else lwf (spl (gMe_x s0) (gMe_y s0) (gMe_z s0) c) k (v + 1)) := hq
      apply h2
      refine ⟨⟨by omega, by omega⟩, ⟨by omega, by omega⟩, fun q => by omega, fun _ => m_samePlace ⟨v0, by omega⟩ hc hp ⟨b01_r _, fun q => ?_, fun q => ?_⟩⟩
      · rw [b01_eq0] at q
        rw [q, if_neg (by decide)] at hq
        exact ih (v + 1) (by omega) (by omega) hq
      · have q1 : spl (gMe_x s0) (gMe_y s0) (gMe_z s0) c v = true := by
          rw [← b01_eq1]
          exact (b01_01 _).resolve_left q
        rw [if_pos q1] at hq
        exact hq
  exact key c.toNat 0 (by omega) (by omega) h
theorem m_lowestAt {c : Int} {s0 : s_Mo} {Q : Int → Prop} (hc : 0 ≤ c ∧ c < 80) (hp : Plc (gMo_px s0) (gMo_py s0) (gMo_pz s0)) (h : Q (lw (gMo_px s0) (gMo_py s0) (gMo_pz s0) c)) : wp_Mo_lowestAt c s0 Q := by
  unfold wp_Mo_lowestAt
  intro P2 h2
  unfold lw at h
  have step : ∀ v : Int, 0 ≤ v → v < 80 → (spl (gMo_px s0) (gMo_py s0) (gMo_pz s0) c v = true → Q v) → (spl (gMo_px s0) (gMo_py s0) (gMo_pz s0) c v = false → P2 (v + 1)) → P2 v := by
    intro v v0 v1 k1 k0
    obtain ⟨a1, a2, a3⟩ := hp v
    obtain ⟨b1, b2, b3⟩ := hp c
    unfold spl at k1 k0
    apply h2
    exact ⟨⟨v0, v1⟩, hc, ⟨by omega, by omega⟩, ⟨by omega, by omega⟩, fun q => k0 (decide_eq_false (fun w => q w.1)), fun q1 => ⟨⟨by omega, by omega⟩, ⟨by omega, by omega⟩, fun q => k0 (decide_eq_false (fun w => q w.2.1)), fun q2 => ⟨⟨by omega, by omega⟩, ⟨by omega, by omega⟩, fun q3 => k1 (decide_eq_true ⟨q1, q2, q3⟩), fun q => k0 (decide_eq_false (fun w => q w.2.2))⟩⟩⟩
  have key : ∀ (k : Nat) (v : Int), v + k = c → 0 ≤ v → Q (lwf (spl (gMo_px s0) (gMo_py s0) (gMo_pz s0) c) k v) → P2 v := by
    intro k
    induction k with
    | zero =>
      intro v e v0 hq
      have hq : Q v := hq
      have e : v = c := by omega
      subst e
      refine step v v0 (by omega) (fun _ => hq) (fun q => ?_)
      unfold spl at q
      simp at q
    | succ k ih =>
      intro v e v0 hq
      have hq : Q (if spl (gMo_px s0) (gMo_py s0) (gMo_pz s0) c v = true then v else lwf (spl (gMo_px s0) (gMo_py s0) (gMo_pz s0) c) k (v + 1)) := hq
      refine step v v0 (by omega) (fun q => ?_) (fun q => ?_)
      · rw [if_pos q] at hq
        exact hq
      · rw [q, if_neg (by decide)] at hq
        exact ih (v + 1) (by omega) (by omega) hq
  exact key c.toNat 0 (by omega) (by omega) h
/-- is k named among the first n -/
def has (nm : Int → Int) (k : Int) : Nat → Bool
  | 0 => false
  | n + 1 => has nm k n || decide (nm n = k)
/-- whether k counts as joined -/
def jc (l : Int → Int) (nm : Int → Int) (n : Nat) (k : Int) : Int := b01 (decide (l k ≠ k) && has nm k n)
theorem jc_0 (l nm : Int → Int) (k : Int) : jc l nm 0 k = 0 := by
  unfold jc has
  rw [Bool.and_false]
  rfl
theorem jc_ne (l nm : Int → Int) {n : Nat} {k : Int} (h : nm n ≠ k) : jc l nm (n + 1) k = jc l nm n k := by
  unfold jc
  rw [show has nm k (n + 1) = (has nm k n || decide (nm n = k)) from rfl, decide_eq_false h, Bool.or_false]
theorem jc_low (l nm : Int → Int) {n : Nat} {k : Int} (h : l k = k) : jc l nm n k = 0 := by
  unfold jc
  rw [decide_eq_false (fun w => w h), Bool.false_and]
  rfl
theorem jc_eq (l nm : Int → Int) {n : Nat} {k : Int} (h : nm n = k) (h2 : l k ≠ k) : jc l nm (n + 1) k = 1 := by
  unfold jc
  rw [show has nm k (n + 1) = (has nm k n || decide (nm n = k)) from rfl, decide_eq_true h, decide_eq_true h2, Bool.or_true]
  rfl
theorem m_joinCorners {s0 : s_Mn} {s1 : s_Me} {l nm : Int → Int} {n : Nat} {nc : Nat} {Q : s_Mn → s_Me → Prop} (hp : Plc (gMe_x s1) (gMe_y s1) (gMe_z s1)) (el : l = lw (gMe_x s1) (gMe_y s1) (gMe_z s1)) (enm : gMe_named s1 = nm) (hc : gMe_corners s1 = nc) (hc2 : nc ≤ 80) (hn : 3 * gMe_triangles s1 = n) (hn2 : n ≤ 360) (hr : ∀ i : Int, 0 ≤ i → i < n → 0 ≤ nm i ∧ nm i < nc)
    (h : ∀ lo co : Int → Int, Q (mkMn (gMn_joined s0 + sm (fun k => jc l nm n k) nc) (gMn_dropped s0) (gMn_closed s0) lo co (gMn_balance s0) (gMn_openFrom s0) (gMn_hole s0)) (mkMe (gMe_x s1) (gMe_y s1) (gMe_z s1) (gMe_corners s1) (ifl (fun i => l (nm i)) nm n) (gMe_triangles s1))) : wp_Mn_joinCorners s0 s1 Q := by
  unfold wp_Mn_joinCorners
  intro P2 P36 h2 h36
  have hl : ∀ c : Int, 0 ≤ c → 0 ≤ l c ∧ l c ≤ c := fun c hc => by rw [el]; exact lw_in _ _ _ hc
  have p36 : ∀ (k i : Nat) (lo co : Int → Int), i + k = n → (∀ c : Int, 0 ≤ c → c < nc → lo c = l c ∧ co c = jc l nm i c) → P36 i (mkMn (gMn_joined s0 + sm (fun k => jc l nm i k) nc) (gMn_dropped s0) (gMn_closed s0) lo co (gMn_balance s0) (gMn_openFrom s0) (gMn_hole s0)) (mkMe (gMe_x s1) (gMe_y s1) (gMe_z s1) (gMe_corners s1) (ifl (fun i => l (nm i)) nm i) (gMe_triangles s1)) := by
    intro k
    induction k with
    | zero =>
      intro i lo co e hlc
      have e : i = n := by omega
      subst e
      apply h36
      refine ⟨⟨by omega, by omega⟩, ⟨by show -2147483648 ≤ 3 * gMe_triangles s1; omega, by show 3 * gMe_triangles s1 ≤ 2147483647; omega⟩, fun _ => h lo co, fun q => ?_⟩
      have q : (i : Int) < 3 * gMe_triangles s1 := q
      omega
    | succ k ih =>
      intro i lo co e hlc
      obtain ⟨r1, r2⟩ := hr i (by omega) (by omega)
      obtain ⟨c1, c2⟩ := hlc (nm i) r1 r2
      have b0 := hl (nm i) r1
      have en : ifl (fun i => l (nm i)) nm (i : Int) i = nm i := if_neg (by omega)
      have es : iset (ifl (fun i => l (nm i)) nm (i : Int)) i (l (nm i)) = ifl (fun i => l (nm i)) nm ((i + 1 : Nat) : Int) := ifl_s (fun i => l (nm i)) nm (n := (i : Int)) (by omega) rfl
      apply h36
      refine ⟨⟨by omega, by omega⟩, ⟨by show -2147483648 ≤ 3 * gMe_triangles s1; omega, by show 3 * gMe_triangles s1 ≤ 2147483647; omega⟩, fun q => ?_, fun _ => ?_⟩
      · have q : 3 * gMe_triangles s1 ≤ (i : Int) := q
        omega
      · dsimp only [gMe_x, gMe_y, gMe_z, gMe_corners, gMe_named, gMe_triangles, mkMe, gMn_joined, gMn_dropped, gMn_closed, gMn_lowestHere, gMn_counted, gMn_balance, gMn_openFrom, gMn_hole, mkMn, gSl_count, gSl_ends, gSl_thickness, gSl_mesh, gSl_solidRows, mkSl, gSo_rowsOfKind0, gSo_rowsOfKind1, gSo_rowsOfKind2, gSo_rowsOfKind3, gSo_rowsOfKind4, gSo_rowsOfKind5, gSo_rowsOfKind6, gSo_hanging, gSo_shell, gSo_skin, gSo_period, gSo_reach, gSo_gap, mkSo, gRo_runs, mkRo, gPr_program, gPr_length, gPr_beads, gPr_at, gPr_layer, mkPr, gLS_mesh, gLS_mender, gLS_slices, gLS_sorter, gLS_router, gLS_printer, mkLS, gMo_thrown, gMo_corners, gMo_px, gMo_py, gMo_pz, gMo_triangles, gMo_named, gMo_joined, gMo_dropped, gMo_closed, gMo_layers, gMo_thickness, gMo_cuts, gMo_cx, gMo_cy, gMo_cz, gMo_solids, gMo_shell, gMo_skin, gMo_period, gMo_reach, gMo_gap, gMo_bytes, gMo_played, gMo_at, gMo_program, gMo_beads, gMo_ring, mkMo] at *
        rw [en, c1, es, c2]
        have r80 : 0 ≤ nm i ∧ nm i < 80 := ⟨r1, by omega⟩
        have hsame : jc l nm (i + 1) (nm i) = jc l nm i (nm i) → P36 ((i : Int) + 1) (mkMn (gMn_joined s0 + sm (fun k => jc l nm i k) nc) (gMn_dropped s0) (gMn_closed s0) lo co (gMn_balance s0) (gMn_openFrom s0) (gMn_hole s0)) (mkMe (gMe_x s1) (gMe_y s1) (gMe_z s1) (gMe_corners s1) (ifl (fun i => l (nm i)) nm ((i + 1 : Nat) : Int)) (gMe_triangles s1)) := by
          intro he
          have hall : ∀ c : Int, jc l nm (i + 1) c = jc l nm i c := by
            intro c
            by_cases w : nm i = c
            · rw [← w]; exact he
            · exact jc_ne l nm w
          have h9 := ih (i + 1) lo co (by omega) (fun c c0 c1 => ⟨(hlc c c0 c1).1, by rw [hall c]; exact (hlc c c0 c1).2⟩)
          rw [show (fun k : Nat => jc l nm (i + 1) (k : Int)) = (fun k : Nat => jc l nm i (k : Int)) from funext (fun k => hall k)] at h9
          exact h9
        refine ⟨⟨by omega, by omega⟩, r80, ⟨by omega, by omega⟩, fun q => ?_, fun q => ⟨b01_r _, fun q2 => ?_, fun q2 => ?_⟩⟩
        · exact hsame (by rw [jc_low l nm q, jc_low l nm q])
        · have q3 : jc l nm i (nm i) = 1 := (b01_01 _).resolve_left q2
          exact hsame (by rw [jc_eq l nm rfl q, q3])
        · have h9 := ih (i + 1) lo (iset co (nm i) 1) (by omega) (fun c c0 c1 => ⟨(hlc c c0 c1).1, ?_⟩)
          · obtain ⟨m, em⟩ := Int.eq_ofNat_of_zero_le r1
            have hu : sm (fun k : Nat => jc l nm (i + 1) (k : Int)) nc = sm (fun k : Nat => jc l nm i (k : Int)) nc + (jc l nm (i + 1) (m : Int) - jc l nm i (m : Int)) := sm_upd (k := m) (by omega) (fun j hj hne => jc_ne l nm (by omega))
            rw [← em, jc_eq l nm rfl q, q2] at hu
            rw [hu, show gMn_joined s0 + (sm (fun k : Nat => jc l nm i (k : Int)) nc + (1 - 0)) = gMn_joined s0 + sm (fun k : Nat => jc l nm i (k : Int)) nc + 1 by omega] at h9
            exact h9
          · by_cases w : c = nm i
            · subst w
              rw [iset_s, jc_eq l nm rfl q]
            · rw [iset_n _ _ w, jc_ne l nm (fun e => w e.symm)]
              exact (hlc c c0 c1).2
  have p2 : ∀ (k c : Nat) (lo co : Int → Int), c + k = nc → (∀ c' : Int, 0 ≤ c' → c' < c → lo c' = l c' ∧ co c' = 0) → P2 c (mkMn (gMn_joined s0) (gMn_dropped s0) (gMn_closed s0) lo co (gMn_balance s0) (gMn_openFrom s0) (gMn_hole s0)) s1 := by
    intro k
    induction k with
    | zero =>
      intro c lo co e hlc
      have e : c = nc := by omega
      subst e
      have h9 := p36 n 0 lo co (by omega) (fun c' c0 c1 => ⟨(hlc c' c0 c1).1, by rw [jc_0]; exact (hlc c' c0 c1).2⟩)
      rw [show (fun k : Nat => jc l nm 0 (k : Int)) = (fun _ => 0) from funext (fun k => jc_0 l nm k), sm_zero, Int.add_zero, show ((0 : Nat) : Int) = 0 from rfl, ifl_0, ← enm] at h9
      apply h2
      rw [hc]
      exact ⟨⟨by omega, by omega⟩, ⟨by omega, by omega⟩, fun _ => h9, fun q => by omega⟩
    | succ k ih =>
      intro c lo co e hlc
      apply h2
      rw [hc]
      refine ⟨⟨by omega, by omega⟩, ⟨by omega, by omega⟩, fun q => by omega, fun _ => m_lowestAtPlaceOf ⟨by omega, by omega⟩ hp ⟨⟨by omega, by omega⟩, ?_⟩⟩
      refine ih (c + 1) _ _ (by omega) (fun c' c0 c1 => ?_)
      by_cases w : c' = c
      · subst w
        rw [iset_s, iset_s, el]
        exact ⟨rfl, rfl⟩
      · rw [iset_n _ _ w, iset_n _ _ w]
        exact hlc c' c0 (by omega)
  exact p2 nc 0 _ _ (by omega) (fun c' c0 c1 => by omega)
/-! the reference -/
/-- corners below k are renamed -/
def rn (l nm : Int → Int) (k : Int) : Int → Int := fun i => if nm i < k then l (nm i) else nm i
theorem m_Mo_join {s0 : s_Mo} {l nm : Int → Int} {n nc : Nat} {Q : s_Mo → Prop} (hp : Plc (gMo_px s0) (gMo_py s0) (gMo_pz s0)) (el : l = lw (gMo_px s0) (gMo_py s0) (gMo_pz s0)) (enm : gMo_named s0 = nm) (hc : gMo_corners s0 = nc) (hc2 : nc ≤ 80) (hn : 3 * gMo_triangles s0 = n) (hn2 : n ≤ 360) (hr : ∀ i : Int, 0 ≤ i → i < n → 0 ≤ nm i ∧ nm i < nc)
    (h : Q (mkMo (gMo_thrown s0) (gMo_corners s0) (gMo_px s0) (gMo_py s0) (gMo_pz s0) (gMo_triangles s0) (ifl (fun i => l (nm i)) nm n) (gMo_joined s0 + sm (fun k => jc l nm n k) nc) (gMo_dropped s0) (gMo_closed s0) (gMo_layers s0) (gMo_thickness s0) (gMo_cuts s0) (gMo_cx s0) (gMo_cy s0) (gMo_cz s0) (gMo_solids s0) (gMo_shell s0) (gMo_skin s0) (gMo_period s0) (gMo_reach s0) (gMo_gap s0) (gMo_bytes s0) (gMo_played s0) (gMo_at s0) (gMo_program s0) (gMo_beads s0) (gMo_ring s0))) : wp_Mo_join s0 Q := by
  unfold wp_Mo_join
  intro P2 P29 h2 h29
  have hl : ∀ c : Int, 0 ≤ c → 0 ≤ l c ∧ l c ≤ c := fun c hc => by rw [el]; exact lw_in _ _ _ hc
  -- the names after corners below k
  have inner : ∀ (c : Nat) (J : Int), c < nc → l c ≠ c → (P2 ((c : Int) + 1) (mkMo (gMo_thrown s0) (gMo_corners s0) (gMo_px s0) (gMo_py s0) (gMo_pz s0) (gMo_triangles s0) (ifl (rn l nm ((c : Int) + 1)) nm n) (J + b01 (has nm c n)) (gMo_dropped s0) (gMo_closed s0) (gMo_layers s0) (gMo_thickness s0) (gMo_cuts s0) (gMo_cx s0) (gMo_cy s0) (gMo_cz s0) (gMo_solids s0) (gMo_shell s0) (gMo_skin s0) (gMo_period s0) (gMo_reach s0) (gMo_gap s0) (gMo_bytes s0) (gMo_played s0) (gMo_at s0) (gMo_program s0) (gMo_beads s0) (gMo_ring s0))) → ∀ (k i : Nat), i + k = n → P29 c (l c) (b01 (has nm c i)) i (mkMo (gMo_thrown s0) (gMo_corners s0) (gMo_px s0) (gMo_py s0) (gMo_pz s0) (gMo_triangles s0) (ifl (rn l nm ((c : Int) + 1)) (ifl (rn l nm c) nm n) i) (J) (gMo_dropped s0) (gMo_closed s0) (gMo_layers s0) (gMo_thickness s0) (gMo_cuts s0) (gMo_cx s0) (gMo_cy s0) (gMo_cz s0) (gMo_solids s0) (gMo_shell s0) (gMo_skin s0) (gMo_period s0) (gMo_reach s0) (gMo_gap s0) (gMo_bytes s0) (gMo_played s0) (gMo_at s0) (gMo_program s0) (gMo_beads s0) (gMo_ring s0)) := by
    intro c J hcn hne hq k
    have b0 := hl c (by omega)
    induction k with
    | zero =>
      intro i e
      have e : i = n := by omega
      subst e
      have ef : ifl (rn l nm ((c : Int) + 1)) (ifl (rn l nm c) nm i) i = ifl (rn l nm ((c : Int) + 1)) nm i := by
        funext j
        unfold ifl
        split <;> rfl
      rw [ef]
      apply h29
      refine ⟨⟨by omega, by omega⟩, ⟨by show -2147483648 ≤ 3 * gMo_triangles s0; omega, by show 3 * gMo_triangles s0 ≤ 2147483647; omega⟩, fun _ => ⟨b01_r _, fun q => ?_, fun q => ?_⟩, fun q => ?_⟩
      · rw [q] at hq
        exact hq
      · rw [(b01_01 _).resolve_left q] at hq
        exact hq
      · have q : (i : Int) < 3 * gMo_triangles s0 := q
        omega
    | succ k ih =>
      intro i e
      obtain ⟨r1, r2⟩ := hr i (by omega) (by omega)
      have b1 := hl (nm i) r1
      have h9 := ih (i + 1) (by omega)
      have hh : has nm c (i + 1) = (has nm c i || decide (nm i = c)) := rfl
      have ev : ifl (rn l nm ((c : Int) + 1)) (ifl (rn l nm c) nm n) i i = rn l nm c i := by
        unfold ifl
        rw [if_neg (by omega), if_pos (by omega)]
      apply h29
      refine ⟨⟨by omega, by omega⟩, ⟨by show -2147483648 ≤ 3 * gMo_triangles s0; omega, by show 3 * gMo_triangles s0 ≤ 2147483647; omega⟩, fun q => ?_, fun _ => ?_⟩
      · have q : 3 * gMo_triangles s0 ≤ (i : Int) := q
        omega
      · dsimp only [gMe_x, gMe_y, gMe_z, gMe_corners, gMe_named, gMe_triangles, mkMe, gMn_joined, gMn_dropped, gMn_closed, gMn_lowestHere, gMn_counted, gMn_balance, gMn_openFrom, gMn_hole, mkMn, gSl_count, gSl_ends, gSl_thickness, gSl_mesh, gSl_solidRows, mkSl, gSo_rowsOfKind0, gSo_rowsOfKind1, gSo_rowsOfKind2, gSo_rowsOfKind3, gSo_rowsOfKind4, gSo_rowsOfKind5, gSo_rowsOfKind6, gSo_hanging, gSo_shell, gSo_skin, gSo_period, gSo_reach, gSo_gap, mkSo, gRo_runs, mkRo, gPr_program, gPr_length, gPr_beads, gPr_at, gPr_layer, mkPr, gLS_mesh, gLS_mender, gLS_slices, gLS_sorter, gLS_router, gLS_printer, mkLS, gMo_thrown, gMo_corners, gMo_px, gMo_py, gMo_pz, gMo_triangles, gMo_named, gMo_joined, gMo_dropped, gMo_closed, gMo_layers, gMo_thickness, gMo_cuts, gMo_cx, gMo_cy, gMo_cz, gMo_solids, gMo_shell, gMo_skin, gMo_period, gMo_reach, gMo_gap, gMo_bytes, gMo_played, gMo_at, gMo_program, gMo_beads, gMo_ring, mkMo] at *
        rw [ev]
        have hv : 0 ≤ rn l nm c i ∧ rn l nm c i < 80 := by
          unfold rn
          split <;> omega
        refine ⟨⟨by omega, by omega⟩, ⟨by omega, by omega⟩, ⟨by omega, by omega⟩, fun q => ?_, fun q => ?_⟩
        · have qi : nm i = c := by
            unfold rn at q
            split at q <;> omega
          rw [hh, decide_eq_true qi, Bool.or_true] at h9
          rw [ifl_s (rn l nm ((c : Int) + 1)) (ifl (rn l nm c) nm n) (n := (i : Int)) (v := l c) (by omega) (by unfold rn; rw [qi, if_pos (by omega)])]
          exact h9
        · have qi : nm i ≠ c := by
            intro w
            apply q
            unfold rn
            rw [if_neg (by omega), w]
          rw [hh, decide_eq_false qi, Bool.or_false] at h9
          have es := ifl_s (rn l nm ((c : Int) + 1)) (ifl (rn l nm c) nm n) (n := (i : Int)) (v := rn l nm c i) (by omega) (by
            unfold rn
            by_cases w : nm i < c
            · rw [if_pos w, if_pos (by omega)]
            · rw [if_neg w, if_neg (by omega)])
          have es2 : iset (ifl (rn l nm ((c : Int) + 1)) (ifl (rn l nm c) nm n) i) i (rn l nm c i) = ifl (rn l nm ((c : Int) + 1)) (ifl (rn l nm c) nm n) i := by
            funext j
            unfold iset
            split
            · rename_i w
              rw [w, ev]
            · rfl
          rw [es2] at es
          rw [show ((i + 1 : Nat) : Int) = (i : Int) + 1 from rfl, ← es] at h9
          exact h9
  have outer : ∀ (k c : Nat), c + k = nc → P2 c (mkMo (gMo_thrown s0) (gMo_corners s0) (gMo_px s0) (gMo_py s0) (gMo_pz s0) (gMo_triangles s0) (ifl (rn l nm c) nm n) (gMo_joined s0 + sm (fun k => jc l nm n k) c) (gMo_dropped s0) (gMo_closed s0) (gMo_layers s0) (gMo_thickness s0) (gMo_cuts s0) (gMo_cx s0) (gMo_cy s0) (gMo_cz s0) (gMo_solids s0) (gMo_shell s0) (gMo_skin s0) (gMo_period s0) (gMo_reach s0) (gMo_gap s0) (gMo_bytes s0) (gMo_played s0) (gMo_at s0) (gMo_program s0) (gMo_beads s0) (gMo_ring s0)) := by
    intro k
    induction k with
    | zero =>
      intro c e
      have e : c = nc := by omega
      subst e
      have ef : ifl (rn l nm c) nm n = ifl (fun i => l (nm i)) nm n := by
        funext j
        unfold ifl
        split
        · rename_i w
          exact if_pos (hr j w.1 w.2).2
        · rfl
      rw [ef]
      apply h2
      refine ⟨⟨by omega, by omega⟩, ⟨by show -2147483648 ≤ gMo_corners s0; omega, by show gMo_corners s0 ≤ 2147483647; omega⟩, fun _ => h, fun q => ?_⟩
      have q : (c : Int) < gMo_corners s0 := q
      omega
    | succ k ih =>
      intro c e
      have h9 := ih (c + 1) (by omega)
      rw [sm_s, show ((c + 1 : Nat) : Int) = (c : Int) + 1 from rfl] at h9
      have b0 := hl c (by omega)
      apply h2
      refine ⟨⟨by omega, by omega⟩, ⟨by show -2147483648 ≤ gMo_corners s0; omega, by show gMo_corners s0 ≤ 2147483647; omega⟩, fun q => ?_, fun _ => m_lowestAt ⟨by omega, by omega⟩ hp ?_⟩
      · have q : gMo_corners s0 ≤ (c : Int) := q
        omega
      · show rg (lw (gMo_px s0) (gMo_py s0) (gMo_pz s0) c) ∧ (lw (gMo_px s0) (gMo_py s0) (gMo_pz s0) c ≠ c → P29 c (lw (gMo_px s0) (gMo_py s0) (gMo_pz s0) c) 0 0 _) ∧ (lw (gMo_px s0) (gMo_py s0) (gMo_pz s0) c = c → _)
        rw [← el]
        refine ⟨⟨by omega, by omega⟩, fun q => ?_, fun q => ?_⟩
        · have ej : jc l nm n (c : Int) = b01 (has nm c n) := by
            unfold jc
            rw [decide_eq_true q, Bool.true_and]
          rw [ej, ← Int.add_assoc] at h9
          have h8 := inner c _ (by omega) q h9 n 0 (by omega)
          rw [show ((0 : Nat) : Int) = 0 from rfl, ifl_0] at h8
          exact h8
        · rw [jc_low l nm q, Int.add_zero] at h9
          have ef : rn l nm ((c : Int) + 1) = rn l nm c := by
            funext j
            unfold rn
            by_cases w : nm j = c
            · rw [w, if_pos (by omega), if_neg (by omega), q]
            · by_cases w2 : nm j < c
              · rw [if_pos (by omega), if_pos w2]
              · rw [if_neg (by omega), if_neg w2]
          rw [ef] at h9
          exact h9
  have h9 := outer nc 0 (by omega)
  rw [sm_0, Int.add_zero] at h9
  have ef : ifl (rn l nm ((0 : Nat) : Int)) nm n = nm := by
    funext j
    unfold ifl
    split
    · rename_i w
      have := hr j w.1 w.2
      exact if_neg (by omega)
    · rfl
  rw [ef, ← enm] at h9
  exact h9
