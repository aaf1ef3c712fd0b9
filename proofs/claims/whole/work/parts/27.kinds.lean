/-! ===== MEANING 17: rows by kind ===== -/
/-- a kind out of what rows of bits tell -/
def kK (s U NE am bw ln : Bool) : Int := if s = false then (if U = false then 0 else if NE = true then 6 else 5) else if am = false then 1 else if bw = false then 2 else if ln = true then 3 else 4
theorem kK_0 : ∀ s U NE am bw ln : Bool, (!s && !(!s && U)) = decide (kK s U NE am bw ln = 0) := by decide
theorem kK_1 : ∀ s U NE am bw ln : Bool, (s && !(s && am)) = decide (kK s U NE am bw ln = 1) := by decide
theorem kK_2 : ∀ s U NE am bw ln : Bool, ((s && am) && !((s && am) && bw)) = decide (kK s U NE am bw ln = 2) := by decide
theorem kK_3 : ∀ s U NE am bw ln : Bool, (((s && am) && bw) && ln) = decide (kK s U NE am bw ln = 3) := by decide
theorem kK_4 : ∀ s U NE am bw ln : Bool, (((s && am) && bw) && !ln) = decide (kK s U NE am bw ln = 4) := by decide
theorem kK_5 : ∀ s U NE am bw ln : Bool, ((!s && U) && !NE) = decide (kK s U NE am bw ln = 5) := by decide
theorem kK_6 : ∀ s U NE am bw ln : Bool, ((!s && U) && NE) = decide (kK s U NE am bw ln = 6) := by decide
theorem kd_K {so : Int → Int → Int → Bool} {n : Int} {sh sk : Nat} {pe : Int} {re ga : Nat} {l x y : Int} {NE am bw ln : Bool} (hg : 0 ≤ l ∧ l < n ∧ 0 ≤ x ∧ x < 12 ∧ 0 ≤ y ∧ y < 12)
    (hA : am = true ↔ ∀ i j : Int, x - sh ≤ i → i ≤ x + sh → y - sh ≤ j → j ≤ y + sh → so l i j = true) (hB : bw = true ↔ ∀ d : Nat, d < sk → so (l - (d + 1)) x y = true ∧ so (l + (d + 1)) x y = true)
    (hC : ln = true ↔ 0 < pe ∧ Int.tmod (if Int.tmod l 2 = 0 then x else y) pe = 0) (hN : NE = true ↔ ∃ i j : Int, x - ga ≤ i ∧ i ≤ x + ga ∧ y - ga ≤ j ∧ j ≤ y + ga ∧ so l i j = true) :
    kd so n sh sk pe re ga l x y = kK (so l x y) (uhg so re n x y (n - 1 - l).toNat) NE am bw ln := by
  unfold kd kK
  rw [if_neg (fun q => q hg)]
  have tf : ¬ (true = false) := by decide
  have ft : ¬ (false = true) := by decide
  cases hs : so l x y with
  | false =>
    rw [if_pos rfl, if_pos rfl]
    cases hu : uhg so re n x y (n - 1 - l).toNat with
    | false => rfl
    | true =>
      rw [if_neg tf, if_neg tf]
      have hc0 := cnt_0 (so l) x y ga
      have hnn := cnt_nn (so l) x y ga
      cases NE with
      | true =>
        rw [if_pos (show true = true from rfl)]
        obtain ⟨i, j, a, b, c, d, f⟩ := hN.mp rfl
        have p1 : 0 < ga := by
          rcases Nat.eq_zero_or_pos ga with e | e
          · subst e
            have ei : i = x := by omega
            have ej : j = y := by omega
            rw [ei, ej, hs] at f
            cases f
          · exact e
        have p2 : 0 < cnt (so l) x y ga := by
          rcases Int.lt_or_le 0 (cnt (so l) x y ga) with q | q
          · exact q
          · have := hc0.mp (by omega) i j a b c d
            rw [f] at this
            cases this
        rw [if_pos (show 0 < ga ∧ 0 < cnt (so l) x y ga from ⟨p1, p2⟩)]
      | false =>
        rw [if_neg ft, if_neg (show ¬ (0 < ga ∧ 0 < cnt (so l) x y ga) from fun q => by
          have := hc0.mpr (fun i j a b c d => by
            cases hv : so l i j
            · rfl
            · exact absurd (hN.mpr ⟨i, j, a, b, c, d, hv⟩) ft)
          omega)]
  | true =>
    rw [if_neg tf, if_neg tf]
    have hf := cnt_full (so l) x y sh
    cases am with
    | true =>
      have hall := hA.mp rfl
      rw [if_neg tf, if_neg (show ¬ (0 < sh ∧ cnt (so l) x y sh < (2 * sh + 1) * (2 * sh + 1)) from fun q => by
        obtain ⟨i, j, a, b, c, d, f⟩ := hf.mp q.2
        rw [hall i j a b c d] at f
        cases f)]
      cases bw with
      | true =>
        have hall2 := hB.mp rfl
        rw [if_neg tf, if_neg (show ¬ (∃ d : Fin sk, so (l - (d + 1)) x y = false ∨ so (l + (d + 1)) x y = false) from fun ⟨d, q⟩ => by
          have h3 := hall2 d.val d.isLt
          rcases q with q | q
          · rw [h3.1] at q; cases q
          · rw [h3.2] at q; cases q)]
        cases ln with
        | true => rw [if_pos (show true = true from rfl), if_pos (hC.mp rfl)]
        | false => rw [if_neg ft, if_neg (fun q => ft (hC.mpr q))]
      | false =>
        have w : ∃ d : Fin sk, so (l - (d + 1)) x y = false ∨ so (l + (d + 1)) x y = false := by
          rcases Classical.em (∃ d : Fin sk, so (l - (d + 1)) x y = false ∨ so (l + (d + 1)) x y = false) with w | w
          · exact w
          · exact absurd (hB.mpr (fun d hd => by
              cases h1 : so (l - ((d : Int) + 1)) x y
              · exact absurd ⟨⟨d, hd⟩, Or.inl h1⟩ w
              · cases h2 : so (l + ((d : Int) + 1)) x y
                · exact absurd ⟨⟨d, hd⟩, Or.inr h2⟩ w
                · exact ⟨rfl, rfl⟩)) ft
        rw [if_pos (show false = false from rfl), if_pos w]
    | false =>
      have hex : ∃ i j : Int, x - sh ≤ i ∧ i ≤ x + sh ∧ y - sh ≤ j ∧ j ≤ y + sh ∧ so l i j = false := by
        rcases Classical.em (∃ i j : Int, x - sh ≤ i ∧ i ≤ x + sh ∧ y - sh ≤ j ∧ j ≤ y + sh ∧ so l i j = false) with w | w
        · exact w
        · exact absurd (hA.mpr (fun i j a b c d => by
            cases hv : so l i j
            · exact absurd ⟨i, j, a, b, c, d, hv⟩ w
            · rfl)) ft
      have p1 : 0 < sh := by
        obtain ⟨i, j, a, b, c, d, f⟩ := hex
        rcases Nat.eq_zero_or_pos sh with e | e
        · subst e
          have ei : i = x := by omega
          have ej : j = y := by omega
          rw [ei, ej, hs] at f
          cases f
        · exact e
      rw [if_pos (show false = false from rfl), if_pos (show 0 < sh ∧ cnt (so l) x y sh < (2 * sh + 1) * (2 * sh + 1) from ⟨p1, hf.mpr hex⟩)]
/-- the rows of a layer's row are right -/
def Good (s : s_So) (so : Int → Int → Int → Bool) (n : Int) (sh sk : Nat) (pe : Int) (re ga : Nat) (l y : Int) : Prop :=
  (∀ k : Int, 0 ≤ k → k < 7 → row (rSo_rowsOfKind s k (l * 12 + y)) ∧ ∀ x : Nat, x < 12 → bt (rSo_rowsOfKind s k (l * 12 + y)) x = decide (kd so n sh sk pe re ga l x y = k)) ∧
  (row (gSo_hanging s (l * 12 + y)) ∧ ∀ x : Nat, x < 12 → bt (gSo_hanging s (l * 12 + y)) x = hgs so re l x y)
/-- the same settings, the same rows but at one place -/
def Same (u s : s_So) (a : Int) : Prop :=
  (gSo_shell u = gSo_shell s ∧ gSo_skin u = gSo_skin s ∧ gSo_period u = gSo_period s ∧ gSo_reach u = gSo_reach s ∧ gSo_gap u = gSo_gap s) ∧ (∀ k i : Int, i ≠ a → rSo_rowsOfKind u k i = rSo_rowsOfKind s k i) ∧ (∀ i : Int, i ≠ a → gSo_hanging u i = gSo_hanging s i)
theorem bool_iff {a b : Bool} (h : a = true ↔ b = true) : a = b := by cases a <;> cases b <;> simp_all
theorem m_sortRow {l y v3 : Int} {s0 : s_So} {s1 : s_Sl} {so : Int → Int → Int → Bool} {Q : s_So → Prop} (hs : SlOk s1 so) (hl : 0 ≤ l ∧ l < gSl_count s1) (hy : 0 ≤ y ∧ y < 12) (hsh : 0 ≤ gSo_shell s0 ∧ gSo_shell s0 ≤ 3) (hsk : 0 ≤ gSo_skin s0 ∧ gSo_skin s0 ≤ 3) (hpe : 0 ≤ gSo_period s0 ∧ gSo_period s0 ≤ 6) (hre : 0 ≤ gSo_reach s0 ∧ gSo_reach s0 ≤ 3) (hga : 0 ≤ gSo_gap s0 ∧ gSo_gap s0 ≤ 2)
    (hv : ∀ x : Nat, x < 12 → bt v3 x = uhg so (gSo_reach s0).toNat (gSl_count s1) x y (gSl_count s1 - 1 - l).toNat)
    (h : ∀ u : s_So, Same u s0 (l * 12 + y) → Good u so (gSl_count s1) (gSo_shell s0).toNat (gSo_skin s0).toNat (gSo_period s0) (gSo_reach s0).toNat (gSo_gap s0).toNat l y → Q u) : wp_So_sortSolid l y s0 s1 (fun u3 => wp_So_sortOpen l y v3 u3 s1 Q) := by
  have hc := hs.1
  have hl3 : sm3 l := ⟨by omega, by omega⟩
  have hy3 : sm3 y := ⟨by omega, by omega⟩
  have rl : rg l := ⟨by omega, by omega⟩
  have ry : rg y := ⟨by omega, by omega⟩
  have hat : 0 ≤ l * 12 + y ∧ l * 12 + y < 288 := ⟨by omega, by omega⟩
  unfold wp_So_sortSolid
  refine m_solidRow hs rl ry (fun r1 hr1 b1 => ?_)
  refine m_among hs hl3 hy3 hsh (fun r2 hr2 b2 => ?_)
  refine m_between hs hl3 hy3 hsk (fun r3 hr3 b3 => ?_)
  refine m_line ⟨by omega, by omega⟩ hy hpe (fun r4 hr4 b4 => ⟨hat, rl, ?_⟩)
  have fin : ∀ hg : Int, row hg → (∀ x : Nat, x < 12 → bt hg x = hgs so (gSo_reach s0).toNat l x y) → wp_So_sortOpen l y v3 (mkSo (gSo_rowsOfKind0 s0) (iset (gSo_rowsOfKind1 s0) (l * 12 + y) (iand r1 (-1 - (iand r1 r2)))) (iset (gSo_rowsOfKind2 s0) (l * 12 + y) (iand (iand r1 r2) (-1 - (iand (iand r1 r2) r3)))) (iset (gSo_rowsOfKind3 s0) (l * 12 + y) (iand (iand (iand r1 r2) r3) r4)) (iset (gSo_rowsOfKind4 s0) (l * 12 + y) (iand (iand (iand r1 r2) r3) (-1 - r4))) (gSo_rowsOfKind5 s0) (gSo_rowsOfKind6 s0) (iset (gSo_hanging s0) (l * 12 + y) hg) (gSo_shell s0) (gSo_skin s0) (gSo_period s0) (gSo_reach s0) (gSo_gap s0)) s1 Q := by
    intro hg hhg bhg
    unfold wp_So_sortOpen
    refine m_solidRow hs rl ry (fun r5 hr5 b5 => ?_)
    refine m_near (d := gSo_gap s0) hs hl3 hy3 ⟨hga.1, by omega⟩ (fun r6 hr6 b6 => ⟨hat, h _ ⟨⟨rfl, rfl, rfl, rfl, rfl⟩, fun k i hi => ?_, fun i hi => iset_n _ _ hi⟩ ⟨?_, ?_, ?_⟩⟩)
    · show (if k = 0 then _ else if k = 1 then _ else if k = 2 then _ else if k = 3 then _ else if k = 4 then _ else if k = 5 then _ else _ : Int → Int) i = (if k = 0 then _ else if k = 1 then _ else if k = 2 then _ else if k = 3 then _ else if k = 4 then _ else if k = 5 then _ else _ : Int → Int) i
      dsimp only [gMe_x, gMe_y, gMe_z, gMe_corners, gMe_named, gMe_triangles, mkMe, gMn_joined, gMn_dropped, gMn_closed, gMn_lowestHere, gMn_counted, gMn_balance, gMn_openFrom, gMn_hole, mkMn, gSl_count, gSl_ends, gSl_thickness, gSl_mesh, gSl_solidRows, mkSl, gSo_rowsOfKind0, gSo_rowsOfKind1, gSo_rowsOfKind2, gSo_rowsOfKind3, gSo_rowsOfKind4, gSo_rowsOfKind5, gSo_rowsOfKind6, gSo_hanging, gSo_shell, gSo_skin, gSo_period, gSo_reach, gSo_gap, mkSo, gRo_runs, mkRo, gPr_program, gPr_length, gPr_beads, gPr_at, gPr_layer, mkPr, gLS_mesh, gLS_mender, gLS_slices, gLS_sorter, gLS_router, gLS_printer, mkLS, gMo_thrown, gMo_corners, gMo_px, gMo_py, gMo_pz, gMo_triangles, gMo_named, gMo_joined, gMo_dropped, gMo_closed, gMo_layers, gMo_thickness, gMo_cuts, gMo_cx, gMo_cy, gMo_cz, gMo_solids, gMo_shell, gMo_skin, gMo_period, gMo_reach, gMo_gap, gMo_bytes, gMo_played, gMo_at, gMo_program, gMo_beads, gMo_ring, mkMo]
      split
      · exact iset_n _ _ hi
      · split
        · exact iset_n _ _ hi
        · split
          · exact iset_n _ _ hi
          · split
            · exact iset_n _ _ hi
            · split
              · exact iset_n _ _ hi
              · split
                · exact iset_n _ _ hi
                · exact iset_n _ _ hi
    · intro k k1 k2
      have kk : ∀ x : Nat, x < 12 → kd so (gSl_count s1) (gSo_shell s0).toNat (gSo_skin s0).toNat (gSo_period s0) (gSo_reach s0).toNat (gSo_gap s0).toNat l x y = kK (bt r1 x) (bt v3 x) (bt r6 x) (bt r2 x) (bt r3 x) (bt r4 x) := by
        intro x hx
        have es : (((gSo_shell s0).toNat : Nat) : Int) = gSo_shell s0 := by omega
        have eg : (((gSo_gap s0).toNat : Nat) : Int) = gSo_gap s0 := by omega
        rw [b1, hv x hx]
        refine kd_K ⟨hl.1, hl.2, by omega, by omega, hy.1, hy.2⟩ ?_ (b3 x hx) (b4 x hx) ?_
        · rw [es]
          exact b2 x hx
        · rw [eg]
          exact b6 x hx
      have e5 : ∀ x : Nat, x < 12 → bt r5 x = bt r1 x := fun x hx => by rw [b5, b1]
      have n32 : ∀ (z : Int) (x : Nat), x < 12 → bt (-1 - z) x = !bt z x := fun z x hx => bt_not z (by omega)
      have full : ∀ x : Nat, x < 12 → bt 4095 x = true := fun x hx => by rw [bt_full (by omega), decide_eq_true hx]
      rcases (show k = 0 ∨ k = 1 ∨ k = 2 ∨ k = 3 ∨ k = 4 ∨ k = 5 ∨ k = 6 by omega) with e | e | e | e | e | e | e <;> subst e
      · refine ⟨?_, fun x hx => ?_⟩
        · show row (iset _ _ _ _)
          rw [iset_s]
          exact row_and (row_and row_full)
        · show bt (iset _ _ _ _) x = _
          rw [iset_s, bt_and, bt_and, n32 _ _ hx, n32 _ _ hx, bt_and, bt_and, n32 _ _ hx, full x hx, Bool.true_and, e5 x hx, kk x hx]
          exact kK_0 _ _ _ _ _ _
      · refine ⟨?_, fun x hx => ?_⟩
        · show row (iset _ _ _ _)
          rw [iset_s]
          exact row_and hr1
        · show bt (iset _ _ _ _) x = _
          rw [iset_s, bt_and, n32 _ _ hx, bt_and, kk x hx]
          exact kK_1 _ _ _ _ _ _
      · refine ⟨?_, fun x hx => ?_⟩
        · show row (iset _ _ _ _)
          rw [iset_s]
          exact row_and (row_and hr1)
        · show bt (iset _ _ _ _) x = _
          rw [iset_s, bt_and, n32 _ _ hx, bt_and, bt_and, bt_and, kk x hx]
          exact kK_2 _ _ _ _ _ _
      · refine ⟨?_, fun x hx => ?_⟩
        · show row (iset _ _ _ _)
          rw [iset_s]
          exact row_and (row_and (row_and hr1))
        · show bt (iset _ _ _ _) x = _
          rw [iset_s, bt_and, bt_and, bt_and, kk x hx]
          exact kK_3 _ _ _ _ _ _
      · refine ⟨?_, fun x hx => ?_⟩
        · show row (iset _ _ _ _)
          rw [iset_s]
          exact row_and (row_and (row_and hr1))
        · show bt (iset _ _ _ _) x = _
          rw [iset_s, bt_and, n32 _ _ hx, bt_and, bt_and, kk x hx]
          exact kK_4 _ _ _ _ _ _
      · refine ⟨?_, fun x hx => ?_⟩
        · show row (iset _ _ _ _)
          rw [iset_s]
          exact row_and (row_and (row_and row_full))
        · show bt (iset _ _ _ _) x = _
          rw [iset_s, bt_and, n32 _ _ hx, bt_and, bt_and, n32 _ _ hx, full x hx, Bool.true_and, e5 x hx, kk x hx]
          exact kK_5 _ _ _ _ _ _
      · refine ⟨?_, fun x hx => ?_⟩
        · show row (iset _ _ _ _)
          rw [iset_s]
          exact row_and (row_and (row_and row_full))
        · show bt (iset _ _ _ _) x = _
          rw [iset_s, bt_and, bt_and, bt_and, n32 _ _ hx, full x hx, Bool.true_and, e5 x hx, kk x hx]
          exact kK_6 _ _ _ _ _ _
    · show row (iset _ _ _ _)
      rw [iset_s]
      exact hhg
    · intro x hx
      show bt (iset _ _ _ _) x = _
      rw [iset_s]
      exact bhg x hx
  refine ⟨fun q => fin 0 row_0 (fun x hx => ?_), fun q => ?_⟩
  · rw [bt_z]
    unfold hgs
    rw [decide_eq_false (by omega)]
    rfl
  · refine m_near (d := gSo_reach s0) hs ⟨by omega, by omega⟩ hy3 hre (fun r7 hr7 b7 => fin _ (row_and hr1) (fun x hx => ?_))
    rw [bt_and, bt_not _ (by omega), b1]
    unfold hgs
    rw [decide_eq_true q, Bool.true_and]
    congr 1
    have er : (((gSo_reach s0).toNat : Nat) : Int) = gSo_reach s0 := by omega
    have hc0 := cnt_0 (so (l - 1)) x y (gSo_reach s0).toNat
    rw [er] at hc0
    have h7 := b7 x hx
    apply bool_iff
    rw [decide_eq_true_eq, hc0, Bool.not_eq_true']
    constructor
    · intro z i j a b c d
      cases hv2 : so (l - 1) i j
      · rfl
      · rw [h7.mpr ⟨i, j, a, b, c, d, hv2⟩] at z
        cases z
    · intro z
      cases hv2 : bt r7 x
      · rfl
      · obtain ⟨i, j, a, b, c, d, f⟩ := h7.mp hv2
        rw [z i j a b c d] at f
        cases f
