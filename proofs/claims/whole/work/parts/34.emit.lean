/-! ===== MEANING 24: emit ===== -/
/-- the first n are 0 -/
def icl (f : Int → Int) (n : Int) : Int → Int := fun j => if 0 ≤ j ∧ j < n then 0 else f j
theorem icl_0 (f : Int → Int) : icl f 0 = f := by
  funext j
  unfold icl
  rw [if_neg (by omega)]
theorem icl_s (f : Int → Int) {n : Int} (h : 0 ≤ n) : iset (icl f n) n 0 = icl f (n + 1) := by
  funext j
  unfold iset icl
  by_cases e : j = n
  · rw [if_pos e, if_pos (by omega)]
  · rw [if_neg e]
    by_cases w : 0 ≤ j ∧ j < n
    · rw [if_pos w, if_pos (by omega)]
    · rw [if_neg w, if_neg (by omega)]
theorem m_fill {n0 : Nat} {f0 : Int → Int} {Q : (Int → Int) → Prop} (hn : n0 ≤ 100000) (h : Q (icl f0 n0)) : wp_Arr_fill 0 n0 f0 Q := by
  unfold wp_Arr_fill
  intro P5 h5
  have key : ∀ (k n : Nat), n + k = n0 → P5 n n0 (icl f0 n) := by
    intro k
    induction k with
    | zero =>
      intro n e
      apply h5
      have e : n = n0 := by omega
      subst e
      exact ⟨⟨by omega, by omega⟩, ⟨by omega, by omega⟩, fun _ => h, fun q => by omega⟩
    | succ k ih =>
      intro n e
      apply h5
      refine ⟨⟨by omega, by omega⟩, ⟨by omega, by omega⟩, fun q => by omega, fun _ => ⟨⟨by omega, by omega⟩, ?_⟩⟩
      rw [icl_s _ (by omega)]
      exact ih (n + 1) (by omega)
  have h9 := key n0 0 (by omega)
  rw [show ((0 : Nat) : Int) = 0 from rfl, icl_0] at h9
  exact h9
theorem m_Mo_clear {s0 : s_Mo} {Q : s_Mo → Prop} (h : Q (mkMo (gMo_thrown s0) (gMo_corners s0) (gMo_px s0) (gMo_py s0) (gMo_pz s0) (gMo_triangles s0) (gMo_named s0) (gMo_joined s0) (gMo_dropped s0) (gMo_closed s0) (gMo_layers s0) (gMo_thickness s0) (gMo_cuts s0) (gMo_cx s0) (gMo_cy s0) (gMo_cz s0) (gMo_solids s0) (gMo_shell s0) (gMo_skin s0) (gMo_period s0) (gMo_reach s0) (gMo_gap s0) (gMo_bytes s0) (0) (-1) (gMo_program s0) (icl (gMo_beads s0) 3456) (gMo_ring s0))) : wp_Mo_clear s0 Q := by
  unfold wp_Mo_clear
  intro P12 h12
  have key : ∀ (k n : Nat), n + k = 3456 → P12 n (mkMo (gMo_thrown s0) (gMo_corners s0) (gMo_px s0) (gMo_py s0) (gMo_pz s0) (gMo_triangles s0) (gMo_named s0) (gMo_joined s0) (gMo_dropped s0) (gMo_closed s0) (gMo_layers s0) (gMo_thickness s0) (gMo_cuts s0) (gMo_cx s0) (gMo_cy s0) (gMo_cz s0) (gMo_solids s0) (gMo_shell s0) (gMo_skin s0) (gMo_period s0) (gMo_reach s0) (gMo_gap s0) (gMo_bytes s0) (0) (-1) (gMo_program s0) (icl (gMo_beads s0) (n : Int)) (gMo_ring s0)) := by
    intro k
    induction k with
    | zero =>
      intro n e
      apply h12
      have e : n = 3456 := by omega
      subst e
      exact ⟨⟨by omega, by omega⟩, fun _ => h, fun q => by omega⟩
    | succ k ih =>
      intro n e
      have h9 := ih (n + 1) (by omega)
      rw [show ((n + 1 : Nat) : Int) = (n : Int) + 1 from rfl, ← icl_s _ (by omega)] at h9
      apply h12
      exact ⟨⟨by omega, by omega⟩, fun q => by omega, fun _ => ⟨⟨by omega, by omega⟩, h9⟩⟩
  have h9 := key 3456 0 (by omega)
  rw [show ((0 : Nat) : Int) = 0 from rfl, icl_0] at h9
  exact h9
/-- a command that lays a run -/
def p5 (f : Int → Int) (n x y k e : Int) : Int → Int := iset (iset (iset (iset (iset f n 201) (n + 1) x) (n + 1 + 1) y) (n + 1 + 1 + 1) k) (n + 1 + 1 + 1 + 1) e
def wr (kf : Nat → Int) (pr : Int → Int) (n : Int) : Nat → (Int → Int)
  | 0 => pr
  | c + 1 => if stt kf c = true then p5 (wr kf pr n c) (n + 5 * (rk kf c : Int)) ((c % 12 : Nat) : Int) ((c / 12 : Nat) : Int) (kf c) (lnt kf c 144 : Int) else wr kf pr n c
theorem wr_t {kf : Nat → Int} {pr : Int → Int} {n : Int} {c : Nat} (h : stt kf c = true) : wr kf pr n (c + 1) = p5 (wr kf pr n c) (n + 5 * (rk kf c : Int)) ((c % 12 : Nat) : Int) ((c / 12 : Nat) : Int) (kf c) (lnt kf c 144 : Int) := if_pos h
theorem wr_f {kf : Nat → Int} {pr : Int → Int} {n : Int} {c : Nat} (h : ¬ stt kf c = true) : wr kf pr n (c + 1) = wr kf pr n c := if_neg h
def emN (kfs : Nat → Nat → Int) : Nat → Int
  | 0 => 0
  | l + 1 => emN kfs l + 1 + 5 * (rk (kfs l) 144 : Int)
def emP (kfs : Nat → Nat → Int) (pr : Int → Int) : Nat → (Int → Int)
  | 0 => pr
  | l + 1 => wr (kfs l) (iset (emP kfs pr l) (emN kfs l) 200) (emN kfs l + 1) 144
theorem emN_le (kfs : Nat → Nat → Int) : ∀ l : Nat, 0 ≤ emN kfs l ∧ emN kfs l ≤ 721 * (l : Int)
  | 0 => ⟨Int.le_refl _, Int.le_refl _⟩
  | l + 1 => by
    have := emN_le kfs l
    have := rk_le (kfs l) 144
    show 0 ≤ emN kfs l + 1 + 5 * (rk (kfs l) 144 : Int) ∧ emN kfs l + 1 + 5 * (rk (kfs l) 144 : Int) ≤ _
    omega
/-! it can be played -/
def okr (pr : Int → Int) (b at2 : Int) : Nat → Int → Int → Prop
  | 0, pl, at_ => pl = b ∧ at_ = at2
  | k + 1, pl, at_ => (pr pl = 200 ∧ pl + 1 ≤ b ∧ -1 ≤ at_ ∧ at_ < 23 ∧ okr pr b at2 k (pl + 1) (at_ + 1)) ∨ (pr pl = 201 ∧ pl + 5 ≤ b ∧ (0 ≤ at_ ∧ at_ < 24) ∧ (0 ≤ pr (pl + 1) ∧ 0 ≤ pr (pl + 4) ∧ pr (pl + 1) + pr (pl + 4) ≤ 12) ∧ (0 ≤ pr (pl + 2) ∧ pr (pl + 2) < 12) ∧ okr pr b at2 k (pl + 5) at_)
theorem okr_okp {pr : Int → Int} {b at2 : Int} : ∀ {k : Nat} {pl at_ : Int}, okr pr b at2 k pl at_ → okp pr b k pl at_
  | 0, pl, at_, h => h.1
  | k + 1, pl, at_, h => by
    rcases h with ⟨h1, h2, h3, h4, h5⟩ | ⟨h1, h2, h3, h4, h5, h6⟩
    · exact Or.inr ⟨by omega, Or.inl ⟨h1, h3, h4, okr_okp h5⟩⟩
    · exact Or.inr ⟨by omega, Or.inr ⟨h1, h2, h3, h4, h5, okr_okp h6⟩⟩
theorem okr_200 {pr pr' : Int → Int} {b at2 : Int} (hf : ∀ i, i < b → pr' i = pr i) (hb : pr' b = 200) (ha : -1 ≤ at2 ∧ at2 < 23) : ∀ {k : Nat} {pl at_ : Int}, okr pr b at2 k pl at_ → okr pr' (b + 1) (at2 + 1) (k + 1) pl at_
  | 0, pl, at_, h => by
    obtain ⟨rfl, rfl⟩ := h
    exact Or.inl ⟨hb, by omega, ha.1, ha.2, rfl, rfl⟩
  | k + 1, pl, at_, h => by
    rcases h with ⟨h1, h2, h3, h4, h5⟩ | ⟨h1, h2, h3, h4, h5, h6⟩
    · exact Or.inl ⟨by rw [hf _ (by omega)]; exact h1, by omega, h3, h4, okr_200 hf hb ha h5⟩
    · refine Or.inr ⟨by rw [hf _ (by omega)]; exact h1, by omega, h3, ?_, ?_, okr_200 hf hb ha h6⟩
      · rw [hf _ (by omega), hf _ (by omega)]
        exact h4
      · rw [hf _ (by omega)]
        exact h5
theorem okr_201 {pr pr' : Int → Int} {b at2 : Int} (hf : ∀ i, i < b → pr' i = pr i) (hb : pr' b = 201) (ha : 0 ≤ at2 ∧ at2 < 24) (h4 : 0 ≤ pr' (b + 1) ∧ 0 ≤ pr' (b + 4) ∧ pr' (b + 1) + pr' (b + 4) ≤ 12) (h5 : 0 ≤ pr' (b + 2) ∧ pr' (b + 2) < 12) : ∀ {k : Nat} {pl at_ : Int}, okr pr b at2 k pl at_ → okr pr' (b + 5) at2 (k + 1) pl at_
  | 0, pl, at_, h => by
    obtain ⟨rfl, rfl⟩ := h
    exact Or.inr ⟨hb, by omega, ha, h4, h5, rfl, rfl⟩
  | k + 1, pl, at_, h => by
    rcases h with ⟨g1, g2, g3, g4, g5⟩ | ⟨g1, g2, g3, g4, g5, g6⟩
    · exact Or.inl ⟨by rw [hf _ (by omega)]; exact g1, by omega, g3, g4, okr_201 hf hb ha h4 h5 g5⟩
    · refine Or.inr ⟨by rw [hf _ (by omega)]; exact g1, by omega, g3, ?_, ?_, okr_201 hf hb ha h4 h5 g6⟩
      · rw [hf _ (by omega), hf _ (by omega)]
        exact g4
      · rw [hf _ (by omega)]
        exact g5
theorem wr_ok {kf : Nat → Int} {pr : Int → Int} {n at2 : Int} (ha : 0 ≤ at2 ∧ at2 < 24) (h : ∃ k, okr pr n at2 k 0 (-1)) : ∀ c : Nat, c ≤ 144 → ∃ k, okr (wr kf pr n c) (n + 5 * (rk kf c : Int)) at2 k 0 (-1)
  | 0, _ => by
    rw [rk_0]
    show ∃ k, okr pr (n + 0) at2 k 0 (-1)
    rw [Int.add_zero]
    exact h
  | c + 1, hc => by
    obtain ⟨k, hk⟩ := wr_ok ha h c (by omega)
    by_cases hs : stt kf c = true
    · rw [wr_t hs, rk_t hs]
      refine ⟨k + 1, ?_⟩
      have hl := lnt_row kf c 144
      have e : n + 5 * ((rk kf c + 1 : Nat) : Int) = n + 5 * (rk kf c : Int) + 5 := by omega
      rw [e]
      generalize n + 5 * (rk kf c : Int) = b at hk ⊢
      have e1 : p5 (wr kf pr n c) b ((c % 12 : Nat) : Int) ((c / 12 : Nat) : Int) (kf c) (lnt kf c 144 : Int) (b + 1) = ((c % 12 : Nat) : Int) := by
        unfold p5
        rw [iset_n _ _ (by omega), iset_n _ _ (by omega), iset_n _ _ (by omega), iset_s]
      have e2 : p5 (wr kf pr n c) b ((c % 12 : Nat) : Int) ((c / 12 : Nat) : Int) (kf c) (lnt kf c 144 : Int) (b + 2) = ((c / 12 : Nat) : Int) := by
        unfold p5
        rw [iset_n _ _ (by omega), iset_n _ _ (by omega), show b + 2 = b + 1 + 1 by omega, iset_s]
      have e4 : p5 (wr kf pr n c) b ((c % 12 : Nat) : Int) ((c / 12 : Nat) : Int) (kf c) (lnt kf c 144 : Int) (b + 4) = (lnt kf c 144 : Int) := by
        unfold p5
        rw [show b + 4 = b + 1 + 1 + 1 + 1 by omega, iset_s]
      refine okr_201 (fun i hi => ?_) ?_ ha ?_ ?_ hk
      · unfold p5
        rw [iset_n _ _ (by omega), iset_n _ _ (by omega), iset_n _ _ (by omega), iset_n _ _ (by omega), iset_n _ _ (by omega)]
      · unfold p5
        rw [iset_n _ _ (by omega), iset_n _ _ (by omega), iset_n _ _ (by omega), iset_n _ _ (by omega), iset_s]
      · rw [e1, e4]
        omega
      · rw [e2]
        omega
    · rw [wr_f hs, rk_f hs]
      exact ⟨k, hk⟩
theorem em_ok (kfs : Nat → Nat → Int) (pr : Int → Int) : ∀ l : Nat, l ≤ 24 → ∃ k, okr (emP kfs pr l) (emN kfs l) ((l : Int) - 1) k 0 (-1)
  | 0, _ => ⟨0, rfl, rfl⟩
  | l + 1, h => by
    obtain ⟨k, hk⟩ := em_ok kfs pr l (by omega)
    have h1 : okr (iset (emP kfs pr l) (emN kfs l) 200) (emN kfs l + 1) ((l : Int) - 1 + 1) (k + 1) 0 (-1) := okr_200 (pr' := iset (emP kfs pr l) (emN kfs l) 200) (fun i hi => iset_n _ _ (by omega)) (iset_s _ _ _) ⟨by omega, by omega⟩ hk
    rw [show ((l + 1 : Nat) : Int) - 1 = (l : Int) - 1 + 1 by omega]
    exact wr_ok ⟨by omega, by omega⟩ ⟨_, h1⟩ 144 (Nat.le_refl _)
/-! the class -/
theorem m_addByte {v : Int} {s0 : s_Pr} {Q : s_Pr → Prop} (hn : 0 ≤ gPr_length s0 ∧ gPr_length s0 < 17304) (h : Q (mkPr (iset (gPr_program s0) (gPr_length s0) v) ((gPr_length s0) + 1) (gPr_beads s0) (gPr_at s0) (gPr_layer s0))) : wp_Pr_addByte v s0 Q := ⟨hn, h⟩
theorem m_addLayer {pr be : Int → Int} {n at_ ly : Int} {u : Int → Int} {kf : Nat → Int} {Q : s_Pr → Prop} (hu : RI kf 144 u) (hn : 0 ≤ n ∧ n + 721 ≤ 17304) (h : Q (mkPr (wr kf (iset pr n 200) (n + 1) 144) (n + 1 + 5 * (rk kf 144 : Int)) be at_ ly)) : wp_Pr_addLayer (rk kf 144) (mkPr pr n be at_ ly) u Q := by
  unfold wp_Pr_addLayer
  intro P9 h9
  have hle := rk_le kf 144
  have key : ∀ (k c : Nat), c + k = 144 → P9 (rk kf c) (mkPr (wr kf (iset pr n 200) (n + 1) c) (n + 1 + 5 * (rk kf c : Int)) be at_ ly) := by
    intro k
    induction k with
    | zero =>
      intro c hc
      apply h9
      have e : c = 144 := by omega
      subst e
      exact ⟨⟨by omega, by omega⟩, ⟨by omega, by omega⟩, fun _ => h, fun q => by omega⟩
    | succ k ih =>
      intro c hc
      have ih := ih (c + 1) (by omega)
      by_cases hs : stt kf c = true
      · have hlt := rk_lt (show c < 144 by omega) hs
        obtain ⟨v1, v2, v3, v4⟩ := hu c (by omega) hs
        rw [wr_t hs, rk_t hs, ← v1, ← v2, ← v3, ← v4, show n + 1 + 5 * ((rk kf c + 1 : Nat) : Int) = n + 1 + 5 * (rk kf c : Int) + 1 + 1 + 1 + 1 + 1 by omega, show ((rk kf c + 1 : Nat) : Int) = (rk kf c : Int) + 1 from rfl] at ih
        generalize hR : rk kf c = R at *
        apply h9
        refine ⟨⟨by omega, by omega⟩, ⟨by omega, by omega⟩, fun q => by omega, fun _ => ?_⟩
        refine m_addByte ⟨by show 0 ≤ n + 1 + 5 * (R : Int); omega, by show n + 1 + 5 * (R : Int) < 17304; omega⟩ ⟨⟨by omega, by omega⟩, ?_⟩
        refine m_addByte ⟨by show 0 ≤ n + 1 + 5 * (R : Int) + 1; omega, by show n + 1 + 5 * (R : Int) + 1 < 17304; omega⟩ ⟨⟨by omega, by omega⟩, ?_⟩
        refine m_addByte ⟨by show 0 ≤ n + 1 + 5 * (R : Int) + 1 + 1; omega, by show n + 1 + 5 * (R : Int) + 1 + 1 < 17304; omega⟩ ⟨⟨by omega, by omega⟩, ?_⟩
        refine m_addByte ⟨by show 0 ≤ n + 1 + 5 * (R : Int) + 1 + 1 + 1; omega, by show n + 1 + 5 * (R : Int) + 1 + 1 + 1 < 17304; omega⟩ ⟨⟨by omega, by omega⟩, ?_⟩
        refine m_addByte ⟨by show 0 ≤ n + 1 + 5 * (R : Int) + 1 + 1 + 1 + 1; omega, by show n + 1 + 5 * (R : Int) + 1 + 1 + 1 + 1 < 17304; omega⟩ ?_
        exact ih
      · rw [wr_f hs, rk_f hs] at ih
        exact ih
  refine m_addByte ⟨hn.1, by show n < 17304; omega⟩ ?_
  have h0 := key 144 0 (by omega)
  rw [rk_0, show n + 1 + 5 * ((0 : Nat) : Int) = n + 1 by omega] at h0
  exact h0
theorem m_LS_emit {sx : s_LS} {kfs : Nat → Nat → Int} {Q : Int → s_LS → Prop} (hc : 0 ≤ gSl_count (gLS_slices sx) ∧ gSl_count (gLS_slices sx) ≤ 24) (hr : ∀ l c, 0 ≤ kfs l c ∧ kfs l c < 7) (hk : ∀ l : Nat, (l : Int) < gSl_count (gLS_slices sx) → ∀ (x y : Nat), x < 12 → y < 12 → ∀ R : Int → Prop, R (kfs l (12 * y + x)) → wp_So_kindAt l x y (gLS_sorter sx) R)
    (h : ∀ u, Q (emN kfs (gSl_count (gLS_slices sx)).toNat) (mkLS (gLS_mesh sx) (gLS_mender sx) (gLS_slices sx) (gLS_sorter sx) u (mkPr (emP kfs (gPr_program (gLS_printer sx)) (gSl_count (gLS_slices sx)).toNat) (emN kfs (gSl_count (gLS_slices sx)).toNat) (icl (gPr_beads (gLS_printer sx)) 3456) 0 (-1)))) : wp_LS_emit sx Q := by
  unfold wp_LS_emit
  intro P9 h9
  have key : ∀ (k l : Nat) (u : Int → Int), (l : Int) + k = gSl_count (gLS_slices sx) → P9 l (mkLS (gLS_mesh sx) (gLS_mender sx) (gLS_slices sx) (gLS_sorter sx) u (mkPr (emP kfs (gPr_program (gLS_printer sx)) l) (emN kfs l) (icl (gPr_beads (gLS_printer sx)) 3456) 0 (-1))) := by
    intro k
    induction k with
    | zero =>
      intro l u hl
      apply h9
      have hq := h u
      have e : (gSl_count (gLS_slices sx)).toNat = l := by omega
      rw [e] at hq
      refine ⟨⟨by omega, by omega⟩, ⟨?_, ?_⟩, fun _ => hq, fun q => ?_⟩
      · show -2147483648 ≤ gSl_count (gLS_slices sx)
        omega
      · show gSl_count (gLS_slices sx) ≤ 2147483647
        omega
      · have q : (l : Int) < gSl_count (gLS_slices sx) := q
        omega
    | succ k ih =>
      intro l u hl
      apply h9
      refine ⟨⟨by omega, by omega⟩, ⟨?_, ?_⟩, fun q => ?_, fun _ => ?_⟩
      · show -2147483648 ≤ gSl_count (gLS_slices sx)
        omega
      · show gSl_count (gLS_slices sx) ≤ 2147483647
        omega
      · have q : gSl_count (gLS_slices sx) ≤ (l : Int) := q
        omega
      · have hn := emN_le kfs l
        exact m_findRuns (hk l (by omega)) (hr l) (fun u' hu' => m_addLayer hu' ⟨by omega, by omega⟩ (ih (l + 1) u' (by omega)))
  refine m_fill (by omega) ?_
  have h0 := key (gSl_count (gLS_slices sx)).toNat 0 (gLS_router sx) (by omega)
  exact h0
/-! the reference -/
theorem m_put {v : Int} {s0 : s_Mo} {Q : s_Mo → Prop} (hn : 0 ≤ gMo_bytes s0 ∧ gMo_bytes s0 < 17400) (h : Q (mkMo (gMo_thrown s0) (gMo_corners s0) (gMo_px s0) (gMo_py s0) (gMo_pz s0) (gMo_triangles s0) (gMo_named s0) (gMo_joined s0) (gMo_dropped s0) (gMo_closed s0) (gMo_layers s0) (gMo_thickness s0) (gMo_cuts s0) (gMo_cx s0) (gMo_cy s0) (gMo_cz s0) (gMo_solids s0) (gMo_shell s0) (gMo_skin s0) (gMo_period s0) (gMo_reach s0) (gMo_gap s0) (gMo_bytes s0 + 1) (gMo_played s0) (gMo_at s0) (iset (gMo_program s0) (gMo_bytes s0) v) (gMo_beads s0) (gMo_ring s0))) : wp_Mo_put v s0 Q := ⟨hn, h⟩
theorem m_Mo_emit {s0 : s_Mo} {Q : Int → s_Mo → Prop} (hk : kOk s0) (h : Q (emN (fun l => kfm s0 (l : Int)) (gMo_layers s0).toNat) (mkMo (0) (gMo_corners s0) (gMo_px s0) (gMo_py s0) (gMo_pz s0) (gMo_triangles s0) (gMo_named s0) (gMo_joined s0) (gMo_dropped s0) (gMo_closed s0) (gMo_layers s0) (gMo_thickness s0) (gMo_cuts s0) (gMo_cx s0) (gMo_cy s0) (gMo_cz s0) (gMo_solids s0) (gMo_shell s0) (gMo_skin s0) (gMo_period s0) (gMo_reach s0) (gMo_gap s0) (emN (fun l => kfm s0 (l : Int)) (gMo_layers s0).toNat) (0) (-1) (emP (fun l => kfm s0 (l : Int)) (gMo_program s0) (gMo_layers s0).toNat) (icl (gMo_beads s0) 3456) (gMo_ring s0))) : wp_Mo_emit s0 Q := by
  unfold wp_Mo_emit
  intro P16 P33 P90 h16 h33 h90
  have hly := hk.1
  generalize hkfs : (fun l : Nat => kfm s0 (l : Int)) = kfs at h
  have ek : ∀ l : Nat, kfm s0 (l : Int) = kfs l := fun l => by rw [← hkfs]
  have hr : ∀ l c, 0 ≤ kfs l c ∧ kfs l c < 7 := fun l c => by rw [← ek]; exact kfm_rg s0 l c
  have cells : ∀ l : Nat, l < 24 → ∀ (p : Int → Int) (n : Int), (0 ≤ n ∧ n + 721 ≤ 17400) → P16 ((l : Int) + 1) (mkMo (0) (gMo_corners s0) (gMo_px s0) (gMo_py s0) (gMo_pz s0) (gMo_triangles s0) (gMo_named s0) (gMo_joined s0) (gMo_dropped s0) (gMo_closed s0) (gMo_layers s0) (gMo_thickness s0) (gMo_cuts s0) (gMo_cx s0) (gMo_cy s0) (gMo_cz s0) (gMo_solids s0) (gMo_shell s0) (gMo_skin s0) (gMo_period s0) (gMo_reach s0) (gMo_gap s0) (n + 1 + 5 * (rk (kfs l) 144 : Int)) (0) (-1) (wr (kfs l) p (n + 1) 144) (icl (gMo_beads s0) 3456) (gMo_ring s0)) → ∀ (k c : Nat), c + k = 144 → P33 l c (mkMo (0) (gMo_corners s0) (gMo_px s0) (gMo_py s0) (gMo_pz s0) (gMo_triangles s0) (gMo_named s0) (gMo_joined s0) (gMo_dropped s0) (gMo_closed s0) (gMo_layers s0) (gMo_thickness s0) (gMo_cuts s0) (gMo_cx s0) (gMo_cy s0) (gMo_cz s0) (gMo_solids s0) (gMo_shell s0) (gMo_skin s0) (gMo_period s0) (gMo_reach s0) (gMo_gap s0) (n + 1 + 5 * (rk (kfs l) c : Int)) (0) (-1) (wr (kfs l) p (n + 1) c) (icl (gMo_beads s0) 3456) (gMo_ring s0)) := by
    intro l hl p n hn hx k
    induction k with
    | zero =>
      intro c hc
      apply h33
      have e : c = 144 := by omega
      subst e
      exact ⟨⟨by omega, by omega⟩, fun _ => hx, fun q => by omega⟩
    | succ k ih =>
      intro c hc
      have ih := ih (c + 1) (by omega)
      have hle := rk_le (kfs l) c
      have hrc := hr l c
      apply h33
      have hkS : ∀ (q : Int → Int) (m : Int), kOk (mkMo (0) (gMo_corners s0) (gMo_px s0) (gMo_py s0) (gMo_pz s0) (gMo_triangles s0) (gMo_named s0) (gMo_joined s0) (gMo_dropped s0) (gMo_closed s0) (gMo_layers s0) (gMo_thickness s0) (gMo_cuts s0) (gMo_cx s0) (gMo_cy s0) (gMo_cz s0) (gMo_solids s0) (gMo_shell s0) (gMo_skin s0) (gMo_period s0) (gMo_reach s0) (gMo_gap s0) (m) (0) (-1) (q) (icl (gMo_beads s0) 3456) (gMo_ring s0)) := fun q m => hk
      have hno : ¬ stt (kfs l) c = true → P33 l ((c : Int) + 1) (mkMo (0) (gMo_corners s0) (gMo_px s0) (gMo_py s0) (gMo_pz s0) (gMo_triangles s0) (gMo_named s0) (gMo_joined s0) (gMo_dropped s0) (gMo_closed s0) (gMo_layers s0) (gMo_thickness s0) (gMo_cuts s0) (gMo_cx s0) (gMo_cy s0) (gMo_cz s0) (gMo_solids s0) (gMo_shell s0) (gMo_skin s0) (gMo_period s0) (gMo_reach s0) (gMo_gap s0) (n + 1 + 5 * (rk (kfs l) c : Int)) (0) (-1) (wr (kfs l) p (n + 1) c) (icl (gMo_beads s0) 3456) (gMo_ring s0)) := by
        intro w
        rw [wr_f w, rk_f w] at ih
        exact ih
      have hyes : stt (kfs l) c = true → P90 l c (kfs l c) (mkMo (0) (gMo_corners s0) (gMo_px s0) (gMo_py s0) (gMo_pz s0) (gMo_triangles s0) (gMo_named s0) (gMo_joined s0) (gMo_dropped s0) (gMo_closed s0) (gMo_layers s0) (gMo_thickness s0) (gMo_cuts s0) (gMo_cx s0) (gMo_cy s0) (gMo_cz s0) (gMo_solids s0) (gMo_shell s0) (gMo_skin s0) (gMo_period s0) (gMo_reach s0) (gMo_gap s0) (n + 1 + 5 * (rk (kfs l) c : Int)) (0) (-1) (wr (kfs l) p (n + 1) c) (icl (gMo_beads s0) 3456) (gMo_ring s0)) := by
        intro w
        rw [wr_t w, rk_t w, show n + 1 + 5 * ((rk (kfs l) c + 1 : Nat) : Int) = n + 1 + 5 * (rk (kfs l) c : Int) + 1 + 1 + 1 + 1 + 1 by omega] at ih
        generalize rk (kfs l) c = R at *
        apply h90
        refine m_put ⟨by show 0 ≤ n + 1 + 5 * (R : Int); omega, by show n + 1 + 5 * (R : Int) < 17400; omega⟩ ⟨⟨by omega, by omega⟩, ?_⟩
        rw [tm12, td12]
        refine m_put ⟨by show 0 ≤ n + 1 + 5 * (R : Int) + 1; omega, by show n + 1 + 5 * (R : Int) + 1 < 17400; omega⟩ ?_
        refine m_put ⟨by show 0 ≤ n + 1 + 5 * (R : Int) + 1 + 1; omega, by show n + 1 + 5 * (R : Int) + 1 + 1 < 17400; omega⟩ ?_
        refine m_put ⟨by show 0 ≤ n + 1 + 5 * (R : Int) + 1 + 1 + 1; omega, by show n + 1 + 5 * (R : Int) + 1 + 1 + 1 < 17400; omega⟩ ?_
        refine m_longAt (hkS _ _) ⟨by omega, by omega⟩ (by omega) ?_
        have e9 : ∀ (q : Int → Int) (m : Int), lnt (kfm (mkMo (0) (gMo_corners s0) (gMo_px s0) (gMo_py s0) (gMo_pz s0) (gMo_triangles s0) (gMo_named s0) (gMo_joined s0) (gMo_dropped s0) (gMo_closed s0) (gMo_layers s0) (gMo_thickness s0) (gMo_cuts s0) (gMo_cx s0) (gMo_cy s0) (gMo_cz s0) (gMo_solids s0) (gMo_shell s0) (gMo_skin s0) (gMo_period s0) (gMo_reach s0) (gMo_gap s0) (m) (0) (-1) (q) (icl (gMo_beads s0) 3456) (gMo_ring s0)) (l : Int)) c 144 = lnt (kfs l) c 144 := fun q m => by
          rw [← ek]
          rfl
        refine m_put ⟨by show 0 ≤ n + 1 + 5 * (R : Int) + 1 + 1 + 1 + 1; omega, by show n + 1 + 5 * (R : Int) + 1 + 1 + 1 + 1 < 17400; omega⟩ ?_
        rw [← e9 (iset (iset (iset (iset (wr (kfs l) p (n + 1) c) (n + 1 + 5 * (R : Int)) 201) (n + 1 + 5 * (R : Int) + 1) ((c % 12 : Nat) : Int)) (n + 1 + 5 * (R : Int) + 1 + 1) ((c / 12 : Nat) : Int)) (n + 1 + 5 * (R : Int) + 1 + 1 + 1) (kfs l c)) (n + 1 + 5 * (R : Int) + 1 + 1 + 1 + 1)] at ih
        exact ih
      refine ⟨⟨by omega, by omega⟩, fun q => by omega, fun _ => ?_⟩
      refine m_kc (hkS _ _) ⟨by omega, by omega⟩ (by omega) ?_
      have e8 : ∀ c', kfm (mkMo (0) (gMo_corners s0) (gMo_px s0) (gMo_py s0) (gMo_pz s0) (gMo_triangles s0) (gMo_named s0) (gMo_joined s0) (gMo_dropped s0) (gMo_closed s0) (gMo_layers s0) (gMo_thickness s0) (gMo_cuts s0) (gMo_cx s0) (gMo_cy s0) (gMo_cz s0) (gMo_solids s0) (gMo_shell s0) (gMo_skin s0) (gMo_period s0) (gMo_reach s0) (gMo_gap s0) (n + 1 + 5 * (rk (kfs l) c : Int)) (0) (-1) (wr (kfs l) p (n + 1) c) (icl (gMo_beads s0) 3456) (gMo_ring s0)) (l : Int) c' = kfs l c' := fun c' => by
        rw [← ek]
        rfl
      rw [e8]
      refine m_isLaid hrc (fun hL => ⟨by decide, fun q => absurd q (by decide), fun _ => ?_⟩) (fun hL => ⟨by decide, fun _ => hno (fun w => hL (stt_iff.mp w).1), fun q => absurd rfl q⟩)
      refine ⟨tmod_rg _ _ (by omega), fun q => hyes (stt_iff.mpr ⟨hL, fun w => ?_⟩), fun q => ?_⟩
      · rw [tm12] at q
        omega
      · rw [tm12] at q
        have q : 0 < c % 12 := by omega
        refine m_kb (hkS _ _) ⟨by omega, by omega⟩ (by omega) q ?_
        rw [e8]
        have hrb := hr l (c - 1)
        exact ⟨⟨by omega, by omega⟩, ⟨by omega, by omega⟩, fun w => hyes (stt_iff.mpr ⟨hL, fun z => w z.2⟩), fun w => hno (fun z => (stt_iff.mp z).2 ⟨q, w⟩)⟩
  have key : ∀ (k l : Nat), (l : Int) + k = gMo_layers s0 → P16 l (mkMo (0) (gMo_corners s0) (gMo_px s0) (gMo_py s0) (gMo_pz s0) (gMo_triangles s0) (gMo_named s0) (gMo_joined s0) (gMo_dropped s0) (gMo_closed s0) (gMo_layers s0) (gMo_thickness s0) (gMo_cuts s0) (gMo_cx s0) (gMo_cy s0) (gMo_cz s0) (gMo_solids s0) (gMo_shell s0) (gMo_skin s0) (gMo_period s0) (gMo_reach s0) (gMo_gap s0) (emN kfs l) (0) (-1) (emP kfs (gMo_program s0) l) (icl (gMo_beads s0) 3456) (gMo_ring s0)) := by
    intro k
    induction k with
    | zero =>
      intro l hl
      apply h16
      have e : (gMo_layers s0).toNat = l := by omega
      rw [e] at h
      refine ⟨⟨by omega, by omega⟩, ⟨?_, ?_⟩, fun _ => h, fun q => ?_⟩
      · show -2147483648 ≤ gMo_layers s0
        omega
      · show gMo_layers s0 ≤ 2147483647
        omega
      · have q : (l : Int) < gMo_layers s0 := q
        omega
    | succ k ih =>
      intro l hl
      apply h16
      have hn := emN_le kfs l
      refine ⟨⟨by omega, by omega⟩, ⟨?_, ?_⟩, fun q => ?_, fun _ => ?_⟩
      · show -2147483648 ≤ gMo_layers s0
        omega
      · show gMo_layers s0 ≤ 2147483647
        omega
      · have q : gMo_layers s0 ≤ (l : Int) := q
        omega
      · refine m_put ⟨by show 0 ≤ emN kfs l; omega, by show emN kfs l < 17400; omega⟩ ?_
        have h0 := cells l (by omega) (iset (emP kfs (gMo_program s0) l) (emN kfs l) 200) (emN kfs l) ⟨by omega, by omega⟩ (ih (l + 1) (by omega)) 144 0 (by omega)
        rw [rk_0, show emN kfs l + 1 + 5 * ((0 : Nat) : Int) = emN kfs l + 1 by omega] at h0
        exact h0
  refine m_Mo_clear ?_
  have h0 := key (gMo_layers s0).toNat 0 (by omega)
  exact h0
theorem t_emit {sx : s_LS} {sm : s_Mo} (hi : Inv sx sm) : wp_LS_emit sx (fun r1 u2 => wp_Mo_emit sm (fun r3 u4 => r1 = r3 ∧ Inv u2 u4)) := by
  have hk := kOk_of hi
  have h3 := hi.2.2.1
  have ec : gSl_count (gLS_slices sx) = gMo_layers sm := h3.1
  have hly := h3.2.2.1
  have hp : gLS_printer sx = mkPr (gMo_program sm) (gMo_bytes sm) (gMo_beads sm) (gMo_played sm) (gMo_at sm) := hi.2.2.2.2.1
  have hn := emN_le (fun l => kfm sm (l : Int)) (gMo_layers sm).toNat
  refine m_LS_emit (kfs := fun l => kfm sm (l : Int)) (by rw [ec]; exact hly) (fun l c => kfm_rg sm l c) (fun l hl => ki_of hi ⟨by omega, by rw [← ec]; exact hl⟩) (fun u => ?_)
  rw [ec, hp]
  obtain ⟨k, ho⟩ := em_ok (fun l => kfm sm (l : Int)) (gMo_program sm) (gMo_layers sm).toNat (by omega)
  refine m_Mo_emit hk ⟨rfl, hi.1, hi.2.1, hi.2.2.1, hi.2.2.2.1, ⟨rfl, ⟨Int.le_refl _, hn.1, ?_⟩, k, okr_okp ho⟩⟩
  show emN (fun l => kfm sm (l : Int)) (gMo_layers sm).toNat ≤ 17304
  omega
