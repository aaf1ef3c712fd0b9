/-! ===== MEANING 15: the class's rows of cells ===== -/
/-- the rows of the layers hold the cells so -/
def SlOk (s : s_Sl) (so : Int → Int → Int → Bool) : Prop :=
  (0 ≤ gSl_count s ∧ gSl_count s ≤ 24) ∧ (∀ l x y : Int, ¬ (0 ≤ l ∧ l < gSl_count s ∧ 0 ≤ x ∧ x < 12 ∧ 0 ≤ y ∧ y < 12) → so l x y = false) ∧
  (∀ l y : Int, 0 ≤ l → l < gSl_count s → 0 ≤ y → y < 12 → row (gSl_solidRows s (l * 12 + y)) ∧ ∀ x : Nat, x < 12 → bt (gSl_solidRows s (l * 12 + y)) x = so l x y)
theorem m_solidRow {l y : Int} {s0 : s_Sl} {so : Int → Int → Int → Bool} {Q : Int → Prop} (hs : SlOk s0 so) (rl : rg l) (ry : rg y) (h : ∀ r : Int, row r → (∀ x : Nat, bt r x = so l x y) → Q r) : wp_Sl_solidRow l y s0 Q := by
  obtain ⟨hc, ho, hr⟩ := hs
  unfold wp_Sl_solidRow wp_Sl_hasRow wp_Sl_hasLayer
  by_cases hg : 0 ≤ l ∧ l < gSl_count s0 ∧ 0 ≤ y ∧ y < 12
  · obtain ⟨g1, g2, g3, g4⟩ := hg
    obtain ⟨h1, h2⟩ := hr l y g1 g2 g3 g4
    have hq := h _ h1 (fun x => by
      by_cases hx : x < 12
      · exact h2 x hx
      · rw [row_hi h1 (by omega), ho l x y (by omega)])
    clear h hr ho
    repeat' first | (exact hq) | (intro _) | (refine And.intro ?_ ?_) | omega | (exfalso; omega)
  · have hq := h 0 row_0 (fun x => by rw [bt_z, ho l x y (by omega)])
    clear h hr ho
    repeat' first | (exact hq) | (intro _) | (refine And.intro ?_ ?_) | omega | (exfalso; omega)
theorem m_among {l y d : Int} {s0 : s_Sl} {so : Int → Int → Int → Bool} {Q : Int → Prop} (hs : SlOk s0 so) (hl : sm3 l) (hy : sm3 y) (hd : 0 ≤ d ∧ d ≤ 3) (h : ∀ r : Int, row r → (∀ x : Nat, x < 12 → (bt r x = true ↔ ∀ i j : Int, x - d ≤ i → i ≤ x + d → y - d ≤ j → j ≤ y + d → so l i j = true)) → Q r) : wp_Sl_rowAmongSolid l y d s0 Q := by
  obtain ⟨n, rfl⟩ := Int.eq_ofNat_of_zero_le hd.1
  unfold wp_Sl_rowAmongSolid
  intro P9 P29 h9 h29
  have inner : ∀ (v5 v6 : Int), sm3 v5 → row v6 → (∀ x : Nat, bt v6 x = so l x (y + v5)) → ∀ (k s : Nat) (v4 : Int), s + k = n + 1 → row v4 → (∀ v4' : Int, row v4' → (∀ x : Nat, x < 12 → (bt v4' x = true ↔ bt v4 x = true ∧ ∀ i : Int, x - n ≤ i → i ≤ x + n → ((i ≤ x - s ∨ x + s ≤ i) → so l i (y + v5) = true))) → P9 v4' (v5 + 1)) → P29 v4 v5 v6 s := by
    intro v5 v6 hv5 h6 hb k
    induction k with
    | zero =>
      intro s v4 hsk h4 hn
      apply h29
      have e : s = n + 1 := by omega
      subst e
      exact ⟨⟨by omega, by omega⟩, ⟨by omega, by omega⟩, fun _ => hn v4 h4 (fun x hx => ⟨fun q => ⟨q, fun i i1 i2 i3 => by omega⟩, fun q => q.1⟩), fun q => by omega⟩
    | succ k ih =>
      intro s v4 hsk h4 hn
      apply h29
      refine ⟨⟨by omega, by omega⟩, ⟨by omega, by omega⟩, fun q => by omega, fun _ => ⟨⟨by omega, by omega⟩, row_rg h6, ⟨by omega, by omega⟩, ?_⟩⟩
      refine ih (s + 1) _ (by omega) (row_and h4) (fun v4' h4' hx4 => hn v4' h4' (fun x hx => ?_))
      rw [hx4 x hx, bt_and, bt_and, Int.toNat_natCast, bt_shr h6.1 (by omega) s (by omega), bt_shl h6.1 s (by omega), Bool.and_eq_true, Bool.and_eq_true, Bool.and_eq_true, decide_eq_true_eq, hb, hb]
      constructor
      · rintro ⟨⟨q1, q2, q3, q4⟩, q5⟩
        refine ⟨q1, fun i i1 i2 i3 => ?_⟩
        by_cases e1 : i = x - s
        · rw [e1, show ((x : Int) - s) = ((x - s : Nat) : Int) by omega]
          exact q4
        · by_cases e2 : i = x + s
          · rw [e2, show ((x : Int) + s) = ((x + s : Nat) : Int) by omega]
            exact q2
          · exact q5 i i1 i2 (by omega)
      · rintro ⟨q1, q2⟩
        have a1 := q2 (x + s) (by omega) (by omega) (by omega)
        have a2 := q2 (x - s) (by omega) (by omega) (by omega)
        have hsx : s ≤ x := by
          rcases Nat.lt_or_ge x s with z | z
          · rw [hs.2.1 l (x - s) (y + v5) (by omega)] at a2
            cases a2
          · exact z
        refine ⟨⟨q1, ?_, hsx, ?_⟩, fun i i1 i2 i3 => q2 i i1 i2 (by omega)⟩
        · rw [show ((x + s : Nat) : Int) = (x : Int) + s by omega]
          exact a1
        · rw [show ((x - s : Nat) : Int) = (x : Int) - s by omega]
          exact a2
  have outer : ∀ (k : Nat) (v4 v5 : Int), v5 + k = n + 1 → -(n : Int) ≤ v5 → row v4 → (∀ x : Nat, x < 12 → (bt v4 x = true ↔ ∀ i j : Int, x - n ≤ i → i ≤ x + n → y - n ≤ j → j < y + v5 → so l i j = true)) → P9 v4 v5 := by
    intro k
    induction k with
    | zero =>
      intro v4 v5 hk h0 h4 hb
      apply h9
      refine ⟨⟨by omega, by omega⟩, ⟨by omega, by omega⟩, fun _ => h v4 h4 (fun x hx => ?_), fun q => by omega⟩
      rw [hb x hx]
      exact ⟨fun q i j i1 i2 j1 j2 => q i j i1 i2 j1 (by omega), fun q i j i1 i2 j1 j2 => q i j i1 i2 j1 (by omega)⟩
    | succ k ih =>
      intro v4 v5 hk h0 h4 hb
      apply h9
      refine ⟨⟨by omega, by omega⟩, ⟨by omega, by omega⟩, fun q => by omega, fun _ => ?_⟩
      refine m_solidRow hs ⟨by omega, by omega⟩ ⟨by omega, by omega⟩ (fun r hr hbr => ?_)
      refine inner v5 r ⟨by omega, by omega⟩ hr hbr (n + 1) 0 v4 (by omega) h4 (fun v4' h4' hx4 => ih v4' (v5 + 1) (by omega) (by omega) h4' (fun x hx => ?_))
      rw [hx4 x hx, hb x hx]
      constructor
      · rintro ⟨q1, q2⟩ i j i1 i2 j1 j2
        by_cases e : j = y + v5
        · subst e
          exact q2 i i1 i2 (by omega)
        · exact q1 i j i1 i2 j1 (by omega)
      · intro q
        exact ⟨fun i j i1 i2 j1 j2 => q i j i1 i2 j1 (by omega), fun i i1 i2 _ => q i (y + v5) i1 i2 (by omega) (by omega)⟩
  refine outer (2 * n + 1) 4095 (-(n : Int)) (by omega) (by omega) row_full (fun x hx => ?_)
  rw [bt_full (by omega), decide_eq_true_eq]
  exact ⟨fun _ i j i1 i2 j1 j2 => by omega, fun _ => hx⟩
theorem m_near {l y d : Int} {s0 : s_Sl} {so : Int → Int → Int → Bool} {Q : Int → Prop} (hs : SlOk s0 so) (hl : sm3 l) (hy : sm3 y) (hd : 0 ≤ d ∧ d ≤ 3) (h : ∀ r : Int, row r → (∀ x : Nat, x < 12 → (bt r x = true ↔ ∃ i j : Int, x - d ≤ i ∧ i ≤ x + d ∧ y - d ≤ j ∧ j ≤ y + d ∧ so l i j = true)) → Q r) : wp_Sl_rowNearSolid l y d s0 Q := by
  obtain ⟨n, rfl⟩ := Int.eq_ofNat_of_zero_le hd.1
  unfold wp_Sl_rowNearSolid
  intro P9 P29 h9 h29
  have inner : ∀ (v5 v6 : Int), sm3 v5 → row v6 → (∀ x : Nat, bt v6 x = so l x (y + v5)) → ∀ (k s : Nat) (v4 : Int), s + k = n + 1 → (∀ v4' : Int, (∀ x : Nat, x < 12 → (bt v4' x = true ↔ bt v4 x = true ∨ ∃ i : Int, x - n ≤ i ∧ i ≤ x + n ∧ (i ≤ x - s ∨ x + s ≤ i) ∧ so l i (y + v5) = true)) → P9 v4' (v5 + 1)) → P29 v4 v5 v6 s := by
    intro v5 v6 hv5 h6 hb k
    induction k with
    | zero =>
      intro s v4 hsk hn
      apply h29
      have e : s = n + 1 := by omega
      subst e
      exact ⟨⟨by omega, by omega⟩, ⟨by omega, by omega⟩, fun _ => hn v4 (fun x hx => ⟨fun q => Or.inl q, fun q => by
        rcases q with q | ⟨i, i1, i2, i3, -⟩
        · exact q
        · omega⟩), fun q => by omega⟩
    | succ k ih =>
      intro s v4 hsk hn
      apply h29
      refine ⟨⟨by omega, by omega⟩, ⟨by omega, by omega⟩, fun q => by omega, fun _ => ⟨⟨by omega, by omega⟩, row_rg h6, ⟨by omega, by omega⟩, ?_⟩⟩
      refine ih (s + 1) _ (by omega) (fun v4' hx4 => hn v4' (fun x hx => ?_))
      rw [hx4 x hx, bt_or, bt_or, Int.toNat_natCast, bt_shr h6.1 (by omega) s (by omega), bt_shl h6.1 s (by omega), Bool.or_eq_true, Bool.or_eq_true, Bool.and_eq_true, decide_eq_true_eq, hb, hb]
      constructor
      · rintro ((q1 | q2 | ⟨q3, q4⟩) | ⟨i, i1, i2, i3, i4⟩)
        · exact Or.inl q1
        · refine Or.inr ⟨x + s, by omega, by omega, by omega, ?_⟩
          rw [show ((x : Int) + s) = ((x + s : Nat) : Int) by omega]
          exact q2
        · refine Or.inr ⟨x - s, by omega, by omega, by omega, ?_⟩
          rw [show ((x : Int) - s) = ((x - s : Nat) : Int) by omega]
          exact q4
        · exact Or.inr ⟨i, i1, i2, by omega, i4⟩
      · rintro (q | ⟨i, i1, i2, i3, i4⟩)
        · exact Or.inl (Or.inl q)
        · by_cases e1 : i = x - s
          · subst e1
            have hsx : s ≤ x := by
              rcases Nat.lt_or_ge x s with z | z
              · rw [hs.2.1 l (x - s) (y + v5) (by omega)] at i4
                cases i4
              · exact z
            refine Or.inl (Or.inr (Or.inr ⟨hsx, ?_⟩))
            rw [show ((x - s : Nat) : Int) = (x : Int) - s by omega]
            exact i4
          · by_cases e2 : i = x + s
            · subst e2
              refine Or.inl (Or.inr (Or.inl ?_))
              rw [show ((x + s : Nat) : Int) = (x : Int) + s by omega]
              exact i4
            · exact Or.inr ⟨i, i1, i2, by omega, i4⟩
  have outer : ∀ (k : Nat) (v4 v5 : Int), v5 + k = n + 1 → -(n : Int) ≤ v5 → (∀ x : Nat, x < 12 → (bt v4 x = true ↔ ∃ i j : Int, x - n ≤ i ∧ i ≤ x + n ∧ y - n ≤ j ∧ j < y + v5 ∧ so l i j = true)) → P9 v4 v5 := by
    intro k
    induction k with
    | zero =>
      intro v4 v5 hk h0 hb
      apply h9
      refine ⟨⟨by omega, by omega⟩, ⟨by omega, by omega⟩, fun _ => h _ (row_and2 row_full) (fun x hx => ?_), fun q => by omega⟩
      rw [bt_and, bt_full (by omega), decide_eq_true hx, Bool.and_true, hb x hx]
      exact ⟨fun ⟨i, j, a, b, c, e, f⟩ => ⟨i, j, a, b, c, by omega, f⟩, fun ⟨i, j, a, b, c, e, f⟩ => ⟨i, j, a, b, c, by omega, f⟩⟩
    | succ k ih =>
      intro v4 v5 hk h0 hb
      apply h9
      refine ⟨⟨by omega, by omega⟩, ⟨by omega, by omega⟩, fun q => by omega, fun _ => ?_⟩
      refine m_solidRow hs ⟨by omega, by omega⟩ ⟨by omega, by omega⟩ (fun r hr hbr => ?_)
      refine inner v5 r ⟨by omega, by omega⟩ hr hbr (n + 1) 0 v4 (by omega) (fun v4' hx4 => ih v4' (v5 + 1) (by omega) (by omega) (fun x hx => ?_))
      rw [hx4 x hx, hb x hx]
      constructor
      · rintro (⟨i, j, a, b, c, e, f⟩ | ⟨i, a, b, -, f⟩)
        · exact ⟨i, j, a, b, c, by omega, f⟩
        · exact ⟨i, y + v5, a, b, by omega, by omega, f⟩
      · rintro ⟨i, j, a, b, c, e, f⟩
        by_cases ej : j = y + v5
        · subst ej
          exact Or.inr ⟨i, a, b, by omega, f⟩
        · exact Or.inl ⟨i, j, a, b, c, by omega, f⟩
  refine outer (2 * n + 1) 0 (-(n : Int)) (by omega) (by omega) (fun x hx => ?_)
  rw [bt_z]
  exact ⟨fun q => (by cases q), fun ⟨i, j, a, b, c, e, f⟩ => by omega⟩
