/-! ===== MEANING 27: cells that have a cut to their left ===== -/
theorem mb {a b A B : Int} (ha : -A ≤ a ∧ a ≤ A) (hb : -B ≤ b ∧ b ≤ B) : -(A * B) ≤ a * b ∧ a * b ≤ A * B := by
  have h : (a * b).natAbs ≤ A.toNat * B.toNat := by
    rw [Int.natAbs_mul]
    exact Nat.mul_le_mul (by omega) (by omega)
  have h2 : ((A.toNat * B.toNat : Nat) : Int) = A * B := by
    rw [Int.natCast_mul, Int.toNat_of_nonneg (by omega), Int.toNat_of_nonneg (by omega)]
  omega
def EnB (en : Int → Int) : Prop := (0 < en 0 ∧ en 0 ≤ 240) ∧ (0 ≤ en 1 ∧ en 1 ≤ 120 * en 0) ∧ (0 ≤ en 2 ∧ en 2 ≤ 120 * en 0) ∧ (0 < en 3 ∧ en 3 ≤ 240) ∧ (0 ≤ en 4 ∧ en 4 ≤ 120 * en 3) ∧ (0 ≤ en 5 ∧ en 5 ≤ 120 * en 3)
/-- the cell has the cut to its left -/
def lf6 (d ax ay g bx cy x y : Int) : Bool :=
  if 0 < 2 * ay - (20 * y + 9) * d then (if 0 < 2 * cy - (20 * y + 9) * g then false else decide (2 * (bx * (2 * ay - (20 * y + 9) * d) + ax * (-(2 * cy - (20 * y + 9) * g))) < (g * (2 * ay - (20 * y + 9) * d) + d * (-(2 * cy - (20 * y + 9) * g))) * (20 * x + 9)))
  else (if 0 < 2 * cy - (20 * y + 9) * g then decide (2 * (ax * (2 * cy - (20 * y + 9) * g) + bx * (-(2 * ay - (20 * y + 9) * d))) < (d * (2 * cy - (20 * y + 9) * g) + g * (-(2 * ay - (20 * y + 9) * d))) * (20 * x + 9)) else false)
def lft (en : Int → Int) (x y : Int) : Bool := lf6 (en 0) (en 1) (en 2) (en 3) (en 4) (en 5) x y
theorem m_rline {lo hi dn up : Int} {s0 : s_Sl} {g d bx ax : Int} {Q : Int → Prop} (hlo : 0 ≤ lo ∧ lo + 1 < 6) (hhi : 0 ≤ hi ∧ hi + 1 < 6) (e1 : gSl_ends s0 lo = g) (e2 : gSl_ends s0 hi = d) (e3 : gSl_ends s0 (lo + 1) = bx) (e4 : gSl_ends s0 (hi + 1) = ax) (hg : 0 < g ∧ g ≤ 240) (hd : 0 < d ∧ d ≤ 240) (hb : 0 ≤ bx ∧ bx ≤ 120 * g) (ha : 0 ≤ ax ∧ ax ≤ 120 * d) (hu : 0 < up ∧ up ≤ 200000) (hn : 0 ≤ dn ∧ dn ≤ 200000)
    (h : ∀ r : Int, row r → (∀ x : Nat, x < 12 → bt r x = decide (2 * (bx * up + ax * dn) < (g * up + d * dn) * (20 * (x : Int) + 9))) → Q r) : wp_Sl_cellsRightOfLine lo hi dn up s0 Q := by
  unfold wp_Sl_cellsRightOfLine
  rw [e1, e2, e3, e4]
  have m1 := mb (a := g) (b := up) (A := 240) (B := 200000) ⟨by omega, by omega⟩ ⟨by omega, by omega⟩
  have m2 := mb (a := d) (b := dn) (A := 240) (B := 200000) ⟨by omega, by omega⟩ ⟨by omega, by omega⟩
  have m3 := mb (a := bx) (b := up) (A := 28800) (B := 200000) ⟨by omega, by omega⟩ ⟨by omega, by omega⟩
  have m4 := mb (a := ax) (b := dn) (A := 28800) (B := 200000) ⟨by omega, by omega⟩ ⟨by omega, by omega⟩
  have p1 : 0 < g * up := Int.mul_pos hg.1 hu.1
  have p2 : 0 ≤ d * dn := Int.mul_nonneg (by omega) hn.1
  have p3 : 0 ≤ bx * up := Int.mul_nonneg hb.1 (by omega)
  have p4 : 0 ≤ ax * dn := Int.mul_nonneg ha.1 hn.1
  have p5 : bx * up ≤ 120 * (g * up) := by
    rw [← Int.mul_assoc]
    exact Int.mul_le_mul_of_nonneg_right hb.2 (by omega)
  have p6 : ax * dn ≤ 120 * (d * dn) := by
    rw [← Int.mul_assoc]
    exact Int.mul_le_mul_of_nonneg_right ha.2 (by omega)
  have hS : 0 ≤ bx * up + ax * dn := by omega
  have hW : 0 < g * up + d * dn := by omega
  have hF := first_in hS hW (by omega)
  have hc := fun x => first_cell (x := x) hS hW
  generalize hw : g * up + d * dn = W at *
  generalize hs : bx * up + ax * dn = S at *
  generalize hq : Int.tdiv (2 * S + 11 * W) (20 * W) = F at *
  refine ⟨⟨by omega, by omega⟩, ⟨by omega, by omega⟩, ⟨by omega, by omega⟩, ⟨by omega, by omega⟩, ⟨by omega, by omega⟩, ⟨by omega, by omega⟩, ⟨by omega, by omega⟩, ⟨by omega, by omega⟩, ⟨by omega, by omega⟩, fun _ => ⟨⟨by omega, by omega⟩, ⟨by omega, by omega⟩, by omega, ⟨by omega, by omega⟩, ?_⟩, fun q => ?_⟩
  · refine h _ (right_row _) (fun x hx => ?_)
    rw [right_bit _ hx]
    have := hc x
    apply decide_eq_decide.mpr
    omega
  · rw [cmpZ_le] at q
    omega
theorem m_rcut {y : Int} {s0 : s_Sl} {Q : Int → Prop} (hy : 0 ≤ y ∧ y < 12) (hb : EnB (gSl_ends s0)) (h : ∀ r : Int, row r → (∀ x : Nat, x < 12 → bt r x = lft (gSl_ends s0) x y) → Q r) : wp_Sl_cellsRightOfCut y s0 Q := by
  obtain ⟨b0, b1, b2, b3, b4, b5⟩ := hb
  unfold wp_Sl_cellsRightOfCut wp_Sl_doubleCentre
  intro P61 h61
  unfold lft lf6 at h
  have n1 := mb (a := 20 * y + 9) (b := gSl_ends s0 0) (A := 229) (B := 240) ⟨by omega, by omega⟩ ⟨by omega, by omega⟩
  have n2 := mb (a := 20 * y + 9) (b := gSl_ends s0 3) (A := 229) (B := 240) ⟨by omega, by omega⟩ ⟨by omega, by omega⟩
  have f1 : -200000 ≤ 2 * gSl_ends s0 2 - (20 * y + 9) * gSl_ends s0 0 ∧ 2 * gSl_ends s0 2 - (20 * y + 9) * gSl_ends s0 0 ≤ 200000 := ⟨by omega, by omega⟩
  have f2 : -200000 ≤ 2 * gSl_ends s0 5 - (20 * y + 9) * gSl_ends s0 3 ∧ 2 * gSl_ends s0 5 - (20 * y + 9) * gSl_ends s0 3 ≤ 200000 := ⟨by omega, by omega⟩
  generalize 2 * gSl_ends s0 2 - (20 * y + 9) * gSl_ends s0 0 = F at *
  generalize 2 * gSl_ends s0 5 - (20 * y + 9) * gSl_ends s0 3 = S at *
  refine ⟨⟨by omega, by omega⟩, fun q1 => ⟨⟨by omega, by omega⟩, fun q2 => ?_, fun q2 => ?_⟩, fun q1 => ⟨⟨by omega, by omega⟩, fun q2 => ?_, fun q2 => ?_⟩⟩
  · apply h61
    refine ⟨by decide, by decide, fun q => absurd rfl q, fun _ => h 0 row_0 (fun x hx => ?_)⟩
    rw [bt_z, if_neg (by omega), if_neg (by omega)]
  · apply h61
    refine ⟨by decide, by decide, fun _ => ⟨⟨by omega, by omega⟩, fun _ => ⟨⟨by omega, by omega⟩, ⟨by omega, by omega⟩, ?_⟩, fun q => by omega⟩, fun q => absurd q (by decide)⟩
    refine m_rline (by decide) (by decide) rfl rfl rfl rfl b0 b3 b1 b4 ⟨by omega, by omega⟩ ⟨by omega, by omega⟩ (fun r hr hx => h r hr (fun x x12 => ?_))
    rw [if_neg (by omega), if_pos q2, hx x x12]
    rfl
  · apply h61
    refine ⟨by decide, by decide, fun _ => ⟨⟨by omega, by omega⟩, fun q => by omega, fun _ => ⟨⟨by omega, by omega⟩, ?_⟩⟩, fun q => absurd q (by decide)⟩
    refine m_rline (by decide) (by decide) rfl rfl rfl rfl b3 b0 b4 b1 ⟨by omega, by omega⟩ ⟨by omega, by omega⟩ (fun r hr hx => h r hr (fun x x12 => ?_))
    rw [if_pos q1, if_neg (by omega), hx x x12]
    rfl
  · apply h61
    refine ⟨by decide, by decide, fun q => absurd rfl q, fun _ => h 0 row_0 (fun x hx => ?_)⟩
    rw [bt_z, if_pos q1, if_pos q2]
/-! the reference -/
def enM (X Y Z : Int → Int) (H : Int) : Int → Int := fun i => if i < 3 then enR X Y Z H (e0_ Z H) i else enR X Y Z H (e1_ Z H) (i - 3)
theorem enM_6 (X Y Z : Int → Int) (H : Int) : En6 (enM X Y Z H) X Y Z H := ⟨⟨rfl, rfl, rfl⟩, rfl, rfl, rfl⟩
theorem lft_en {en X Y Z : Int → Int} {H : Int} (h : En6 en X Y Z H) (x y : Int) : lft en x y = lft (enM X Y Z H) x y := by
  obtain ⟨⟨h0, h1, h2⟩, h3, h4, h5⟩ := h
  unfold lft
  rw [h0, h1, h2, h3, h4, h5]
  rfl
theorem lf_area {d ax ay g bx cy x y : Int} (hd : 0 < d) : lf6 d ax ay g bx cy x y = (if 0 < 2 * ay - (20 * y + 9) * d then (if 0 < 2 * cy - (20 * y + 9) * g then false else decide (0 < (bx * d - ax * g) * ((20 * y + 9) * d - 2 * ay) - (cy * d - ay * g) * ((20 * x + 9) * d - 2 * ax))) else (if 0 < 2 * cy - (20 * y + 9) * g then decide ((bx * d - ax * g) * ((20 * y + 9) * d - 2 * ay) - (cy * d - ay * g) * ((20 * x + 9) * d - 2 * ax) < 0) else false)) := by
  have hg := geo_area ax ay bx cy d g (20 * y + 9) (20 * x + 9)
  have hp := pos_mul hd hg
  have hn := neg_mul hd hg
  unfold lf6
  generalize hF : 2 * ay - (20 * y + 9) * d = F at *
  generalize hS : 2 * cy - (20 * y + 9) * g = S at *
  generalize (bx * d - ax * g) * ((20 * y + 9) * d - 2 * ay) - (cy * d - ay * g) * ((20 * x + 9) * d - 2 * ax) = A at *
  generalize 20 * x + 9 = c at *
  by_cases q1 : 0 < F
  · rw [if_pos q1, if_pos q1]
    by_cases q2 : 0 < S
    · rw [if_pos q2, if_pos q2]
    · rw [if_neg q2, if_neg q2]
      apply decide_eq_decide.mpr
      rw [hp, show g * F + d * -S = g * F - d * S by rw [Int.mul_neg]; omega, show bx * F + ax * -S = bx * F - ax * S by rw [Int.mul_neg]; omega]
      omega
  · rw [if_neg q1, if_neg q1]
    by_cases q2 : 0 < S
    · rw [if_pos q2, if_pos q2]
      apply decide_eq_decide.mpr
      rw [hn, show d * S + g * -F = -(g * F - d * S) by rw [Int.mul_neg]; omega, show ax * S + bx * -F = -(bx * F - ax * S) by rw [Int.mul_neg]; omega, Int.neg_mul]
      omega
    · rw [if_neg q2, if_neg q2]
theorem m_isLeft {s0 : s_Mo} {l t x y : Int} {X Y Z : Int → Int} {H : Int} (hT : TrM s0 l t X Y Z H) (hC : isC Z H = true) (hx : 0 ≤ x ∧ x < 12) (hy : 0 ≤ y ∧ y < 12) {Q : Int → Prop} (h : Q (b01 (lft (enM X Y Z H) x y))) : wp_Mo_isLeft l t x y s0 Q := by
  have hB : EnB (enM X Y Z H) := by
    obtain ⟨-, -, -, ho, hh⟩ := hT
    exact en_in (enM_6 X Y Z H) ho (fun i i1 i2 => (hh i i1 i2).2.2.2) hC
  have g0 : ∀ R : Int → Prop, R (enM X Y Z H 0) → wp_Mo_end l t 0 0 s0 R := fun R q => m_end hT hC (Or.inl rfl) (by decide) q
  have g1 : ∀ R : Int → Prop, R (enM X Y Z H 1) → wp_Mo_end l t 0 1 s0 R := fun R q => m_end hT hC (Or.inl rfl) (by decide) q
  have g2 : ∀ R : Int → Prop, R (enM X Y Z H 2) → wp_Mo_end l t 0 2 s0 R := fun R q => m_end hT hC (Or.inl rfl) (by decide) q
  have g3 : ∀ R : Int → Prop, R (enM X Y Z H 3) → wp_Mo_end l t 1 0 s0 R := fun R q => m_end hT hC (Or.inr rfl) (by decide) q
  have g4 : ∀ R : Int → Prop, R (enM X Y Z H 4) → wp_Mo_end l t 1 1 s0 R := fun R q => m_end hT hC (Or.inr rfl) (by decide) q
  have g5 : ∀ R : Int → Prop, R (enM X Y Z H 5) → wp_Mo_end l t 1 2 s0 R := fun R q => m_end hT hC (Or.inr rfl) (by decide) q
  unfold lft at h
  obtain ⟨b0, b1, b2, b3, b4, b5⟩ := hB
  generalize enM X Y Z H 0 = d at *
  generalize enM X Y Z H 1 = ax at *
  generalize enM X Y Z H 2 = ay at *
  generalize enM X Y Z H 3 = g at *
  generalize enM X Y Z H 4 = bx at *
  generalize enM X Y Z H 5 = cy at *
  rw [lf_area b0.1] at h
  have n1 := mb (a := 20 * y + 9) (b := d) (A := 229) (B := 240) ⟨by omega, by omega⟩ ⟨by omega, by omega⟩
  have n2 := mb (a := 20 * y + 9) (b := g) (A := 229) (B := 240) ⟨by omega, by omega⟩ ⟨by omega, by omega⟩
  have n3 := mb (a := 20 * x + 9) (b := d) (A := 229) (B := 240) ⟨by omega, by omega⟩ ⟨by omega, by omega⟩
  have n4 := mb (a := bx) (b := d) (A := 28800) (B := 240) ⟨by omega, by omega⟩ ⟨by omega, by omega⟩
  have n5 := mb (a := ax) (b := g) (A := 28800) (B := 240) ⟨by omega, by omega⟩ ⟨by omega, by omega⟩
  have n6 := mb (a := cy) (b := d) (A := 28800) (B := 240) ⟨by omega, by omega⟩ ⟨by omega, by omega⟩
  have n7 := mb (a := ay) (b := g) (A := 28800) (B := 240) ⟨by omega, by omega⟩ ⟨by omega, by omega⟩
  have n8 := mb (a := bx * d - ax * g) (b := (20 * y + 9) * d - 2 * ay) (A := 13824000) (B := 200000) ⟨by omega, by omega⟩ ⟨by omega, by omega⟩
  have n9 := mb (a := cy * d - ay * g) (b := (20 * x + 9) * d - 2 * ax) (A := 13824000) (B := 200000) ⟨by omega, by omega⟩ ⟨by omega, by omega⟩
  unfold wp_Mo_isLeft
  intro P133 h133
  refine g0 _ ⟨⟨by omega, by omega⟩, g1 _ ⟨⟨by omega, by omega⟩, g2 _ ⟨⟨by omega, by omega⟩, g3 _ ⟨⟨by omega, by omega⟩, g4 _ ⟨⟨by omega, by omega⟩, g5 _ ⟨⟨by omega, by omega⟩, ⟨by omega, by omega⟩, ⟨by omega, by omega⟩, ?_⟩⟩⟩⟩⟩⟩
  clear g0 g1 g2 g3 g4 g5
  simp only [cmpZ_le, cmpZ_lt, cmpZ_ge, cmpZ_gt] at h133 ⊢
  generalize hA : (bx * d - ax * g) * ((20 * y + 9) * d - 2 * ay) - (cy * d - ay * g) * ((20 * x + 9) * d - 2 * ax) = A at h
  have rA : rgl A := ⟨by omega, by omega⟩
  refine ⟨⟨by omega, by omega⟩, ⟨by omega, by omega⟩, fun q1 => ⟨⟨by omega, by omega⟩, ⟨by omega, by omega⟩, fun q2 => ?_, fun q2 => ?_⟩, fun q1 => ⟨⟨by omega, by omega⟩, ⟨by omega, by omega⟩, fun q2 => ?_, fun q2 => ?_⟩⟩
  · apply h133
    rw [if_pos (by omega), if_pos (by omega)] at h
    exact ⟨by decide, by decide, fun q => absurd rfl q, fun _ => h⟩
  · apply h133
    rw [hA]
    rw [if_pos (by omega), if_neg (by omega)] at h
    refine ⟨by decide, by decide, fun _ => ⟨fun _ => ⟨rA, fun q => ?_, fun q => ?_⟩, fun q => absurd rfl q⟩, fun q => absurd q (by decide)⟩
    · rw [decide_eq_false (by omega)] at h
      exact h
    · rw [decide_eq_true q] at h
      exact h
  · apply h133
    rw [hA]
    rw [if_neg (by omega), if_pos (by omega)] at h
    refine ⟨by decide, by decide, fun _ => ⟨fun q => absurd q (by decide), fun _ => ⟨rA, fun q => ?_, fun q => ?_⟩⟩, fun q => absurd q (by decide)⟩
    · rw [decide_eq_false (by omega)] at h
      exact h
    · rw [decide_eq_true q] at h
      exact h
  · apply h133
    rw [if_neg (by omega), if_neg (by omega)] at h
    exact ⟨by decide, by decide, fun q => absurd rfl q, fun _ => h⟩
