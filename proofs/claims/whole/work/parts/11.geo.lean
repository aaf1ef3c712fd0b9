/-! ===== MEANING 2: where a cut meets a row of cells ===== -/
theorem geo_area (ax ay bx cy d g R col : Int) : 2 * ((bx * d - ax * g) * (R * d - 2 * ay) - (cy * d - ay * g) * (col * d - 2 * ax)) = d * ((g * (2 * ay - R * d) - d * (2 * cy - R * g)) * col - 2 * (bx * (2 * ay - R * d) - ax * (2 * cy - R * g))) := by grind
theorem pos_mul {d X A : Int} (hd : 0 < d) (h : 2 * A = d * X) : 0 < A ↔ 0 < X := by
  constructor
  · intro h2
    rcases Int.lt_or_le 0 X with q | q
    · exact q
    · have := Int.mul_le_mul_of_nonneg_left q (Int.le_of_lt hd)
      rw [Int.mul_zero] at this
      omega
  · intro h2
    have := Int.mul_pos hd h2
    omega
theorem neg_mul {d X A : Int} (hd : 0 < d) (h : 2 * A = d * X) : A < 0 ↔ X < 0 := by
  have h2 : 2 * (-A) = d * (-X) := by rw [Int.mul_neg, Int.mul_neg, h]
  have := pos_mul hd h2
  omega
/-- the first cell that has the line to its left -/
theorem first_cell {S W x : Int} (hS : 0 ≤ S) (hW : 0 < W) : Int.tdiv (2 * S + 11 * W) (20 * W) ≤ x ↔ 2 * S < W * (20 * x + 9) := by
  rw [Int.tdiv_eq_ediv_of_nonneg (by omega)]
  have h := Int.ediv_lt_iff_lt_mul (a := 2 * S + 11 * W) (b := x + 1) (c := 20 * W) (by omega)
  have e : (x + 1) * (20 * W) = W * (20 * x + 9) + 11 * W := by grind
  rw [e] at h
  constructor
  · intro q
    have := h.mp (by omega)
    omega
  · intro q
    have := h.mpr (by omega)
    omega
theorem first_in {S W : Int} (hS : 0 ≤ S) (hW : 0 < W) (hSW : S ≤ 120 * W) : 0 ≤ Int.tdiv (2 * S + 11 * W) (20 * W) ∧ Int.tdiv (2 * S + 11 * W) (20 * W) ≤ 12 := by
  refine ⟨?_, ?_⟩
  · rw [Int.tdiv_eq_ediv_of_nonneg (by omega)]
    exact Int.ediv_nonneg (by omega) (by omega)
  · rw [first_cell hS hW]
    omega
theorem right_bit (F : Nat) {x : Nat} (hx : x < 12) : bt (iand 4095 (4095 * 2 ^ F)) x = decide (F ≤ x) := by
  rw [bt_and, bt_full (by omega), bt_shl (by omega) F (by omega), bt_full (by omega)]
  simp [hx]
  omega
theorem right_row (F : Nat) : row (iand 4095 (4095 * 2 ^ F)) := row_and row_full
/-- a point of an edge: its x (or y) over the denominator lies on the lattice -/
theorem end_in {p q u r : Int} (hp : 0 ≤ p ∧ p ≤ 120) (hq : 0 ≤ q ∧ q ≤ 120) (hr : 0 ≤ r ∧ r ≤ u) : 0 ≤ p * u + (q - p) * r ∧ p * u + (q - p) * r ≤ 120 * u := by
  have e : p * u + (q - p) * r = p * (u - r) + q * r := by grind
  have h1 := Int.mul_nonneg hp.1 (show 0 ≤ u - r by omega)
  have h2 := Int.mul_nonneg hq.1 hr.1
  have h3 := Int.mul_le_mul_of_nonneg_right hp.2 (show 0 ≤ u - r by omega)
  have h4 := Int.mul_le_mul_of_nonneg_right hq.2 hr.1
  rw [e]
  refine ⟨by omega, ?_⟩
  have e2 : 120 * u = 120 * (u - r) + 120 * r := by grind
  omega
