/-! ===== MEANING 4: cells and their kinds ===== -/
theorem b01_eq0 (b : Bool) : b01 b = 0 ↔ b = false := by cases b <;> decide
theorem b01_eq1 (b : Bool) : b01 b = 1 ↔ b = true := by cases b <;> decide
theorem b01_dec (p : Prop) [Decidable p] : b01 (decide p) = if p then 1 else 0 := by
  by_cases h : p <;> simp [b01, h]
/-- how many cells up to the distance d are so -/
def cnt (so : Int → Int → Bool) (x y : Int) (d : Nat) : Int := sm (fun a => sm (fun b => b01 (so (x - d + a) (y - d + b))) (2 * d + 1)) (2 * d + 1)
theorem cnt_nn (so : Int → Int → Bool) (x y : Int) (d : Nat) : 0 ≤ cnt so x y d := sm_nn (fun a _ => sm_nn (fun b _ => (b01_le _).1))
theorem cnt_0 (so : Int → Int → Bool) (x y : Int) (d : Nat) : cnt so x y d = 0 ↔ ∀ i j : Int, x - d ≤ i → i ≤ x + d → y - d ≤ j → j ≤ y + d → so i j = false := by
  unfold cnt
  rw [sm_eq0 (fun a _ => sm_nn (fun b _ => (b01_le _).1))]
  constructor
  · intro h i j h1 h2 h3 h4
    have q := (sm_eq0 (fun b _ => (b01_le _).1)).mp (h (i - (x - d)).toNat (by omega)) (j - (y - d)).toNat (by omega)
    rw [b01_eq0] at q
    rw [show x - d + ((i - (x - d)).toNat : Int) = i by omega, show y - d + ((j - (y - d)).toNat : Int) = j by omega] at q
    exact q
  · intro h a ha
    rw [sm_eq0 (fun b _ => (b01_le _).1)]
    intro b hb
    rw [b01_eq0]
    exact h _ _ (by omega) (by omega) (by omega) (by omega)
theorem sm_comp (f : Nat → Int) (c : Int) (n : Nat) : sm (fun i => c - f i) n = n * c - sm f n := by
  have h := sm_add (fun i => c - f i) f n
  have h2 : sm (fun i => c - f i + f i) n = sm (fun _ => c) n := sm_congr (fun i _ => by omega)
  rw [h2, sm_const] at h
  omega
theorem cnt_full (so : Int → Int → Bool) (x y : Int) (d : Nat) : cnt so x y d < (2 * d + 1) * (2 * d + 1) ↔ ∃ i j : Int, x - d ≤ i ∧ i ≤ x + d ∧ y - d ≤ j ∧ j ≤ y + d ∧ so i j = false := by
  have hc : cnt so x y d + cnt (fun i j => !so i j) x y d = (2 * d + 1) * (2 * d + 1) := by
    unfold cnt
    rw [← sm_add]
    rw [sm_congr (g := fun _ => ((2 * d + 1 : Nat) : Int)) (fun a _ => ?_)]
    · rw [sm_const]
      simp
    · rw [← sm_add, sm_congr (g := fun _ => 1) (fun b _ => ?_)]
      · rw [sm_const]
        simp
      · show b01 _ + b01 (!_) = 1
        cases so (x - ↑d + ↑a) (y - ↑d + ↑b) <;> rfl
  have h0 := cnt_nn (fun i j => !so i j) x y d
  constructor
  · intro h
    rcases Classical.em (∃ i j : Int, x - d ≤ i ∧ i ≤ x + d ∧ y - d ≤ j ∧ j ≤ y + d ∧ so i j = false) with q | q
    · exact q
    · have hz := (cnt_0 (fun i j => !so i j) x y d).mpr (fun i j h1 h2 h3 h4 => by
        cases hs : so i j
        · exact absurd ⟨i, j, h1, h2, h3, h4, hs⟩ q
        · rfl)
      omega
  · rintro ⟨i, j, h1, h2, h3, h4, hs⟩
    rcases Int.lt_or_le 0 (cnt (fun i j => !so i j) x y d) with q | q
    · omega
    · have hz := (cnt_0 (fun i j => !so i j) x y d).mp (by omega) i j h1 h2 h3 h4
      rw [hs] at hz
      cases hz
/-- a solid cell hangs -/
def hgs (so : Int → Int → Int → Bool) (re : Nat) (l x y : Int) : Bool := decide (0 < l) && so l x y && decide (cnt (so (l - 1)) x y re = 0)
/-- of n layers, seen from k layers below the last one: does the first solid cell above hang -/
def uhg (so : Int → Int → Int → Bool) (re : Nat) (n x y : Int) : Nat → Bool
  | 0 => false
  | k + 1 => if so (n - 1 - k) x y then hgs so re (n - 1 - k) x y else uhg so re n x y k
/-- a cell's kind -/
def kd (so : Int → Int → Int → Bool) (n : Int) (sh sk : Nat) (pe : Int) (re ga : Nat) (l x y : Int) : Int :=
  if ¬ (0 ≤ l ∧ l < n ∧ 0 ≤ x ∧ x < 12 ∧ 0 ≤ y ∧ y < 12) then 0
  else if so l x y = false then (if uhg so re n x y (n - 1 - l).toNat = false then 0 else if 0 < ga ∧ 0 < cnt (so l) x y ga then 6 else 5)
  else if 0 < sh ∧ cnt (so l) x y sh < (2 * sh + 1) * (2 * sh + 1) then 1
  else if ∃ d : Fin sk, so (l - (d + 1)) x y = false ∨ so (l + (d + 1)) x y = false then 2
  else if 0 < pe ∧ Int.tmod (if Int.tmod l 2 = 0 then x else y) pe = 0 then 3 else 4
