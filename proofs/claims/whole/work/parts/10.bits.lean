/-! ===== MEANING 1: bits of ints, sums ===== -/
/-- bit i of an int -/
def bt (z : Int) (i : Nat) : Bool := (zI z).toBitVec.getLsbD i
theorem bt_and (a b : Int) (i : Nat) : bt (iand a b) i = (bt a i && bt b i) := by
  unfold bt
  rw [← zI_and, Int32.toBitVec_and, BitVec.getLsbD_and]
theorem bt_or (a b : Int) (i : Nat) : bt (ior a b) i = (bt a i || bt b i) := by
  unfold bt
  rw [← zI_or, Int32.toBitVec_or, BitVec.getLsbD_or]
theorem bt_xor (a b : Int) (i : Nat) : bt (ixor a b) i = (bt a i ^^ bt b i) := by
  unfold bt
  rw [← zI_xor, Int32.toBitVec_xor, BitVec.getLsbD_xor]
theorem bt_nat (n : Nat) {i : Nat} (h : i < 32) : bt (n : Int) i = n.testBit i := by
  unfold bt
  rw [zI_bv, BitVec.ofInt_natCast, BitVec.getLsbD_ofNat]
  simp [h]
theorem bt_big (a : Int) {i : Nat} (h : 32 ≤ i) : bt a i = false := BitVec.getLsbD_of_ge _ _ h
theorem bt_z (i : Nat) : bt 0 i = false := by
  unfold bt
  rw [show (zI 0).toBitVec = 0#32 from rfl, BitVec.getLsbD_zero]
theorem bt_m1 {i : Nat} (h : i < 32) : bt (-1) i = true := by
  unfold bt
  rw [show (zI (-1)).toBitVec = BitVec.allOnes 32 from by decide, BitVec.getLsbD_allOnes]
  simp [h]
theorem bt_not (a : Int) {i : Nat} (h : i < 32) : bt (-1 - a) i = !bt a i := by
  have e := bt_m1 h
  unfold bt at e ⊢
  rw [← zI_not, Int32.toBitVec_xor, BitVec.getLsbD_xor, e]
  simp
theorem bt_shl {a : Int} (h0 : 0 ≤ a) (k : Nat) {i : Nat} (hi : i < 32) : bt (a * 2 ^ k) i = (decide (k ≤ i) && bt a (i - k)) := by
  obtain ⟨n, rfl⟩ := Int.eq_ofNat_of_zero_le h0
  rw [show ((n : Int) * 2 ^ k) = ((n * 2 ^ k : Nat) : Int) from by simp, bt_nat _ hi, bt_nat _ (by omega), Nat.testBit_mul_two_pow]
theorem bt_shr {a : Int} (h0 : 0 ≤ a) (h1 : a < 4294967296) (k : Nat) {i : Nat} (hi : i < 32) : bt (a / 2 ^ k) i = bt a (i + k) := by
  obtain ⟨n, rfl⟩ := Int.eq_ofNat_of_zero_le h0
  rw [show ((n : Int) / 2 ^ k) = ((n / 2 ^ k : Nat) : Int) from by simp, bt_nat _ hi, Nat.testBit_div_two_pow]
  by_cases h : i + k < 32
  · rw [bt_nat _ h]
  · rw [bt_big _ (by omega)]
    apply Nat.testBit_lt_two_pow
    have h2 : (2 : Nat) ^ 32 ≤ 2 ^ (i + k) := Nat.pow_le_pow_right (by omega) (by omega)
    have h3 : (2 : Nat) ^ 32 = 4294967296 := by decide
    omega
theorem iand_rg (a b : Int) : rg (iand a b) := rg_of _
theorem ior_rg (a b : Int) : rg (ior a b) := rg_of _
theorem ixor_rg (a b : Int) : rg (ixor a b) := rg_of _
/-- a row of twelve cells -/
abbrev row (r : Int) : Prop := 0 ≤ r ∧ r < 4096
theorem row_rg {r : Int} (h : row r) : rg r := ⟨by omega, by omega⟩
theorem row_hi {r : Int} (h : row r) {i : Nat} (hi : 12 ≤ i) : bt r i = false := by
  by_cases h2 : i < 32
  · obtain ⟨n, rfl⟩ := Int.eq_ofNat_of_zero_le h.1
    rw [bt_nat _ h2]
    apply Nat.testBit_lt_two_pow
    have h3 : (2 : Nat) ^ 12 ≤ 2 ^ i := Nat.pow_le_pow_right (by omega) hi
    have h4 : (2 : Nat) ^ 12 = 4096 := by decide
    omega
  · exact bt_big _ (by omega)
theorem row_of {a : Int} (ha : rg a) (h : ∀ i : Nat, 12 ≤ i → i < 32 → bt a i = false) : row a := by
  have h1 : (zI a).toBitVec.toNat < 2 ^ 12 := by
    apply Nat.lt_pow_two_of_testBit
    intro i hi
    rw [BitVec.testBit_toNat]
    by_cases h2 : i < 32
    · exact h i hi h2
    · exact BitVec.getLsbD_of_ge _ _ (by omega)
  have h4 : (2 : Nat) ^ 12 = 4096 := by decide
  have h5 : (2 : Nat) ^ 32 = 4294967296 := by decide
  have e : (zI a).toBitVec.toInt = ((zI a).toBitVec.toNat : Int) := BitVec.toInt_eq_toNat_of_lt (by omega)
  rw [Int32.toInt_toBitVec, zI_toInt ha] at e
  exact ⟨by omega, by omega⟩
theorem row_ext {a b : Int} (ha : row a) (hb : row b) (h : ∀ i : Nat, i < 12 → bt a i = bt b i) : a = b := by
  obtain ⟨n, rfl⟩ := Int.eq_ofNat_of_zero_le ha.1
  obtain ⟨k, rfl⟩ := Int.eq_ofNat_of_zero_le hb.1
  have h4 : (2 : Nat) ^ 12 = 4096 := by decide
  congr 1
  apply Nat.eq_of_testBit_eq
  intro i
  by_cases hi : i < 12
  · rw [← bt_nat n (by omega), ← bt_nat k (by omega)]
    exact h i hi
  · have h3 : (2 : Nat) ^ 12 ≤ 2 ^ i := Nat.pow_le_pow_right (by omega) (by omega)
    rw [Nat.testBit_lt_two_pow (by omega), Nat.testBit_lt_two_pow (by omega)]
theorem row_0 : row 0 := ⟨by omega, by omega⟩
theorem row_full : row 4095 := ⟨by omega, by omega⟩
theorem bt_full {i : Nat} (h : i < 32) : bt 4095 i = decide (i < 12) := by
  rw [show (4095 : Int) = ((2 ^ 12 - 1 : Nat) : Int) from by decide, bt_nat _ h, Nat.testBit_two_pow_sub_one]
theorem bt_one {i : Nat} (h : i < 32) : bt 1 i = decide (i = 0) := by
  rw [show (1 : Int) = ((2 ^ 1 - 1 : Nat) : Int) from by decide, bt_nat _ h, Nat.testBit_two_pow_sub_one]
  congr 1
  apply propext
  omega
/-- 1 where it is so, 0 else -/
def b01 (b : Bool) : Int := if b then 1 else 0
theorem b01_t : b01 true = 1 := rfl
theorem b01_f : b01 false = 0 := rfl
theorem b01_le (b : Bool) : 0 ≤ b01 b ∧ b01 b ≤ 1 := by cases b <;> decide
theorem b01_01 (b : Bool) : b01 b = 0 ∨ b01 b = 1 := by cases b <;> decide
theorem b01_row (b : Bool) : row (b01 b) := by cases b <;> decide
theorem one_bit (z : Int) : iand z 1 = b01 (bt z 0) := by
  apply row_ext
  · refine row_of (iand_rg _ _) (fun i h1 h2 => ?_)
    rw [bt_and, bt_one h2]
    simp [show ¬ i = 0 by omega]
  · exact b01_row _
  · intro i hi
    rw [bt_and, bt_one (by omega)]
    by_cases h : i = 0
    · subst h
      cases h2 : bt z 0 <;> simp [b01, bt_z, bt_one]
    · cases h2 : bt z 0 <;> simp [b01, bt_z, h, bt_one (show i < 32 by omega)]
/-- bit x of a row, as the class asks for it -/
theorem bit_at {r : Int} (h : row r) (x : Nat) : iand (r / 2 ^ x) 1 = b01 (bt r x) := by
  rw [one_bit, bt_shr h.1 (by omega) x (by omega), Nat.zero_add]
theorem row_shr {r : Int} (h : row r) (k : Nat) : row (r / 2 ^ k) := by
  obtain ⟨n, rfl⟩ := Int.eq_ofNat_of_zero_le h.1
  rw [show ((n : Int) / 2 ^ k) = ((n / 2 ^ k : Nat) : Int) from by simp]
  have := Nat.div_le_self n (2 ^ k)
  generalize n / 2 ^ k = z at this ⊢
  exact ⟨by omega, by omega⟩
theorem row_and {a b : Int} (h : row a) : row (iand a b) := by
  refine row_of (iand_rg _ _) (fun i h1 h2 => ?_)
  rw [bt_and, row_hi h h1]
  rfl
theorem row_and2 {a b : Int} (h : row b) : row (iand a b) := by
  refine row_of (iand_rg _ _) (fun i h1 h2 => ?_)
  rw [bt_and, row_hi h h1, Bool.and_false]
theorem row_or {a b : Int} (ha : row a) (hb : row b) : row (ior a b) := by
  refine row_of (ior_rg _ _) (fun i h1 h2 => ?_)
  rw [bt_or, row_hi ha h1, row_hi hb h1]
  rfl
theorem row_xor {a b : Int} (ha : row a) (hb : row b) : row (ixor a b) := by
  refine row_of (ixor_rg _ _) (fun i h1 h2 => ?_)
  rw [bt_xor, row_hi ha h1, row_hi hb h1]
  rfl
-- sums
/-- f 0 + .. + f (n - 1) -/
def sm (f : Nat → Int) : Nat → Int
  | 0 => 0
  | n + 1 => sm f n + f n
theorem sm_0 (f : Nat → Int) : sm f 0 = 0 := rfl
theorem sm_s (f : Nat → Int) (n : Nat) : sm f (n + 1) = sm f n + f n := rfl
theorem sm_congr {f g : Nat → Int} : ∀ {n : Nat}, (∀ i, i < n → f i = g i) → sm f n = sm g n
  | 0, _ => rfl
  | n + 1, h => by rw [sm_s, sm_s, sm_congr (fun i hi => h i (by omega)), h n (by omega)]
theorem sm_zero : ∀ n : Nat, sm (fun _ => 0) n = 0
  | 0 => rfl
  | n + 1 => by rw [sm_s, sm_zero n]; rfl
theorem sm_add (f g : Nat → Int) : ∀ n : Nat, sm (fun i => f i + g i) n = sm f n + sm g n
  | 0 => rfl
  | n + 1 => by rw [sm_s, sm_s, sm_s, sm_add f g n]; omega
theorem sm_swap (f : Nat → Nat → Int) (m : Nat) : ∀ n : Nat, sm (fun i => sm (fun j => f i j) m) n = sm (fun j => sm (fun i => f i j) n) m
  | 0 => by
    rw [sm_0]
    exact (sm_zero m).symm
  | n + 1 => by
    rw [sm_s, sm_swap f m n, ← sm_add]
    rfl
theorem sm_split (f : Nat → Int) (n : Nat) : ∀ m : Nat, sm f (n + m) = sm f n + sm (fun i => f (n + i)) m
  | 0 => by rw [sm_0]; simp
  | m + 1 => by
    rw [show n + (m + 1) = (n + m) + 1 from rfl, sm_s, sm_s, sm_split f n m]
    omega
theorem sm_flat (f : Nat → Int) (k : Nat) : ∀ n : Nat, sm f (n * k) = sm (fun i => sm (fun j => f (i * k + j)) k) n
  | 0 => by rw [Nat.zero_mul]; rfl
  | n + 1 => by rw [Nat.succ_mul, sm_split, sm_flat f k n]; rfl
theorem sm_nn {f : Nat → Int} : ∀ {n : Nat}, (∀ i, i < n → 0 ≤ f i) → 0 ≤ sm f n
  | 0, _ => Int.le_refl 0
  | n + 1, h => by
    have h1 := sm_nn (f := f) (n := n) (fun i hi => h i (by omega))
    have h2 := h n (by omega)
    rw [sm_s]
    omega
theorem sm_le {f g : Nat → Int} : ∀ {n : Nat}, (∀ i, i < n → f i ≤ g i) → sm f n ≤ sm g n
  | 0, _ => Int.le_refl 0
  | n + 1, h => by
    have h1 := sm_le (f := f) (g := g) (n := n) (fun i hi => h i (by omega))
    have h2 := h n (by omega)
    rw [sm_s, sm_s]
    omega
theorem sm_const (c : Int) : ∀ n : Nat, sm (fun _ => c) n = n * c
  | 0 => by simp [sm]
  | n + 1 => by
    rw [sm_s, sm_const c n, Int.natCast_add, Int.add_mul]
    simp
/-- no summand is less than nothing: the sum is nothing just where all are -/
theorem sm_eq0 {f : Nat → Int} : ∀ {n : Nat}, (∀ i, i < n → 0 ≤ f i) → (sm f n = 0 ↔ ∀ i, i < n → f i = 0)
  | 0, _ => ⟨fun _ i hi => by omega, fun _ => rfl⟩
  | n + 1, h => by
    have h1 := sm_nn (f := f) (n := n) (fun i hi => h i (by omega))
    have h2 := h n (by omega)
    have ih := sm_eq0 (f := f) (n := n) (fun i hi => h i (by omega))
    rw [sm_s]
    constructor
    · intro e i hi
      by_cases hn : i = n
      · subst hn
        omega
      · exact ih.mp (by omega) i (by omega)
    · intro e
      rw [ih.mpr (fun i hi => e i (by omega)), e n (by omega)]
      rfl
/-- one summand is changed -/
theorem sm_upd {f g : Nat → Int} {k : Nat} : ∀ {n : Nat}, k < n → (∀ i, i < n → i ≠ k → g i = f i) → sm g n = sm f n + (g k - f k)
  | 0, h, _ => by omega
  | n + 1, h, he => by
    rw [sm_s, sm_s]
    by_cases hk : k = n
    · subst hk
      rw [sm_congr (f := g) (g := f) (fun i hi => he i (by omega) (by omega))]
      omega
    · rw [sm_upd (f := f) (g := g) (n := n) (by omega) (fun i hi hne => he i (by omega) hne), he n (by omega) (by omega)]
      omega
