/-! ===== BASE 1: ints as whole numbers ===== -/
def zI (z : Int) : Int32 := Int32.ofInt z
abbrev rg (z : Int) : Prop := -2147483648 ≤ z ∧ z ≤ 2147483647
theorem zI_add (a b : Int) : zI a + zI b = zI (a + b) := (Int32.ofInt_add a b).symm
theorem zI_sub (a b : Int) : zI a - zI b = zI (a - b) := (Int32.ofInt_sub a b).symm
theorem zI_mul (a b : Int) : zI a * zI b = zI (a * b) := (Int32.ofInt_mul a b).symm
theorem zI_neg (a : Int) : -zI a = zI (-a) := (Int32.ofInt_neg a).symm
theorem zI_toInt {a : Int} (h : rg a) : (zI a).toInt = a := by
  obtain ⟨h1, h2⟩ := h
  exact Int32.toInt_ofInt_of_le (by omega) (by omega)
theorem zI_of (x : Int32) : zI x.toInt = x := Int32.ofInt_toInt x
theorem rg_of (x : Int32) : rg x.toInt := by
  have h1 := x.le_toInt
  have h2 := x.toInt_lt
  exact ⟨by omega, by omega⟩
theorem zI_ex (x : Int32) : ∃ z : Int, rg z ∧ x = zI z := ⟨x.toInt, rg_of x, (zI_of x).symm⟩
theorem zI_le {a b : Int} (ha : rg a) (hb : rg b) : zI a ≤ zI b ↔ a ≤ b := by
  rw [Int32.le_iff_toInt_le, zI_toInt ha, zI_toInt hb]
theorem zI_lt {a b : Int} (ha : rg a) (hb : rg b) : zI a < zI b ↔ a < b := by
  rw [Int32.lt_iff_toInt_lt, zI_toInt ha, zI_toInt hb]
theorem zI_eq {a b : Int} (ha : rg a) (hb : rg b) : zI a = zI b ↔ a = b := by
  constructor
  · intro h
    have h2 := congrArg Int32.toInt h
    rwa [zI_toInt ha, zI_toInt hb] at h2
  · intro h
    rw [h]
theorem zI_0 : (0 : Int32) = zI 0 := rfl
theorem rg_0 : rg 0 := ⟨by omega, by omega⟩
theorem zI_eq0 {a : Int} (ha : rg a) : zI a = 0 ↔ a = 0 := by
  rw [zI_0]
  exact zI_eq ha rg_0
theorem zI_lt0 {a : Int} (ha : rg a) : zI a < 0 ↔ a < 0 := by
  rw [zI_0]
  exact zI_lt ha rg_0
theorem zI_le0 {a : Int} (ha : rg a) : zI a ≤ 0 ↔ a ≤ 0 := by
  rw [zI_0]
  exact zI_le ha rg_0
theorem zI_0le {a : Int} (ha : rg a) : 0 ≤ zI a ↔ 0 ≤ a := by
  rw [zI_0]
  exact zI_le rg_0 ha
theorem zI_0lt {a : Int} (ha : rg a) : 0 < zI a ↔ 0 < a := by
  rw [zI_0]
  exact zI_lt rg_0 ha
theorem zI_nat (n : Nat) : zI (n : Int) = nI n := Int32.ofInt_eq_ofNat
theorem zI_cl {i : Nat} (h : i < 2147483648) : (zI (i : Int)).toNatClampNeg = i := by
  rw [zI_nat]
  exact nI_clamp h
theorem zI_in {i N : Nat} (h : i < N) (hN : N < 2147483648) : vp_in (zI (i : Int)) N := by
  rw [zI_nat]
  exact vp_in_nI h hN
/-- an array of whole numbers, as the cell holds it: places are whole numbers too -/
def zF (g : Int → Int) : Nat → Int32 := fun n => zI (g (n : Int))
def iset (g : Int → Int) (i v : Int) : Int → Int := fun j => if j = i then v else g j
theorem iset_s (g : Int → Int) (i v : Int) : iset g i v i = v := if_pos rfl
theorem iset_n (g : Int → Int) {i j : Int} (v : Int) (h : j ≠ i) : iset g i v j = g j := if_neg h
theorem zF_upd (g : Int → Int) (i : Nat) (v : Int) : upd (zF g) i (zI v) = zF (iset g (i : Int) v) := by
  funext n
  simp only [upd, zF, iset]
  by_cases h : n = i
  · rw [if_pos h, if_pos (by omega)]
  · rw [if_neg h, if_neg (by omega)]
/-- the first n places of g, the rest of f -/
def icpy (g f : Int → Int) (n : Int) : Int → Int := fun j => if j < n then g j else f j
theorem rg_ix {z N : Int} (h : 0 ≤ z ∧ z < N) (hN : N ≤ 2147483648) : rg z := ⟨by omega, by omega⟩
theorem rg_max {a b : Int} (ha : rg a) (hb : rg b) : rg (max a b) := by
  obtain ⟨a1, a2⟩ := ha
  obtain ⟨b1, b2⟩ := hb
  exact ⟨by omega, by omega⟩
theorem zI_max {a b : Int} (ha : rg a) (hb : rg b) : (if zI a < zI b then zI b else zI a) = zI (max a b) := by
  by_cases h : a < b
  · rw [if_pos ((zI_lt ha hb).mpr h), Int.max_eq_right (by omega)]
  · rw [if_neg (fun q => h ((zI_lt ha hb).mp q)), Int.max_eq_left (by omega)]
-- the bits
def iand (a b : Int) : Int := (zI a &&& zI b).toInt
def ior (a b : Int) : Int := (zI a ||| zI b).toInt
def ixor (a b : Int) : Int := (zI a ^^^ zI b).toInt
theorem zI_and (a b : Int) : zI a &&& zI b = zI (iand a b) := (zI_of _).symm
theorem zI_or (a b : Int) : zI a ||| zI b = zI (ior a b) := (zI_of _).symm
theorem zI_xor (a b : Int) : zI a ^^^ zI b = zI (ixor a b) := (zI_of _).symm
theorem zI_m1 : zI (-1) = (-1 : Int32) := rfl
theorem zI_not (a : Int) : zI a ^^^ zI (-1) = zI (-1 - a) := by
  rw [zI_m1, Int32.xor_neg_one, Int32.not_eq_neg_sub, zI_neg, show (1 : Int32) = zI 1 from rfl, zI_sub]
  congr 1
  omega
-- division
theorem zI_div {a b : Int} (ha : rg a) (hb : rg b) : zI a / zI b = zI (Int.tdiv a b) := (Int32.ofInt_tdiv (Int.le_trans (by decide) ha.1) (Int.le_trans ha.2 (by decide)) (Int.le_trans (by decide) hb.1) (Int.le_trans hb.2 (by decide))).symm
theorem zI_rem {a b : Int} (ha : rg a) (hb : rg b) : zI a - zI a / zI b * zI b = zI (Int.tmod a b) := by
  rw [zI_div ha hb, zI_mul, zI_sub]
  congr 1
  have := Int.tmod_def a b
  rw [this, Int.mul_comm b]
theorem zI_ne0 {b : Int} (hb : rg b) (h : 0 < b) : ¬ zI b = 0 := fun q => by
  have := (zI_eq0 hb).mp q
  omega
-- shifts
theorem zI_bv (a : Int) : (zI a).toBitVec = BitVec.ofInt 32 a := Int32.toBitVec_ofInt a
theorem zI_sh : ∀ n : Nat, n < 32 → ((zI (n : Int) &&& 31).toBitVec.smod 32).toNat = n := by decide +kernel
theorem zI_shu : ∀ n : Nat, n < 32 → (((zI (n : Int)).toUInt32 &&& Int32.toUInt32 31).toBitVec % 32).toNat = n := by decide +kernel
theorem zI_shl {a b : Int} (hb : 0 ≤ b ∧ b < 32) : zI a <<< (zI b &&& 31) = zI (a * 2 ^ Int.toNat b) := by
  obtain ⟨n, rfl⟩ := Int.eq_ofNat_of_zero_le hb.1
  have hn : n < 32 := by omega
  apply Int32.toBitVec_inj.mp
  apply BitVec.eq_of_toNat_eq
  rw [pk_shl _ _ n (zI_sh n hn), zI_bv, zI_bv, BitVec.toNat_ofInt, BitVec.toNat_ofInt, Int.toNat_natCast]
  have h2 : ((2 : Int) ^ n) = ((2 ^ n : Nat) : Int) := by simp
  rw [h2]
  generalize (2 ^ n : Nat) = t
  have e : a * (t : Int) % 4294967296 = (a % 4294967296) * (t : Int) % 4294967296 := (Int.mul_emod a t 4294967296).trans (by rw [Int.mul_emod (a % 4294967296) t, Int.emod_emod_of_dvd _ (Int.dvd_refl _)])
  have h0 : 0 ≤ a % 4294967296 := Int.emod_nonneg _ (by decide)
  show _ = (a * (t : Int) % 4294967296).toNat
  show (a % 4294967296).toNat * t % 4294967296 = _
  rw [e]
  obtain ⟨w, hw⟩ := Int.eq_ofNat_of_zero_le h0
  rw [hw, Int.toNat_natCast]
  show w * t % 4294967296 = (((w * t : Nat) : Int) % ((4294967296 : Nat) : Int)).toNat
  rw [← Int.natCast_emod, Int.toNat_natCast]
theorem zI_shr {a b : Int} (ha : rg a) (hb : 0 ≤ b ∧ b < 32) : zI a >>> (zI b &&& 31) = zI (a / 2 ^ Int.toNat b) := by
  obtain ⟨n, rfl⟩ := Int.eq_ofNat_of_zero_le hb.1
  have hn : n < 32 := by omega
  rw [← zI_of (zI a >>> (zI (n : Int) &&& 31)), pk_shr _ _ n (zI_sh n hn), zI_toInt ha, Int.shiftRight_eq_div_pow, Int.toNat_natCast]
  congr 2
theorem zI_ushr {a b : Int} (ha : rg a) (h0 : 0 ≤ a) (hb : 0 ≤ b ∧ b < 32) : ((zI a).toUInt32 >>> ((zI b).toUInt32 &&& Int32.toUInt32 31)).toInt32 = zI (a / 2 ^ Int.toNat b) := by
  obtain ⟨n, rfl⟩ := Int.eq_ofNat_of_zero_le hb.1
  obtain ⟨x, rfl⟩ := Int.eq_ofNat_of_zero_le h0
  have hn : n < 32 := by omega
  have h1 := ha.2
  rw [zI_nat x, pk_ushrN (by omega) _ n (zI_shu n hn), ← zI_nat, Int.toNat_natCast]
  congr 1
-- longs
def lI (z : Int) : Int64 := Int64.ofInt z
abbrev rgl (z : Int) : Prop := -9223372036854775808 ≤ z ∧ z ≤ 9223372036854775807
theorem lI_add (a b : Int) : lI a + lI b = lI (a + b) := (Int64.ofInt_add a b).symm
theorem lI_sub (a b : Int) : lI a - lI b = lI (a - b) := (Int64.ofInt_sub a b).symm
theorem lI_mul (a b : Int) : lI a * lI b = lI (a * b) := (Int64.ofInt_mul a b).symm
theorem lI_neg (a : Int) : -lI a = lI (-a) := (Int64.ofInt_neg a).symm
theorem lI_toInt {a : Int} (h : rgl a) : (lI a).toInt = a := by
  obtain ⟨h1, h2⟩ := h
  exact Int64.toInt_ofInt_of_le (by omega) (by omega)
theorem lI_of (x : Int64) : lI x.toInt = x := Int64.ofInt_toInt x
theorem lI_lt {a b : Int} (ha : rgl a) (hb : rgl b) : lI a < lI b ↔ a < b := by
  rw [Int64.lt_iff_toInt_lt, lI_toInt ha, lI_toInt hb]
theorem lI_eq {a b : Int} (ha : rgl a) (hb : rgl b) : lI a = lI b ↔ a = b := by
  constructor
  · intro h
    have h2 := congrArg Int64.toInt h
    rwa [lI_toInt ha, lI_toInt hb] at h2
  · intro h
    rw [h]
theorem lI_div {a b : Int} (ha : rgl a) (hb : rgl b) : lI a / lI b = lI (Int.tdiv a b) := (Int64.ofInt_tdiv (Int.le_trans (by decide) ha.1) (Int.le_trans ha.2 (by decide)) (Int.le_trans (by decide) hb.1) (Int.le_trans hb.2 (by decide))).symm
theorem lI_ne0 {b : Int} (hb : rgl b) (h : 0 < b) : ¬ lI b = 0 := fun q => by
  have : b = 0 := (lI_eq hb (by decide)).mp q
  omega
theorem zI_l {a : Int} (ha : rg a) : (zI a).toInt64 = lI a := Int32.toInt64_ofInt (Int.le_trans (by decide) ha.1) (Int.le_trans ha.2 (by decide))
theorem lI_i (a : Int) : (lI a).toInt32 = zI a := Int64.toInt32_ofInt
def cmpZ (a b : Int) : Int := if b < a then 1 else if a = b then 0 else -1
theorem cmpZ_rg (a b : Int) : rg (cmpZ a b) := by
  unfold cmpZ
  split
  · exact ⟨by omega, by omega⟩
  · split
    · exact ⟨by omega, by omega⟩
    · exact ⟨by omega, by omega⟩
theorem lI_cmp {a b : Int} (ha : rgl a) (hb : rgl b) : lg_cmp (lI a) (lI b) = zI (cmpZ a b) := by
  unfold lg_cmp cmpZ
  by_cases h1 : b < a
  · rw [if_pos h1]
    simp [(lI_lt hb ha).mpr h1]
    rfl
  · have h1' : ¬ lI b < lI a := fun q => h1 ((lI_lt hb ha).mp q)
    rw [if_neg h1]
    by_cases h2 : a = b
    · subst h2
      rw [if_pos rfl]
      simp [h1']
      rfl
    · have h2' : ¬ lI a = lI b := fun q => h2 ((lI_eq ha hb).mp q)
      rw [if_neg h2]
      simp [h1', h2']
      rfl
theorem cmpZ_le {a b : Int} : cmpZ a b ≤ 0 ↔ a ≤ b := by unfold cmpZ; split <;> (try split) <;> omega
theorem cmpZ_lt {a b : Int} : cmpZ a b < 0 ↔ a < b := by unfold cmpZ; split <;> (try split) <;> omega
theorem cmpZ_ge {a b : Int} : 0 ≤ cmpZ a b ↔ b ≤ a := by unfold cmpZ; split <;> (try split) <;> omega
theorem cmpZ_gt {a b : Int} : 0 < cmpZ a b ↔ b < a := by unfold cmpZ; split <;> (try split) <;> omega
theorem cmpZ_eq {a b : Int} : cmpZ a b = 0 ↔ a = b := by unfold cmpZ; split <;> (try split) <;> omega
-- booleans
theorem nz_of {r : Int} (h : r = 0 ∨ r = 1) : narrow .boolean (.int (zI r)) = .int (zI r) := by
  rcases h with rfl | rfl <;> rfl
theorem nar_z {v : Int} (h : v = 0 ∨ v = 1) : vp_nar .boolean (zI v) = zI v := by
  rcases h with rfl | rfl <;> rfl
theorem ix_7 {z : Int} (h : 0 ≤ z ∧ z < 7) : z = 0 ∨ z = 1 ∨ z = 2 ∨ z = 3 ∨ z = 4 ∨ z = 5 ∨ z = 6 := by omega
