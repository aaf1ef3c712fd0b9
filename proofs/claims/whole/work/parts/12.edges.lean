/-! ===== MEANING 3: edges of triangles, how often they are open ===== -/
def pos (z : Int) : Int := if 0 < z then z else 0
theorem pos_nn (z : Int) : 0 ≤ pos z := by unfold pos; split <;> omega
theorem pos_0 : pos 0 = 0 := rfl
/-- what an edge from u to v adds to the ways from p to q -/
def e1 (u v p q : Int) : Int := if u = p ∧ v = q then 1 else if u = q ∧ v = p then -1 else 0
theorem e1_anti {u v : Int} (h : u ≠ v) (p q : Int) : e1 u v q p = - e1 u v p q := by
  unfold e1
  by_cases h1 : u = p ∧ v = q
  · by_cases h2 : u = q ∧ v = p
    · exact absurd (h1.1.trans h2.2.symm) h
    · rw [if_neg h2, if_pos h1, if_pos h1]
  · by_cases h2 : u = q ∧ v = p
    · rw [if_pos h2, if_neg h1, if_pos h2]
      rfl
    · rw [if_neg h2, if_neg h1, if_neg h1, if_neg h2]
      rfl
/-- one summand of 1, no other -/
theorem sm_one {g : Nat → Int} : ∀ {n : Nat}, (∀ i, i < n → 0 ≤ g i) → (sm g n = 1 ↔ ∃ k, k < n ∧ g k = 1 ∧ ∀ i, i < n → i ≠ k → g i = 0)
  | 0, _ => ⟨fun h => by rw [sm_0] at h; omega, fun ⟨k, hk, _⟩ => by omega⟩
  | n + 1, h => by
    have h0 : ∀ i, i < n → 0 ≤ g i := fun i hi => h i (by omega)
    have hn := h n (by omega)
    have hs := sm_nn h0
    have ih := sm_one h0
    have iz := sm_eq0 h0
    rw [sm_s]
    constructor
    · intro e
      by_cases hg : g n = 0
      · obtain ⟨k, hk, e1, e2⟩ := ih.mp (by omega)
        refine ⟨k, by omega, e1, fun i hi hne => ?_⟩
        by_cases hin : i = n
        · rw [hin]
          exact hg
        · exact e2 i (by omega) hne
      · have hz := iz.mp (by omega)
        refine ⟨n, by omega, by omega, fun i hi hne => hz i (by omega)⟩
    · rintro ⟨k, hk, e1, e2⟩
      by_cases hkn : k = n
      · subst hkn
        rw [iz.mpr (fun i hi => e2 i (by omega) (by omega)), e1]
        rfl
      · rw [ih.mpr ⟨k, by omega, e1, fun i hi hne => e2 i (by omega) hne⟩, e2 n (by omega) (by omega)]
        rfl
/-- the class's two tables hold the ways f -/
def BO (B O : Int → Int) (f : Int → Int → Int) : Prop :=
  (∀ p q : Int, 0 ≤ p → p < 80 → 0 ≤ q → q < 80 → B (p * 80 + q) = f p q) ∧ (∀ p : Int, 0 ≤ p → p < 80 → O p = sm (fun j => pos (f p (j : Int))) 80) ∧ ∀ p q : Int, f q p = - f p q
theorem BO_0 {B O : Int → Int} (hB : ∀ i : Int, 0 ≤ i → i < 6400 → B i = 0) (hO : ∀ i : Int, 0 ≤ i → i < 80 → O i = 0) : BO B O (fun _ _ => 0) :=
  ⟨fun p q h1 h2 h3 h4 => hB _ (by omega) (by omega), fun p h1 h2 => by rw [hO p h1 h2]; exact (sm_zero 80).symm, fun _ _ => rfl⟩
theorem BO_add {B O : Int → Int} {f : Int → Int → Int} {a b : Int} (h : BO B O f) (ha : 0 ≤ a ∧ a < 80) (hb : 0 ≤ b ∧ b < 80) (hab : a ≠ b) :
    BO (iset (iset B (a * 80 + b) (B (a * 80 + b) + 1)) (b * 80 + a) (iset B (a * 80 + b) (B (a * 80 + b) + 1) (b * 80 + a) - 1)) (if 0 ≤ B (a * 80 + b) then iset O a (O a + 1) else iset O b (O b - 1)) (fun p q => f p q + e1 a b p q) := by
  obtain ⟨h1, h2, h3⟩ := h
  have hBab : B (a * 80 + b) = f a b := h1 a b ha.1 ha.2 hb.1 hb.2
  have hBba : B (b * 80 + a) = f b a := h1 b a hb.1 hb.2 ha.1 ha.2
  have hba : f b a = - f a b := h3 a b
  have hne : b * 80 + a ≠ a * 80 + b := by omega
  have x1 : e1 a b a b = 1 := if_pos ⟨rfl, rfl⟩
  have x2 : e1 a b b a = -1 := by rw [e1_anti hab, x1]
  refine ⟨fun p q p1 p2 q1 q2 => ?_, fun p p1 p2 => ?_, fun p q => ?_⟩
  · show _ = f p q + e1 a b p q
    by_cases c1 : p = a ∧ q = b
    · obtain ⟨rfl, rfl⟩ := c1
      rw [iset_n _ _ (by omega), iset_s, hBab, x1]
    · by_cases c2 : p = b ∧ q = a
      · obtain ⟨rfl, rfl⟩ := c2
        rw [iset_s, iset_n _ _ hne, hBba, x2]
        rfl
      · have c3 : p * 80 + q ≠ a * 80 + b := fun e => c1 ⟨by omega, by omega⟩
        have c4 : p * 80 + q ≠ b * 80 + a := fun e => c2 ⟨by omega, by omega⟩
        have x0 : e1 a b p q = 0 := by
          unfold e1
          rw [if_neg (fun e => c1 ⟨e.1.symm, e.2.symm⟩), if_neg (fun e => c2 ⟨e.2.symm, e.1.symm⟩)]
        rw [iset_n _ _ c4, iset_n _ _ c3, h1 p q p1 p2 q1 q2, x0, Int.add_zero]
  · show _ = sm (fun j => pos (f p (j : Int) + e1 a b p (j : Int))) 80
    obtain ⟨na, rfl⟩ := Int.eq_ofNat_of_zero_le ha.1
    obtain ⟨nb, rfl⟩ := Int.eq_ofNat_of_zero_le hb.1
    rw [hBab]
    by_cases pa : p = (na : Int)
    · subst pa
      have hsum : sm (fun j => pos (f na (j : Int) + e1 na nb na (j : Int))) 80 = sm (fun j => pos (f na (j : Int))) 80 + (pos (f na nb + 1) - pos (f na nb)) := by
        rw [sm_upd (f := fun j => pos (f na (j : Int))) (k := nb) (by omega) (fun i hi hne2 => by
          have x0 : e1 na nb na (i : Int) = 0 := by
            unfold e1
            rw [if_neg (fun e => hne2 (by omega)), if_neg (fun e => hab e.2.symm)]
          show pos (f na (i : Int) + e1 na nb na (i : Int)) = _
          rw [x0, Int.add_zero]), x1]
      rw [hsum, ← h2 _ p1 p2]
      by_cases hs : 0 ≤ f na nb
      · rw [if_pos hs, iset_s]
        unfold pos
        rw [if_pos (by omega)]
        split <;> omega
      · rw [if_neg hs, iset_n _ _ hab]
        unfold pos
        rw [if_neg (by omega), if_neg (by omega)]
        omega
    · by_cases pb : p = (nb : Int)
      · subst pb
        have hsum : sm (fun j => pos (f nb (j : Int) + e1 na nb nb (j : Int))) 80 = sm (fun j => pos (f nb (j : Int))) 80 + (pos (f nb na + -1) - pos (f nb na)) := by
          rw [sm_upd (f := fun j => pos (f nb (j : Int))) (k := na) (by omega) (fun i hi hne2 => by
            have x0 : e1 na nb nb (i : Int) = 0 := by
              unfold e1
              rw [if_neg (fun e => hab e.1), if_neg (fun e => hne2 (by omega))]
            show pos (f nb (i : Int) + e1 na nb nb (i : Int)) = _
            rw [x0, Int.add_zero]), x2]
        rw [hsum, ← h2 _ p1 p2, hba]
        by_cases hs : 0 ≤ f na nb
        · rw [if_pos hs, iset_n _ _ (Ne.symm hab)]
          unfold pos
          rw [if_neg (by omega), if_neg (by omega)]
          omega
        · rw [if_neg hs, iset_s]
          unfold pos
          rw [if_pos (show 0 < - f na nb by omega)]
          split <;> omega
      · have hO : (if 0 ≤ f na nb then iset O na (O na + 1) else iset O nb (O nb - 1)) p = O p := by
          split
          · exact iset_n _ _ pa
          · exact iset_n _ _ pb
        rw [hO, h2 p p1 p2]
        apply sm_congr
        intro i hi
        have x0 : e1 na nb p (i : Int) = 0 := by
          unfold e1
          rw [if_neg (fun e => pa e.1.symm), if_neg (fun e => pb e.2.symm)]
        rw [x0, Int.add_zero]
  · show f q p + e1 a b q p = - (f p q + e1 a b p q)
    rw [e1_anti hab, h3 p q]
    omega
/-- the corner behind, round its triangle -/
def nx (i : Int) : Int := if Int.tmod i 3 = 2 then i - 2 else i + 1
/-- the ways from a to b along the first n edges -/
def En (nm : Int → Int) (n : Nat) (a b : Int) : Int := sm (fun i => e1 (nm (i : Int)) (nm (nx (i : Int))) a b) n
theorem nx_0 (t : Nat) : nx ((3 * t : Nat) : Int) = 3 * t + 1 := by
  unfold nx
  rw [Int.tmod_eq_emod_of_nonneg (by omega), if_neg (by omega)]
  omega
theorem nx_1 (t : Nat) : nx ((3 * t + 1 : Nat) : Int) = 3 * t + 2 := by
  unfold nx
  rw [Int.tmod_eq_emod_of_nonneg (by omega), if_neg (by omega)]
  omega
theorem nx_2 (t : Nat) : nx ((3 * t + 2 : Nat) : Int) = 3 * t := by
  unfold nx
  rw [Int.tmod_eq_emod_of_nonneg (by omega), if_pos (by omega)]
  omega
theorem En_3 (nm : Int → Int) (t : Nat) (a b : Int) : En nm (3 * (t + 1)) a b = En nm (3 * t) a b + e1 (nm (3 * t)) (nm (3 * t + 1)) a b + e1 (nm (3 * t + 1)) (nm (3 * t + 2)) a b + e1 (nm (3 * t + 2)) (nm (3 * t)) a b := by
  unfold En
  rw [show 3 * (t + 1) = ((3 * t + 1) + 1) + 1 from by omega, sm_s, sm_s, sm_s]
  rw [show ((3 * t + 1) + 1 : Nat) = 3 * t + 2 from rfl, nx_0, nx_1, nx_2]
  rfl
theorem En_congr {nm nm' : Int → Int} {t : Nat} (h : ∀ i : Int, 0 ≤ i → i < 3 * t → nm' i = nm i) (a b : Int) : En nm' (3 * t) a b = En nm (3 * t) a b := by
  unfold En
  apply sm_congr
  intro i hi
  have h1 : 0 ≤ nx (i : Int) ∧ nx (i : Int) < 3 * t := by
    unfold nx
    rw [Int.tmod_eq_emod_of_nonneg (by omega)]
    split <;> omega
  rw [h _ (by omega) (by omega), h _ h1.1 h1.2]
