/-! ===== MEANING 5: runs of cells ===== -/
abbrev isL (k : Int) : Prop := k = 1 ∨ k = 2 ∨ k = 3 ∨ k = 5
/-- a path begins at cell c -/
def stt (kf : Nat → Int) (c : Nat) : Bool := decide (isL (kf c)) && !(decide (0 < c % 12) && decide (kf (c - 1) = kf c))
/-- where paths begin, among the first n cells -/
def sts (kf : Nat → Int) : Nat → List Nat
  | 0 => []
  | n + 1 => sts kf n ++ (if stt kf n = true then [n] else [])
theorem sts_mem {kf : Nat → Int} : ∀ {n s : Nat}, s ∈ sts kf n ↔ s < n ∧ stt kf s = true
  | 0, s => ⟨fun h => (by cases h), fun h => by omega⟩
  | n + 1, s => by
    show s ∈ sts kf n ++ _ ↔ _
    rw [List.mem_append, sts_mem]
    constructor
    · rintro (h | h)
      · exact ⟨by omega, h.2⟩
      · by_cases hs : stt kf n = true
        · rw [if_pos hs, List.mem_singleton] at h
          subst h
          exact ⟨by omega, hs⟩
        · rw [if_neg hs] at h
          cases h
    · rintro ⟨h1, h2⟩
      by_cases e : s = n
      · subst e
        rw [if_pos h2]
        exact Or.inr (List.mem_singleton.mpr rfl)
      · exact Or.inl ⟨by omega, h2⟩
theorem sts_s (kf : Nat → Int) (n : Nat) : sts kf (n + 1) = sts kf n ++ (if stt kf n = true then [n] else []) := rfl
/-- the cells of the path that begins at s, among those before c -/
def lnt (kf : Nat → Int) (s : Nat) : Nat → Nat
  | 0 => 0
  | c + 1 => if s ≤ c ∧ s + lnt kf s c = c ∧ kf c = kf s ∧ c / 12 = s / 12 then lnt kf s c + 1 else lnt kf s c
theorem lnt_lo (kf : Nat → Int) (s : Nat) : ∀ {c : Nat}, c ≤ s → lnt kf s c = 0
  | 0, _ => rfl
  | c + 1, h => by
    unfold lnt
    rw [if_neg (fun q => by omega)]
    exact lnt_lo kf s (by omega)
theorem lnt_self (kf : Nat → Int) (s : Nat) : lnt kf s (s + 1) = 1 := by
  unfold lnt
  rw [lnt_lo kf s (Nat.le_refl s), if_pos ⟨Nat.le_refl _, rfl, rfl, rfl⟩]
theorem lnt_s (kf : Nat → Int) (s c : Nat) : lnt kf s (c + 1) = if s ≤ c ∧ s + lnt kf s c = c ∧ kf c = kf s ∧ c / 12 = s / 12 then lnt kf s c + 1 else lnt kf s c := rfl
theorem lnt_le (kf : Nat → Int) (s : Nat) : ∀ c : Nat, s ≤ c → s + lnt kf s c ≤ c
  | 0, h => by
    rw [lnt_lo kf s (Nat.zero_le s)]
    omega
  | c + 1, h => by
    rw [lnt_s]
    by_cases hs : s ≤ c
    · have := lnt_le kf s c hs
      split <;> omega
    · rw [if_neg (fun q => hs q.1), lnt_lo kf s (by omega)]
      omega
/-- all cells of it are of its kind, in its row -/
theorem lnt_in (kf : Nat → Int) (s : Nat) : ∀ c : Nat, ∀ j, j < lnt kf s c → kf (s + j) = kf s ∧ (s + j) / 12 = s / 12
  | 0, j, h => by
    unfold lnt at h
    omega
  | c + 1, j, h => by
    rw [lnt_s] at h
    split at h
    · rename_i q
      by_cases hj : j < lnt kf s c
      · exact lnt_in kf s c j hj
      · have e : s + j = c := by omega
        rw [e]
        exact ⟨q.2.2.1, q.2.2.2⟩
    · exact lnt_in kf s c j h
/-- it ends where a cell is not of its kind, or its row ends -/
theorem lnt_end (kf : Nat → Int) (s : Nat) {n : Nat} (h1 : ∀ j, j < n → kf (s + j) = kf s ∧ (s + j) / 12 = s / 12) (h2 : ¬ (kf (s + n) = kf s ∧ (s + n) / 12 = s / 12)) : ∀ c : Nat, s ≤ c → lnt kf s c = min n (c - s)
  | 0, h => by
    rw [lnt_lo kf s (Nat.zero_le s)]
    omega
  | c + 1, h => by
    by_cases hs : s ≤ c
    · have ih := lnt_end kf s h1 h2 c hs
      rw [lnt_s, ih]
      by_cases hc : c - s < n
      · have q := h1 (c - s) hc
        rw [show s + (c - s) = c by omega] at q
        rw [if_pos ⟨hs, by omega, q.1, q.2⟩]
        omega
      · rw [if_neg (fun q => ?_)]
        · omega
        · by_cases e : c - s = n
          · apply h2
            rw [show s + n = c by omega]
            exact ⟨q.2.2.1, q.2.2.2⟩
          · omega
    · rw [show c + 1 = s by omega, lnt_lo kf s (Nat.le_refl s)]
      omega
