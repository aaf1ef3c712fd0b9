/-! ===== MEANING 3b: the walk round a hole ===== -/
/-- the corners that are come to -/
def vv (nxt : Int → Int) (first : Int) : Nat → Int
  | 0 => first
  | k + 1 => nxt (vv nxt first k)
/-- is c among the first n of them -/
def seen (nxt : Int → Int) (first : Int) (c : Int) : Nat → Bool
  | 0 => false
  | n + 1 => seen nxt first c n || decide (vv nxt first n = c)
theorem seen_iff {nxt : Int → Int} {first c : Int} : ∀ {n : Nat}, seen nxt first c n = true ↔ ∃ k, k < n ∧ vv nxt first k = c
  | 0 => ⟨fun h => (by cases h), fun ⟨k, hk, _⟩ => by omega⟩
  | n + 1 => by
    show (seen nxt first c n || decide (vv nxt first n = c)) = true ↔ _
    rw [Bool.or_eq_true, decide_eq_true_iff, seen_iff]
    constructor
    · rintro (⟨k, hk, h⟩ | h)
      · exact ⟨k, by omega, h⟩
      · exact ⟨n, by omega, h⟩
    · rintro ⟨k, hk, h⟩
      by_cases e : k = n
      · exact Or.inr (e ▸ h)
      · exact Or.inl ⟨k, by omega, h⟩
/-- from the n-th on, at most k corners more: how many edges the hole has, 0 where there is none -/
def hf (nxt : Int → Int) (first : Int) : Nat → Nat → Nat
  | 0, _ => 0
  | k + 1, n => if nxt (vv nxt first n) < 0 then 0 else if seen nxt first (vv nxt first n) n = true then 0 else if vv nxt first (n + 1) = first then n + 1 else hf nxt first k (n + 1)
theorem hf_le (nxt : Int → Int) (first : Int) : ∀ k n : Nat, hf nxt first k n ≤ n + k
  | 0, n => by simp [hf]
  | k + 1, n => by
    have := hf_le nxt first k (n + 1)
    unfold hf
    split
    · omega
    · split
      · omega
      · split <;> omega
theorem hf_more (nxt : Int → Int) (first : Int) : ∀ k n : Nat, hf nxt first (k + 1) n = hf nxt first k n ∨ (hf nxt first k n = 0 ∧ hf nxt first (k + 1) n = n + k + 1)
  | 0, n => by
    show _ ∨ (0 = 0 ∧ _)
    unfold hf
    split
    · exact Or.inl rfl
    · split
      · exact Or.inl rfl
      · split
        · exact Or.inr ⟨rfl, rfl⟩
        · exact Or.inl rfl
  | k + 1, n => by
    have ih := hf_more nxt first k (n + 1)
    rw [show hf nxt first (k + 1 + 1) n = if nxt (vv nxt first n) < 0 then 0 else if seen nxt first (vv nxt first n) n = true then 0 else if vv nxt first (n + 1) = first then n + 1 else hf nxt first (k + 1) (n + 1) from rfl]
    rw [show hf nxt first (k + 1) n = if nxt (vv nxt first n) < 0 then 0 else if seen nxt first (vv nxt first n) n = true then 0 else if vv nxt first (n + 1) = first then n + 1 else hf nxt first k (n + 1) from rfl]
    split
    · exact Or.inl rfl
    · split
      · exact Or.inl rfl
      · split
        · exact Or.inl rfl
        · rcases ih with h | ⟨h1, h2⟩
          · exact Or.inl h
          · exact Or.inr ⟨h1, by rw [h2]; omega⟩
/-- a hole that may be closed, the mesh having t triangles -/
def okh (n : Nat) (t : Int) : Prop := 3 ≤ n ∧ n ≤ 16 ∧ t + n - 2 ≤ 120
theorem hf_ok (nxt : Int → Int) (first t : Int) : (okh (hf nxt first 17 0) t ↔ okh (hf nxt first 16 0) t) ∧ (okh (hf nxt first 16 0) t → hf nxt first 17 0 = hf nxt first 16 0) := by
  have h := hf_more nxt first 16 0
  have h2 := hf_le nxt first 16 0
  unfold okh
  rcases h with h | ⟨h1, h3⟩
  · rw [h]
    exact ⟨Iff.rfl, fun _ => rfl⟩
  · rw [h1, h3]
    exact ⟨⟨fun q => by omega, fun q => by omega⟩, fun q => by omega⟩
