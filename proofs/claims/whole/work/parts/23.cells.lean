/-! ===== MEANING 13: what the reference says of cells ===== -/
def kOk (s0 : s_Mo) : Prop := (0 ≤ gMo_layers s0 ∧ gMo_layers s0 ≤ 24) ∧ (∀ l x y : Int, 0 ≤ l → l < gMo_layers s0 → 0 ≤ x → x < 12 → 0 ≤ y → y < 12 → gMo_solids s0 (144 * l + 12 * y + x) = 0 ∨ gMo_solids s0 (144 * l + 12 * y + x) = 1) ∧ (0 ≤ gMo_shell s0 ∧ gMo_shell s0 ≤ 3) ∧ (0 ≤ gMo_skin s0 ∧ gMo_skin s0 ≤ 3) ∧ (0 ≤ gMo_period s0 ∧ gMo_period s0 ≤ 6) ∧ (0 ≤ gMo_reach s0 ∧ gMo_reach s0 ≤ 3) ∧ (0 ≤ gMo_gap s0 ∧ gMo_gap s0 ≤ 2)
abbrev som (s0 : s_Mo) : Int → Int → Int → Bool := sol (gMo_layers s0) (gMo_solids s0)
def kdm (s0 : s_Mo) (l x y : Int) : Int := kd (som s0) (gMo_layers s0) (gMo_shell s0).toNat (gMo_skin s0).toNat (gMo_period s0) (gMo_reach s0).toNat (gMo_gap s0).toNat l x y
abbrev sm3 (v : Int) : Prop := -1000 ≤ v ∧ v ≤ 1000
theorem sol_out {ly : Int} {so : Int → Int} {l x y : Int} (h : ¬ (0 ≤ l ∧ l < ly ∧ 0 ≤ x ∧ x < 12 ∧ 0 ≤ y ∧ y < 12)) : sol ly so l x y = false := by
  unfold sol
  rw [decide_eq_false h]
  rfl
theorem sol_in {ly : Int} {so : Int → Int} {l x y : Int} (h : 0 ≤ l ∧ l < ly ∧ 0 ≤ x ∧ x < 12 ∧ 0 ≤ y ∧ y < 12) : sol ly so l x y = decide (so (144 * l + 12 * y + x) = 1) := by
  unfold sol
  rw [decide_eq_true h]
  rfl
theorem m_isSolid {l x y : Int} {s0 : s_Mo} {Q : Int → Prop} (hk : kOk s0) (rl : rg l) (rx : rg x) (ry : rg y) (h : Q (b01 (som s0 l x y))) : wp_Mo_isSolid l x y s0 Q := by
  obtain ⟨hly, h01, -⟩ := hk
  unfold wp_Mo_isSolid
  by_cases hg : 0 ≤ l ∧ l < gMo_layers s0 ∧ 0 ≤ x ∧ x < 12 ∧ 0 ≤ y ∧ y < 12
  · have h2 := h01 l x y hg.1 hg.2.1 hg.2.2.1 hg.2.2.2.1 hg.2.2.2.2.1 hg.2.2.2.2.2
    unfold som at h
    rw [sol_in hg] at h
    rcases h2 with h2 | h2
    · rw [h2] at h
      have h : Q 0 := h
      simp only [wp_Mo_in]
      rw [h2]
      clear h01
      repeat' first | (exact h) | (intro _) | (refine And.intro ?_ ?_) | omega | (exfalso; omega)
    · rw [h2] at h
      have h : Q 1 := h
      simp only [wp_Mo_in]
      rw [h2]
      clear h01
      repeat' first | (exact h) | (intro _) | (refine And.intro ?_ ?_) | omega | (exfalso; omega)
  · unfold som at h
    rw [sol_out hg] at h
    have h : Q 0 := h
    simp only [wp_Mo_in]
    clear h01
    repeat' first | (exact h) | (intro _) | (refine And.intro ?_ ?_) | omega | (exfalso; omega)
theorem m_around {l x y d : Int} {s0 : s_Mo} {Q : Int → Prop} (hk : kOk s0) (hl : sm3 l) (hx : sm3 x) (hy : sm3 y) (hd : 0 ≤ d ∧ d ≤ 3) (h : Q (cnt (som s0 l) x y d.toNat)) : wp_Mo_around l x y d s0 Q := by
  obtain ⟨n, rfl⟩ := Int.eq_ofNat_of_zero_le hd.1
  rw [Int.toNat_natCast] at h
  unfold wp_Mo_around
  intro P9 P24 h9 h24
  generalize hf : (fun (a b : Nat) => b01 (som s0 l (x - n + a) (y - n + b))) = f
  have hf2 : ∀ a b : Nat, b01 (som s0 l (x - n + a) (y - n + b)) = f a b := fun a b => by rw [← hf]
  have hb : ∀ a b, 0 ≤ f a b ∧ f a b ≤ 1 := fun a b => by rw [← hf2]; exact b01_le _
  have hcn : cnt (som s0 l) x y n = sm (fun a => sm (fun b => f a b) (2 * n + 1)) (2 * n + 1) := by rw [← hf]; rfl
  rw [hcn] at h
  have inner : ∀ (a : Nat), a < 2 * n + 1 → ∀ S : Int, P9 (S + sm (fun b => f a b) (2 * n + 1)) (x - n + a + 1) → ∀ k b : Nat, b + k = 2 * n + 1 → P24 (S + sm (fun b => f a b) b) (x - n + a) (y - n + b) := by
    intro a ha S hn k
    induction k with
    | zero =>
      intro b hb2
      apply h24
      have e : b = 2 * n + 1 := by omega
      subst e
      exact ⟨⟨by omega, by omega⟩, ⟨by omega, by omega⟩, fun _ => hn, fun q => by omega⟩
    | succ k ih =>
      intro b hb2
      have h4 := ih (b + 1) (by omega)
      apply h24
      refine ⟨⟨by omega, by omega⟩, ⟨by omega, by omega⟩, fun q => by omega, fun _ => ?_⟩
      refine m_isSolid hk ⟨by omega, by omega⟩ ⟨by omega, by omega⟩ ⟨by omega, by omega⟩ ?_
      rw [hf2]
      have h01 := hb a b
      rw [sm_s] at h4
      rw [show ((b + 1 : Nat) : Int) = (b : Int) + 1 from rfl] at h4
      rw [show y - ↑n + (↑b + 1) = y - ↑n + ↑b + 1 by omega] at h4
      refine ⟨⟨by omega, by omega⟩, fun q => ?_, fun q => ?_⟩
      · rw [q] at h4
        rw [Int.add_assoc]
        exact h4
      · have q1 : f a b = 1 := by omega
        rw [q1] at h4
        rw [Int.add_assoc]
        exact h4
  have outer : ∀ k a : Nat, a + k = 2 * n + 1 → P9 (sm (fun a => sm (fun b => f a b) (2 * n + 1)) a) (x - n + a) := by
    intro k
    induction k with
    | zero =>
      intro a ha
      apply h9
      have e : a = 2 * n + 1 := by omega
      subst e
      exact ⟨⟨by omega, by omega⟩, ⟨by omega, by omega⟩, fun _ => h, fun q => by omega⟩
    | succ k ih =>
      intro a ha
      have h4 := ih (a + 1) (by omega)
      apply h9
      refine ⟨⟨by omega, by omega⟩, ⟨by omega, by omega⟩, fun q => by omega, fun _ => ?_⟩
      rw [sm_s] at h4
      rw [show ((a + 1 : Nat) : Int) = (a : Int) + 1 from rfl, show x - ↑n + (↑a + 1) = x - ↑n + ↑a + 1 by omega] at h4
      have h5 := inner a (by omega) _ h4 (2 * n + 1) 0 (by omega)
      rw [sm_0, Int.add_zero, show y - ↑n + ((0 : Nat) : Int) = y - ↑n by omega] at h5
      exact h5
  have h6 := outer (2 * n + 1) 0 (by omega)
  rw [sm_0, show x - ↑n + ((0 : Nat) : Int) = x - ↑n by omega] at h6
  exact h6
theorem cnt_le (so : Int → Int → Bool) (x y : Int) {d : Nat} (hd : d ≤ 3) : cnt so x y d ≤ 1000 := by
  have h1 : cnt so x y d ≤ sm (fun _ => sm (fun _ => 1) (2 * d + 1)) (2 * d + 1) := sm_le (fun a _ => sm_le (fun b _ => (b01_le _).2))
  rw [sm_const, sm_const] at h1
  rcases (show d = 0 ∨ d = 1 ∨ d = 2 ∨ d = 3 by omega) with rfl | rfl | rfl | rfl <;> simp at h1 <;> omega
theorem m_hangs {l x y : Int} {s0 : s_Mo} {Q : Int → Prop} (hk : kOk s0) (hl : sm3 l) (hx : sm3 x) (hy : sm3 y) (h : Q (b01 (hgs (som s0) (gMo_reach s0).toNat l x y))) : wp_Mo_hangs l x y s0 Q := by
  unfold wp_Mo_hangs
  have hre := hk.2.2.2.2.2.1
  unfold hgs at h
  refine ⟨⟨by omega, by omega⟩, fun q => ?_, fun q => ?_⟩
  · rw [decide_eq_false (by omega)] at h
    exact h
  · rw [decide_eq_true q, Bool.true_and] at h
    refine m_isSolid hk ⟨by omega, by omega⟩ ⟨by omega, by omega⟩ ⟨by omega, by omega⟩ ?_
    cases hs : som s0 l x y with
    | false =>
      rw [hs] at h
      exact ⟨by decide, fun _ => h, fun q => absurd rfl q⟩
    | true =>
      rw [hs, Bool.true_and] at h
      refine ⟨by decide, fun q => absurd q (by decide), fun _ => ?_⟩
      refine m_around hk ⟨by omega, by omega⟩ hx hy hre ?_
      have hnn := cnt_nn (som s0 (l - 1)) x y (gMo_reach s0).toNat
      have hle : cnt (som s0 (l - 1)) x y (gMo_reach s0).toNat ≤ 1000 := cnt_le _ _ _ (by omega)
      refine ⟨⟨by omega, by omega⟩, fun q2 => ?_, fun q2 => ?_⟩
      · rw [decide_eq_false q2] at h
        exact h
      · rw [decide_eq_true q2] at h
        exact h
