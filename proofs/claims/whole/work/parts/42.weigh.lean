/-! ===== MEANING 32: edges weighed ===== -/
theorem e1_in (u v p q : Int) : -1 ≤ e1 u v p q ∧ e1 u v p q ≤ 1 := by
  unfold e1
  split
  · omega
  · split <;> omega
theorem En_in (nm : Int → Int) (a b : Int) : ∀ n : Nat, -(n : Int) ≤ En nm n a b ∧ En nm n a b ≤ n
  | 0 => ⟨by show -((0 : Nat) : Int) ≤ 0; omega, by show 0 ≤ ((0 : Nat) : Int); omega⟩
  | n + 1 => by
    have h := En_in nm a b n
    have h2 := e1_in (nm n) (nm (nx n)) a b
    have e : En nm (n + 1) a b = En nm n a b + e1 (nm n) (nm (nx n)) a b := rfl
    omega
theorem m_addEdge {a b : Int} {s0 : s_Mn} {f : Int → Int → Int} {Q : s_Mn → Prop} (hbo : BO (gMn_balance s0) (gMn_openFrom s0) f) (ha : 0 ≤ a ∧ a < 80) (hb : 0 ≤ b ∧ b < 80) (hab : a ≠ b) (hf : rg (f a b)) (h : ∀ B O : Int → Int, BO B O (fun p q => f p q + e1 a b p q) → Q (mkMn (gMn_joined s0) (gMn_dropped s0) (gMn_closed s0) (gMn_lowestHere s0) (gMn_counted s0) B O (gMn_hole s0))) : wp_Mn_addEdge a b s0 Q := by
  have k := BO_add hbo ha hb hab
  have eB : gMn_balance s0 (a * 80 + b) = f a b := hbo.1 a b ha.1 ha.2 hb.1 hb.2
  unfold wp_Mn_addEdge
  intro P37 h37
  refine ⟨⟨by omega, by omega⟩, by rw [eB]; exact hf, fun q => ⟨hb, h37 _ ⟨⟨by omega, by omega⟩, ⟨by omega, by omega⟩, h _ _ ?_⟩⟩, fun q => ⟨ha, h37 _ ⟨⟨by omega, by omega⟩, ⟨by omega, by omega⟩, h _ _ ?_⟩⟩⟩
  · rw [if_neg (by omega)] at k
    exact k
  · rw [if_pos q] at k
    exact k
/-- the names of n triangles -/
def Tok (nm : Int → Int) (nc : Int) (n : Nat) : Prop := (∀ i : Int, 0 ≤ i → i < 3 * n → 0 ≤ nm i ∧ nm i < nc) ∧ ∀ t : Nat, t < n → nm (3 * t) ≠ nm (3 * t + 1) ∧ nm (3 * t + 1) ≠ nm (3 * t + 2) ∧ nm (3 * t + 2) ≠ nm (3 * t)
theorem m_addEdges {t n : Nat} {s0 : s_Mn} {s1 : s_Me} {nm : Int → Int} {nc : Int} {Q : s_Mn → Prop} (hT : Tok nm nc n) (hc : nc ≤ 80) (htn : t < n) (hn : n ≤ 120) (enm : gMe_named s1 = nm) (hbo : BO (gMn_balance s0) (gMn_openFrom s0) (En nm (3 * t))) (h : ∀ B O : Int → Int, BO B O (En nm (3 * (t + 1))) → Q (mkMn (gMn_joined s0) (gMn_dropped s0) (gMn_closed s0) (gMn_lowestHere s0) (gMn_counted s0) B O (gMn_hole s0))) : wp_Mn_addEdgesOf t s0 s1 Q := by
  obtain ⟨hr, hd⟩ := hT
  obtain ⟨d1, d2, d3⟩ := hd t htn
  have r0 := hr (3 * t) (by omega) (by omega)
  have r1 := hr (3 * t + 1) (by omega) (by omega)
  have r2 := hr (3 * t + 2) (by omega) (by omega)
  have eE : (fun p q => En nm (3 * t) p q + e1 (nm (3 * t)) (nm (3 * t + 1)) p q + e1 (nm (3 * t + 1)) (nm (3 * t + 2)) p q + e1 (nm (3 * t + 2)) (nm (3 * t)) p q) = En nm (3 * (t + 1)) := by
    funext p q
    exact (En_3 nm t p q).symm
  rw [← eE] at h
  unfold wp_Mn_addEdgesOf
  rw [enm]
  refine ⟨⟨by omega, by omega⟩, ⟨by omega, by omega⟩, ⟨by omega, by omega⟩, ?_⟩
  have g1 := En_in nm (nm (3 * t)) (nm (3 * t + 1)) (3 * t)
  refine m_addEdge hbo ⟨r0.1, by omega⟩ ⟨r1.1, by omega⟩ d1 ⟨by omega, by omega⟩ (fun B1 O1 b1 => ?_)
  have g2 := En_in nm (nm (3 * t + 1)) (nm (3 * t + 2)) (3 * t)
  have g3 := e1_in (nm (3 * t)) (nm (3 * t + 1)) (nm (3 * t + 1)) (nm (3 * t + 2))
  refine m_addEdge (f := fun p q => En nm (3 * t) p q + e1 (nm (3 * t)) (nm (3 * t + 1)) p q) b1 ⟨r1.1, by omega⟩ ⟨r2.1, by omega⟩ d2 ⟨by omega, by omega⟩ (fun B2 O2 b2 => ?_)
  have g4 := En_in nm (nm (3 * t + 2)) (nm (3 * t)) (3 * t)
  have g5 := e1_in (nm (3 * t)) (nm (3 * t + 1)) (nm (3 * t + 2)) (nm (3 * t))
  have g6 := e1_in (nm (3 * t + 1)) (nm (3 * t + 2)) (nm (3 * t + 2)) (nm (3 * t))
  refine m_addEdge (f := fun p q => En nm (3 * t) p q + e1 (nm (3 * t)) (nm (3 * t + 1)) p q + e1 (nm (3 * t + 1)) (nm (3 * t + 2)) p q) b2 ⟨r2.1, by omega⟩ ⟨r0.1, by omega⟩ d3 ⟨by omega, by omega⟩ (fun B3 O3 b3 => h B3 O3 b3)
theorem m_weighEdges {n : Nat} {s0 : s_Mn} {s1 : s_Me} {nm : Int → Int} {nc : Int} {Q : s_Mn → Prop} (hT : Tok nm nc n) (hc : nc ≤ 80) (en : gMe_triangles s1 = n) (hn : n ≤ 120) (enm : gMe_named s1 = nm) (h : ∀ B O : Int → Int, BO B O (En nm (3 * n)) → Q (mkMn (gMn_joined s0) (gMn_dropped s0) (gMn_closed s0) (gMn_lowestHere s0) (gMn_counted s0) B O (gMn_hole s0))) : wp_Mn_weighEdges s0 s1 Q := by
  unfold wp_Mn_weighEdges
  intro P18 h18
  have key : ∀ (k t : Nat) (B O : Int → Int), t + k = n → BO B O (En nm (3 * t)) → P18 t (mkMn (gMn_joined s0) (gMn_dropped s0) (gMn_closed s0) (gMn_lowestHere s0) (gMn_counted s0) B O (gMn_hole s0)) := by
    intro k
    induction k with
    | zero =>
      intro t B O e hb
      have e : t = n := by omega
      subst e
      apply h18
      rw [en]
      exact ⟨⟨by omega, by omega⟩, ⟨by omega, by omega⟩, fun _ => h B O hb, fun q => by omega⟩
    | succ k ih =>
      intro t B O e hb
      apply h18
      rw [en]
      exact ⟨⟨by omega, by omega⟩, ⟨by omega, by omega⟩, fun q => by omega, fun _ => m_addEdges hT hc (by omega) hn enm hb (fun B' O' hb' => ih (t + 1) B' O' (by omega) hb')⟩
  have hE : En nm (3 * 0) = fun _ _ => 0 := rfl
  refine m_fill (n0 := 6400) (by omega) (m_fill (n0 := 80) (by omega) (key n 0 _ _ (by omega) ?_))
  rw [hE]
  exact BO_0 (fun i i1 i2 => if_pos ⟨i1, i2⟩) (fun i i1 i2 => if_pos ⟨i1, i2⟩)
/-! the reference -/
theorem nx_in {i n : Nat} (h : i < 3 * n) : 0 ≤ nx (i : Int) ∧ nx (i : Int) < 3 * n := by
  unfold nx
  rw [Int.tmod_eq_emod_of_nonneg (by omega)]
  split <;> omega
theorem m_open {a b : Int} {s0 : s_Mo} {nm : Int → Int} {n : Nat} {Q : Int → Prop} (ra : rg a) (rb : rg b) (en : gMo_triangles s0 = n) (hn : n ≤ 120) (enm : gMo_named s0 = nm) (hr : ∀ i : Int, 0 ≤ i → i < 3 * n → 0 ≤ nm i ∧ nm i < 80) (h : Q (pos (En nm (3 * n) a b))) : wp_Mo_open a b s0 Q := by
  unfold wp_Mo_open
  rw [en, enm]
  intro P5 P48 P68 h5 h48 h68
  have key : ∀ (k i : Nat), i + k = 3 * n → P5 (En nm i a b) i := by
    intro k
    induction k with
    | zero =>
      intro i e
      have e : i = 3 * n := by omega
      subst e
      have g := En_in nm a b (3 * n)
      apply h5
      unfold pos at h
      refine ⟨⟨by omega, by omega⟩, ⟨by omega, by omega⟩, fun _ => ⟨⟨by omega, by omega⟩, fun q => ?_, fun q => ?_⟩, fun q => by omega⟩
      · rw [if_neg (by omega)] at h
        exact h
      · rw [if_pos q] at h
        exact h
    | succ k ih =>
      intro i e
      have h9 := ih (i + 1) (by omega)
      have ee : En nm (i + 1) a b = En nm i a b + e1 (nm i) (nm (nx i)) a b := rfl
      rw [ee, show ((i + 1 : Nat) : Int) = (i : Int) + 1 from rfl] at h9
      have hx := nx_in (i := i) (n := n) (by omega)
      have r1 := hr i (by omega) (by omega)
      have r2 := hr (nx i) hx.1 hx.2
      have p68 : ¬ (nm i = a ∧ nm (nx i) = b) → P68 i (nm i) (nm (nx i)) (En nm i a b) := by
        intro hne
        apply h68
        refine ⟨⟨by omega, by omega⟩, rb, fun q => ?_, fun q1 => ⟨⟨by omega, by omega⟩, ra, fun q => ?_, fun q2 => ?_⟩⟩
        · have e0 : e1 (nm i) (nm (nx i)) a b = 0 := by
            unfold e1
            rw [if_neg hne, if_neg (fun w => q w.1)]
          rw [e0] at h9
          exact h9
        · have e0 : e1 (nm i) (nm (nx i)) a b = 0 := by
            unfold e1
            rw [if_neg hne, if_neg (fun w => q w.2)]
          rw [e0] at h9
          exact h9
        · have e0 : e1 (nm i) (nm (nx i)) a b = -1 := by
            unfold e1
            rw [if_neg hne, if_pos ⟨q1, q2⟩]
          rw [e0] at h9
          exact h9
      have p48 : P48 (En nm i a b) i (nm i) (nx i) := by
        apply h48
        refine ⟨⟨hx.1, by omega⟩, ⟨by omega, by omega⟩, ra, fun q => p68 (fun w => q w.1), fun q1 => ⟨⟨by omega, by omega⟩, rb, fun q => p68 (fun w => q w.2), fun q2 => ?_⟩⟩
        have e0 : e1 (nm i) (nm (nx i)) a b = 1 := by
          unfold e1
          rw [if_pos ⟨q1, q2⟩]
        rw [e0] at h9
        exact h9
      apply h5
      have hm : Int.tmod (i : Int) 3 = (i : Int) % 3 := Int.tmod_eq_emod_of_nonneg (by omega)
      refine ⟨⟨by omega, by omega⟩, ⟨by omega, by omega⟩, fun q => by omega, fun _ => ⟨⟨by omega, by omega⟩, ⟨by omega, by omega⟩, fun q => ?_, fun q => ?_⟩⟩
      · rw [show nx (i : Int) = i + 1 from if_neg q] at p48
        exact p48
      · rw [show nx (i : Int) = i - 2 from if_pos q] at p48
        exact p48
  exact key (3 * n) 0 (by omega)
