/-! ===== MEANING 16: the class sorts cells ===== -/
theorem m_between {l y : Int} {s0 : s_So} {s1 : s_Sl} {so : Int → Int → Int → Bool} {Q : Int → Prop} (hs : SlOk s1 so) (hl : sm3 l) (hy : sm3 y) (hk : 0 ≤ gSo_skin s0 ∧ gSo_skin s0 ≤ 3) (h : ∀ r : Int, row r → (∀ x : Nat, x < 12 → (bt r x = true ↔ ∀ d : Nat, d < (gSo_skin s0).toNat → so (l - (d + 1)) x y = true ∧ so (l + (d + 1)) x y = true)) → Q r) : wp_So_rowBetweenSolid l y s0 s1 Q := by
  unfold wp_So_rowBetweenSolid
  intro P8 h8
  have key : ∀ (k v : Nat) (v4 : Int), v + k = (gSo_skin s0).toNat → row v4 → (∀ x : Nat, x < 12 → (bt v4 x = true ↔ ∀ d : Nat, d < v → so (l - (d + 1)) x y = true ∧ so (l + (d + 1)) x y = true)) → P8 v4 ((v : Int) + 1) := by
    intro k
    induction k with
    | zero =>
      intro v v4 hv h4 hb
      apply h8
      have e : v = (gSo_skin s0).toNat := by omega
      subst e
      exact ⟨⟨by omega, by omega⟩, ⟨by omega, by omega⟩, fun _ => h v4 h4 hb, fun q => by omega⟩
    | succ k ih =>
      intro v v4 hv h4 hb
      apply h8
      refine ⟨⟨by omega, by omega⟩, ⟨by omega, by omega⟩, fun q => by omega, fun _ => ?_⟩
      refine m_solidRow hs ⟨by omega, by omega⟩ ⟨by omega, by omega⟩ (fun r1 hr1 hb1 => ?_)
      refine m_solidRow hs ⟨by omega, by omega⟩ ⟨by omega, by omega⟩ (fun r2 hr2 hb2 => ?_)
      refine ih (v + 1) _ (by omega) (row_and h4) (fun x hx => ?_)
      rw [bt_and, bt_and, Bool.and_eq_true, Bool.and_eq_true, hb x hx, hb1, hb2]
      constructor
      · rintro ⟨q1, q2, q3⟩ d hd
        by_cases e : d = v
        · subst e
          exact ⟨q2, q3⟩
        · exact q1 d (by omega)
      · intro q
        exact ⟨fun d hd => q d (by omega), (q v (by omega)).1, (q v (by omega)).2⟩
  exact key (gSo_skin s0).toNat 0 4095 (by omega) row_full (fun x hx => by
    rw [bt_full (by omega), decide_eq_true_eq]
    exact ⟨fun _ d hd => by omega, fun _ => hx⟩)
theorem m_line {l y : Int} {s0 : s_So} {Q : Int → Prop} (hl : 0 ≤ l ∧ l ≤ 24) (hy : 0 ≤ y ∧ y < 12) (hp : 0 ≤ gSo_period s0 ∧ gSo_period s0 ≤ 6) (h : ∀ r : Int, row r → (∀ x : Nat, x < 12 → (bt r x = true ↔ 0 < gSo_period s0 ∧ Int.tmod (if Int.tmod l 2 = 0 then (x : Int) else y) (gSo_period s0) = 0)) → Q r) : wp_So_lineCells l y s0 Q := by
  unfold wp_So_lineCells
  intro P38 h38
  generalize hpe : gSo_period s0 = pe at *
  have rp : rg pe := ⟨by omega, by omega⟩
  have ht : Int.tmod l 2 = l % 2 := Int.tmod_eq_emod_of_nonneg hl.1
  refine ⟨rp, fun q0 => ⟨⟨by omega, by omega⟩, by rw [ht]; exact ⟨by omega, by omega⟩, fun q1 => ?_, fun q1 => ⟨⟨by omega, by omega⟩, by omega, tmod_rg _ _ (by omega), fun q2 => ?_, fun q2 => ?_⟩⟩, fun q0 => ?_⟩
  · have e0 : Int.tmod l 2 = 0 := by rw [ht] at q1 ⊢; omega
    have key : ∀ (k : Nat) (v3 v4 : Int), 0 ≤ v4 → 12 - v4 ≤ k → v4 < 18 → v4 % pe = 0 → row v3 → (∀ x : Nat, x < 12 → (bt v3 x = true ↔ (x : Int) < v4 ∧ (x : Int) % pe = 0)) → P38 v3 v4 := by
      intro k
      induction k with
      | zero =>
        intro v3 v4 h0 h1 h2 hm h3 hb
        apply h38
        refine ⟨⟨by omega, by omega⟩, fun _ => h v3 h3 (fun x hx => ?_), fun q => by omega⟩
        rw [hb x hx, if_pos e0, Int.tmod_eq_emod_of_nonneg (by omega)]
        exact ⟨fun q => ⟨by omega, q.2⟩, fun q => ⟨by omega, q.2⟩⟩
      | succ k ih =>
        intro v3 v4 h0 h1 h2 hm h3 hb
        apply h38
        refine ⟨⟨by omega, by omega⟩, fun q => h v3 h3 (fun x hx => ?_), fun q => ⟨⟨by omega, by omega⟩, ?_⟩⟩
        · rw [hb x hx, if_pos e0, Int.tmod_eq_emod_of_nonneg (by omega)]
          exact ⟨fun q => ⟨by omega, q.2⟩, fun q => ⟨by omega, q.2⟩⟩
        · obtain ⟨w, rfl⟩ := Int.eq_ofNat_of_zero_le h0
          have hbit : ∀ x : Nat, x < 32 → bt (1 * 2 ^ Int.toNat (w : Int)) x = decide (x = w) := by
            intro x hx
            rw [Int.toNat_natCast, bt_shl (by omega) w hx]
            by_cases z : w ≤ x
            · rw [bt_one (by omega), decide_eq_true z, Bool.true_and]
              congr 1
              apply propext
              omega
            · rw [decide_eq_false z, Bool.false_and, decide_eq_false (by omega)]
          refine ih _ _ (by omega) (by omega) (by omega) ?_ (row_of (ior_rg _ _) (fun i i1 i2 => ?_)) (fun x hx => ?_)
          · rw [Int.add_emod_right]
            exact hm
          · rw [bt_or, row_hi h3 i1, hbit i i2, decide_eq_false (by omega)]
            rfl
          · rw [bt_or, hbit x (by omega), Bool.or_eq_true, decide_eq_true_eq, hb x hx]
            constructor
            · rintro (⟨a, b⟩ | a)
              · exact ⟨by omega, b⟩
              · subst a
                exact ⟨by omega, hm⟩
            · rintro ⟨a, b⟩
              by_cases z : (x : Int) < w
              · exact Or.inl ⟨z, b⟩
              · right
                rcases (show pe = 1 ∨ pe = 2 ∨ pe = 3 ∨ pe = 4 ∨ pe = 5 ∨ pe = 6 by omega) with e | e | e | e | e | e <;> subst e <;> omega
    refine key 12 0 0 (by omega) (by omega) (by omega) (Int.zero_emod _) row_0 (fun x hx => ?_)
    rw [bt_z]
    exact ⟨fun q => (by cases q), fun q => by omega⟩
  · refine h 0 row_0 (fun x hx => ?_)
    rw [bt_z, if_neg (by rw [q1]; decide)]
    exact ⟨fun q => (by cases q), fun q => absurd q.2 q2⟩
  · refine h 4095 row_full (fun x hx => ?_)
    rw [bt_full (by omega), if_neg (by rw [q1]; decide), decide_eq_true_eq]
    exact ⟨fun _ => ⟨by omega, q2⟩, fun _ => hx⟩
  · refine h 0 row_0 (fun x hx => ?_)
    rw [bt_z]
    exact ⟨fun q => (by cases q), fun q => by omega⟩
