/-! ===== MEANING 14: the reference's kindOf ===== -/
theorem uhg_s (so : Int → Int → Int → Bool) (re : Nat) {n v : Int} (x y : Int) (h : v < n) : uhg so re n x y (n - v).toNat = if so v x y then hgs so re v x y else uhg so re n x y (n - (v + 1)).toNat := by
  have e : (n - v).toNat = (n - (v + 1)).toNat + 1 := by omega
  rw [e]
  show (if so (n - 1 - ((n - (v + 1)).toNat : Int)) x y then hgs so re (n - 1 - ((n - (v + 1)).toNat : Int)) x y else uhg so re n x y (n - (v + 1)).toNat) = _
  rw [show n - 1 - ((n - (v + 1)).toNat : Int) = v by omega]
theorem tmod_rg (a b : Int) (h : 0 < b ∧ b ≤ 1000) : rg (Int.tmod a b) := by
  rcases Int.le_total 0 a with q | q
  · rw [Int.tmod_eq_emod_of_nonneg q]
    have h1 := Int.emod_nonneg a (show b ≠ 0 by omega)
    have h2 := Int.emod_lt_of_pos a h.1
    exact ⟨by omega, by omega⟩
  · have e : Int.tmod a b = - Int.tmod (-a) b := by rw [Int.neg_tmod, Int.neg_neg]
    rw [e, Int.tmod_eq_emod_of_nonneg (by omega)]
    have h1 := Int.emod_nonneg (-a) (show b ≠ 0 by omega)
    have h2 := Int.emod_lt_of_pos (-a) h.1
    exact ⟨by omega, by omega⟩
theorem m_kindOf {l x y : Int} {s0 : s_Mo} {Q : Int → Prop} (hk : kOk s0) (hl : sm3 l) (hx : sm3 x) (hy : sm3 y) (h : Q (kdm s0 l x y)) : wp_Mo_kindOf l x y s0 Q := by
  have hk0 := hk
  obtain ⟨hly, -, hsh, hsk, hpe, hre, hga⟩ := hk
  have rl : rg l := ⟨by omega, by omega⟩
  have rx : rg x := ⟨by omega, by omega⟩
  have ry : rg y := ⟨by omega, by omega⟩
  unfold wp_Mo_kindOf
  intro P51 P77 P159 h51 h77 h159
  unfold kdm kd at h
  by_cases hg : 0 ≤ l ∧ l < gMo_layers s0 ∧ 0 ≤ x ∧ x < 12 ∧ 0 ≤ y ∧ y < 12
  · rw [if_neg (fun q => q hg)] at h
    obtain ⟨g1, g2, g3, g4, g5, g6⟩ := hg
    refine m_in1 rl (by decide) ⟨by omega, by omega⟩ g1 (by omega) ⟨by decide, fun q => absurd q (by decide), fun _ => ?_⟩
    refine m_in1 rx (by decide) (by decide) g3 (by omega) ⟨by decide, fun q => absurd q (by decide), fun _ => ?_⟩
    refine m_in1 ry (by decide) (by decide) g5 (by omega) ⟨by decide, fun _ => ?_, fun q => absurd q (by decide)⟩
    refine m_isSolid hk0 rl rx ry ?_
    cases hs : som s0 l x y with
    | false =>
      refine ⟨by decide, fun q => absurd rfl q, fun _ => ?_⟩
      rw [if_pos hs] at h
      -- what an answer 'hangs' leads to
      have res : ∀ v : Int, sm3 v → Q (if hgs (som s0) (gMo_reach s0).toNat v x y = false then 0 else if 0 < (gMo_gap s0).toNat ∧ 0 < cnt (som s0 l) x y (gMo_gap s0).toNat then 6 else 5) → P77 v := by
        intro v hv hq
        apply h77
        refine m_hangs hk0 hv hx hy ?_
        cases hh : hgs (som s0) (gMo_reach s0).toNat v x y with
        | false =>
          rw [hh, if_pos rfl] at hq
          exact ⟨by decide, fun q => absurd rfl q, fun _ => hq⟩
        | true =>
          rw [hh, if_neg (by decide)] at hq
          refine ⟨by decide, fun _ => ⟨⟨by omega, by omega⟩, fun q => ?_, fun q => ?_⟩, fun q => absurd q (by decide)⟩
          · rw [if_neg (by omega)] at hq
            exact hq
          · have hnn := cnt_nn (som s0 l) x y (gMo_gap s0).toNat
            have hle : cnt (som s0 l) x y (gMo_gap s0).toNat ≤ 1000 := cnt_le _ _ _ (by omega)
            refine m_around hk0 hl hx hy ⟨by omega, by omega⟩ ⟨⟨by omega, by omega⟩, fun q2 => ?_, fun q2 => ?_⟩
            · rw [if_neg (by omega)] at hq
              exact hq
            · rw [if_pos ⟨by omega, q2⟩] at hq
              exact hq
      have key : ∀ k : Nat, ∀ v : Int, 0 ≤ v → v ≤ gMo_layers s0 → gMo_layers s0 - v = k → Q (if uhg (som s0) (gMo_reach s0).toNat (gMo_layers s0) x y (gMo_layers s0 - v).toNat = false then 0 else if 0 < (gMo_gap s0).toNat ∧ 0 < cnt (som s0 l) x y (gMo_gap s0).toNat then 6 else 5) → P51 v := by
        intro k
        induction k with
        | zero =>
          intro v v1 v2 v3 hq
          have e : v = gMo_layers s0 := by omega
          have e2 : (gMo_layers s0 - v).toNat = 0 := by omega
          rw [e2] at hq
          have hq : Q 0 := hq
          apply h51
          refine ⟨⟨by omega, by omega⟩, ⟨by omega, by omega⟩, fun _ => ?_, fun q => by omega⟩
          refine res v ⟨by omega, by omega⟩ ?_
          have hz : hgs (som s0) (gMo_reach s0).toNat v x y = false := by
            unfold hgs
            rw [show som s0 v x y = false from sol_out (by omega), Bool.and_false, Bool.false_and]
          rw [hz, if_pos rfl]
          exact hq
        | succ k ih =>
          intro v v1 v2 v3 hq
          rw [uhg_s _ _ _ _ (by omega)] at hq
          apply h51
          refine ⟨⟨by omega, by omega⟩, ⟨by omega, by omega⟩, fun q => by omega, fun _ => ?_⟩
          refine m_isSolid hk0 ⟨by omega, by omega⟩ rx ry ?_
          cases hv : som s0 v x y with
          | false =>
            rw [hv] at hq
            refine ⟨by decide, fun q => absurd rfl q, fun _ => ?_⟩
            exact ih (v + 1) (by omega) (by omega) (by omega) hq
          | true =>
            rw [hv] at hq
            exact ⟨by decide, fun _ => res v ⟨by omega, by omega⟩ hq, fun q => absurd q (by decide)⟩
      refine key (gMo_layers s0 - (l + 1)).toNat (l + 1) (by omega) (by omega) (by omega) ?_
      rw [show gMo_layers s0 - (l + 1) = gMo_layers s0 - 1 - l by omega]
      exact h
    | true =>
      refine ⟨by decide, fun _ => ?_, fun q => absurd q (by decide)⟩
      rw [if_neg (by rw [hs]; decide)] at h
      have tail : Q (if ∃ d : Fin (gMo_skin s0).toNat, som s0 (l - (d + 1)) x y = false ∨ som s0 (l + (d + 1)) x y = false then 2 else if 0 < gMo_period s0 ∧ Int.tmod (if Int.tmod l 2 = 0 then x else y) (gMo_period s0) = 0 then 3 else 4) → P159 1 := by
        intro hq
        have key : ∀ k v : Nat, v + k = (gMo_skin s0).toNat → (∀ d : Nat, d < v → som s0 (l - (d + 1)) x y = true ∧ som s0 (l + (d + 1)) x y = true) → P159 ((v : Int) + 1) := by
          intro k
          induction k with
          | zero =>
            intro v hv hall
            rw [if_neg (fun ⟨d, hd⟩ => by
              have h3 := hall d.val (by have := d.isLt; omega)
              rcases hd with hd | hd
              · rw [h3.1] at hd; cases hd
              · rw [h3.2] at hd; cases hd)] at hq
            apply h159
            refine ⟨⟨by omega, by omega⟩, ⟨by omega, by omega⟩, fun _ => ⟨⟨by omega, by omega⟩, fun q => ?_, fun q => ⟨rl, tmod_rg _ _ (by omega), fun q2 => ⟨ry, q, tmod_rg _ _ (by omega), fun q3 => ?_, fun q3 => ?_⟩, fun q2 => ⟨rx, q, tmod_rg _ _ (by omega), fun q3 => ?_, fun q3 => ?_⟩⟩⟩, fun q => by omega⟩
            · rw [if_neg (by omega)] at hq
              exact hq
            · rw [if_neg q2, if_neg (fun z => q3 z.2)] at hq
              exact hq
            · rw [if_neg q2, if_pos ⟨q, q3⟩] at hq
              exact hq
            · rw [if_pos q2, if_neg (fun z => q3 z.2)] at hq
              exact hq
            · rw [if_pos q2, if_pos ⟨q, q3⟩] at hq
              exact hq
          | succ k ih =>
            intro v hv hall
            have hQ2 : som s0 (l - (v + 1)) x y = false ∨ som s0 (l + (v + 1)) x y = false → Q 2 := by
              intro hz
              rw [if_pos ⟨⟨v, by omega⟩, hz⟩] at hq
              exact hq
            apply h159
            refine ⟨⟨by omega, by omega⟩, ⟨by omega, by omega⟩, fun q => by omega, fun _ => ?_⟩
            refine m_isSolid hk0 ⟨by omega, by omega⟩ rx ry ?_
            cases h1 : som s0 (l - ((v : Int) + 1)) x y with
            | false => exact ⟨by decide, fun _ => hQ2 (Or.inl h1), fun q => absurd rfl q⟩
            | true =>
              refine ⟨by decide, fun q => absurd q (by decide), fun _ => ?_⟩
              refine m_isSolid hk0 ⟨by omega, by omega⟩ rx ry ?_
              cases h2 : som s0 (l + ((v : Int) + 1)) x y with
              | false => exact ⟨by decide, fun q => absurd rfl q, fun _ => hQ2 (Or.inr h2)⟩
              | true =>
                refine ⟨by decide, fun _ => ?_, fun q => absurd q (by decide)⟩
                refine ih (v + 1) (by omega) (fun d hd => ?_)
                by_cases e : d = v
                · subst e
                  exact ⟨h1, h2⟩
                · exact hall d (by omega)
        exact key (gMo_skin s0).toNat 0 (by omega) (fun d hd => by omega)
      refine ⟨⟨by omega, by omega⟩, fun q => ?_, fun q => ?_⟩
      · rw [if_neg (by omega)] at h
        exact tail h
      · have hnn := cnt_nn (som s0 l) x y (gMo_shell s0).toNat
        have hle : cnt (som s0 l) x y (gMo_shell s0).toNat ≤ 1000 := cnt_le _ _ _ (by omega)
        have hf : (2 * gMo_shell s0 + 1) * (2 * gMo_shell s0 + 1) = (2 * ((gMo_shell s0).toNat : Int) + 1) * (2 * ((gMo_shell s0).toNat : Int) + 1) := by rw [show ((gMo_shell s0).toNat : Int) = gMo_shell s0 by omega]
        have hs2 : rg ((2 * gMo_shell s0 + 1) * (2 * gMo_shell s0 + 1)) := by
          rcases (show gMo_shell s0 = 0 ∨ gMo_shell s0 = 1 ∨ gMo_shell s0 = 2 ∨ gMo_shell s0 = 3 by omega) with e | e | e | e <;> rw [e] <;> decide
        refine m_around hk0 hl hx hy hsh ⟨⟨by omega, by omega⟩, hs2, fun q2 => ?_, fun q2 => ?_⟩
        · rw [hf] at q2
          rw [if_neg (by omega)] at h
          exact tail h
        · rw [hf] at q2
          rw [if_pos ⟨by omega, q2⟩] at h
          exact h
  · rw [if_pos hg] at h
    clear h51 h77 h159
    refine m_in rl (by decide) ⟨by omega, by omega⟩ (fun q1 q2 => ⟨by decide, fun q => absurd q (by decide), fun _ => ?_⟩) (fun _ => ⟨by decide, fun _ => h, fun q => absurd rfl q⟩)
    refine m_in rx (by decide) (by decide) (fun q3 q4 => ⟨by decide, fun q => absurd q (by decide), fun _ => ?_⟩) (fun _ => ⟨by decide, fun _ => h, fun q => absurd rfl q⟩)
    exact m_in0 ry (by decide) (by decide) (by omega) ⟨by decide, fun q => absurd rfl q, fun _ => h⟩
