/-! ===== MEANING 31: triangles on one line are dropped ===== -/
def cr (A B : Int → Int) (a b c : Int) : Prop := (A b - A a) * (B c - B a) = (B b - B a) * (A c - A a)
/-- on one line -/
def flt (px py pz : Int → Int) (a b c : Int) : Bool := decide (((py b - py a) * (pz c - pz a) = (pz b - pz a) * (py c - py a)) ∧ ((pz b - pz a) * (px c - px a) = (px b - px a) * (pz c - pz a)) ∧ ((px b - px a) * (py c - py a) = (py b - py a) * (px c - px a)))
theorem flt_ne {px py pz : Int → Int} {a b c : Int} (h : flt px py pz a b c = false) : a ≠ b ∧ b ≠ c ∧ c ≠ a := by
  unfold flt at h
  have h := of_decide_eq_false h
  refine ⟨fun e => h ?_, fun e => h ?_, fun e => h ?_⟩
  · subst e
    simp only [Int.sub_self, Int.zero_mul, and_self]
  · subst e
    exact ⟨Int.mul_comm _ _, Int.mul_comm _ _, Int.mul_comm _ _⟩
  · subst e
    simp only [Int.sub_self, Int.mul_zero, and_self]
theorem pr_rg {a b c d : Int} (ha : 0 ≤ a ∧ a ≤ 120) (hb : 0 ≤ b ∧ b ≤ 120) (hc : 0 ≤ c ∧ c ≤ 120) (hd : 0 ≤ d ∧ d ≤ 120) : rg ((a - b) * (c - d)) := by
  have := mb (a := a - b) (b := c - d) (A := 120) (B := 120) ⟨by omega, by omega⟩ ⟨by omega, by omega⟩
  exact ⟨by omega, by omega⟩
theorem m_onOneLine {a b c : Int} {s0 : s_Me} {Q : Int → Prop} (ha : 0 ≤ a ∧ a < 80) (hb : 0 ≤ b ∧ b < 80) (hc : 0 ≤ c ∧ c < 80) (hp : Plc (gMe_x s0) (gMe_y s0) (gMe_z s0)) (h : Q (b01 (flt (gMe_x s0) (gMe_y s0) (gMe_z s0) a b c))) : wp_Me_onOneLine a b c s0 Q := by
  obtain ⟨x1, y1, z1⟩ := hp a
  obtain ⟨x2, y2, z2⟩ := hp b
  obtain ⟨x3, y3, z3⟩ := hp c
  unfold wp_Me_onOneLine
  unfold flt at h
  refine ⟨hb, ha, hc, pr_rg y2 y1 z3 z1, pr_rg z2 z1 y3 y1, fun q => ?_, fun q1 => ⟨pr_rg z2 z1 x3 x1, pr_rg x2 x1 z3 z1, fun q => ?_, fun q2 => ⟨pr_rg x2 x1 y3 y1, pr_rg y2 y1 x3 x1, fun q => ?_, fun q3 => ?_⟩⟩⟩
  · rw [decide_eq_false (fun w => q w.1)] at h
    exact h
  · rw [decide_eq_false (fun w => q w.2.1)] at h
    exact h
  · rw [decide_eq_false (fun w => q w.2.2)] at h
    exact h
  · rw [decide_eq_true ⟨q1, q2, q3⟩] at h
    exact h
theorem m_isFlat {t a b c : Int} {s0 : s_Mo} {Q : Int → Prop} (ht : 0 ≤ t ∧ t < 120) (ea : gMo_named s0 (3 * t) = a) (eb : gMo_named s0 (3 * t + 1) = b) (ec : gMo_named s0 (3 * t + 2) = c) (ha : 0 ≤ a ∧ a < 80) (hb : 0 ≤ b ∧ b < 80) (hc : 0 ≤ c ∧ c < 80) (hp : Plc (gMo_px s0) (gMo_py s0) (gMo_pz s0)) (h : Q (b01 (flt (gMo_px s0) (gMo_py s0) (gMo_pz s0) a b c))) : wp_Mo_isFlat t s0 Q := by
  obtain ⟨x1, y1, z1⟩ := hp a
  obtain ⟨x2, y2, z2⟩ := hp b
  obtain ⟨x3, y3, z3⟩ := hp c
  unfold wp_Mo_isFlat
  rw [ea, eb, ec]
  unfold flt at h
  refine ⟨⟨by omega, by omega⟩, ⟨by omega, by omega⟩, ⟨by omega, by omega⟩, hb, ha, hc, pr_rg y2 y1 z3 z1, pr_rg z2 z1 y3 y1, fun q => ?_, fun q1 => ⟨pr_rg z2 z1 x3 x1, pr_rg x2 x1 z3 z1, fun q => ?_, fun q2 => ⟨pr_rg x2 x1 y3 y1, pr_rg y2 y1 x3 x1, fun q => ?_, fun q3 => ?_⟩⟩⟩
  · rw [decide_eq_false (fun w => q w.1)] at h
    exact h
  · rw [decide_eq_false (fun w => q w.2.1)] at h
    exact h
  · rw [decide_eq_false (fun w => q w.2.2)] at h
    exact h
  · rw [decide_eq_true ⟨q1, q2, q3⟩] at h
    exact h
/-- three names of the k-th triangle -/
def ad3 (m : Int → Int) (k a b c : Int) : Int → Int := iset (iset (iset m (3 * k) a) (3 * k + 1) b) (3 * k + 2) c
theorem ad3_0 (m : Int → Int) (k a b c : Int) : ad3 m k a b c (3 * k) = a := by
  unfold ad3
  rw [iset_n _ _ (by omega), iset_n _ _ (by omega), iset_s]
theorem ad3_1 (m : Int → Int) (k a b c : Int) : ad3 m k a b c (3 * k + 1) = b := by
  unfold ad3
  rw [iset_n _ _ (by omega), iset_s]
theorem ad3_2 (m : Int → Int) (k a b c : Int) : ad3 m k a b c (3 * k + 2) = c := by
  unfold ad3
  rw [iset_s]
theorem ad3_n (m : Int → Int) (k a b c : Int) {j : Int} (h : j < 3 * k ∨ 3 * k + 3 ≤ j) : ad3 m k a b c j = m j := by
  unfold ad3
  rw [iset_n _ _ (by omega), iset_n _ _ (by omega), iset_n _ _ (by omega)]
theorem ad3_in {m : Int → Int} {k a b c nc : Int} {j : Int} (h : j < 3 * k ∨ 3 * k + 3 ≤ j → 0 ≤ m j ∧ m j < nc) (ha : 0 ≤ a ∧ a < nc) (hb : 0 ≤ b ∧ b < nc) (hc : 0 ≤ c ∧ c < nc) : 0 ≤ ad3 m k a b c j ∧ ad3 m k a b c j < nc := by
  by_cases e0 : j = 3 * k
  · rw [e0, ad3_0]; exact ha
  · by_cases e1 : j = 3 * k + 1
    · rw [e1, ad3_1]; exact hb
    · by_cases e2 : j = 3 * k + 2
      · rw [e2, ad3_2]; exact hc
      · rw [ad3_n _ _ _ _ _ (by omega)]
        exact h (by omega)
/-- what is left after t triangles -/
def dk (f : Int → Int → Int → Bool) (nm : Int → Int) : Nat → (Int → Int) × Nat
  | 0 => (nm, 0)
  | t + 1 => if f ((dk f nm t).1 (3 * t)) ((dk f nm t).1 (3 * t + 1)) ((dk f nm t).1 (3 * t + 2)) = true then dk f nm t else (ad3 (dk f nm t).1 (dk f nm t).2 ((dk f nm t).1 (3 * t)) ((dk f nm t).1 (3 * t + 1)) ((dk f nm t).1 (3 * t + 2)), (dk f nm t).2 + 1)
theorem dk_s (f : Int → Int → Int → Bool) (nm : Int → Int) (t : Nat) : dk f nm (t + 1) = if f ((dk f nm t).1 (3 * t)) ((dk f nm t).1 (3 * t + 1)) ((dk f nm t).1 (3 * t + 2)) = true then dk f nm t else (ad3 (dk f nm t).1 (dk f nm t).2 ((dk f nm t).1 (3 * t)) ((dk f nm t).1 (3 * t + 1)) ((dk f nm t).1 (3 * t + 2)), (dk f nm t).2 + 1) := rfl
theorem dk_le (f : Int → Int → Int → Bool) (nm : Int → Int) : ∀ t : Nat, (dk f nm t).2 ≤ t
  | 0 => Nat.le_refl _
  | t + 1 => by
    have := dk_le f nm t
    rw [dk_s]
    split
    · omega
    · show (dk f nm t).2 + 1 ≤ t + 1
      omega
theorem dk_in {f : Int → Int → Int → Bool} {nm : Int → Int} {nc n : Int} (h : ∀ i : Int, 0 ≤ i → i < n → 0 ≤ nm i ∧ nm i < nc) : ∀ t : Nat, 3 * (t : Int) ≤ n → ∀ i : Int, 0 ≤ i → i < n → 0 ≤ (dk f nm t).1 i ∧ (dk f nm t).1 i < nc
  | 0, _ => h
  | t + 1, ht => by
    intro i i1 i2
    have ih := dk_in (f := f) h t (by omega)
    rw [dk_s]
    split
    · exact ih i i1 i2
    · exact ad3_in (fun _ => ih i i1 i2) (ih _ (by omega) (by omega)) (ih _ (by omega) (by omega)) (ih _ (by omega) (by omega))
theorem dk_ok (f : Int → Int → Int → Bool) (nm : Int → Int) : ∀ (t k : Nat), k < (dk f nm t).2 → f ((dk f nm t).1 (3 * k)) ((dk f nm t).1 (3 * k + 1)) ((dk f nm t).1 (3 * k + 2)) = false
  | 0, k => fun h => absurd h (Nat.not_lt_zero k)
  | t + 1, k => by
    have ih := dk_ok f nm t k
    rw [dk_s]
    split
    · exact ih
    · rename_i hf
      intro hk
      have hk : k < (dk f nm t).2 + 1 := hk
      show f (ad3 (dk f nm t).1 (dk f nm t).2 _ _ _ (3 * k)) (ad3 (dk f nm t).1 (dk f nm t).2 _ _ _ (3 * k + 1)) (ad3 (dk f nm t).1 (dk f nm t).2 _ _ _ (3 * k + 2)) = false
      by_cases e : k = (dk f nm t).2
      · rw [e, ad3_0, ad3_1, ad3_2]
        cases hc : f ((dk f nm t).1 (3 * t)) ((dk f nm t).1 (3 * t + 1)) ((dk f nm t).1 (3 * t + 2)) with
        | false => rfl
        | true => exact absurd hc hf
      · rw [ad3_n _ _ _ _ _ (by omega), ad3_n _ _ _ _ _ (by omega), ad3_n _ _ _ _ _ (by omega)]
        exact ih (by omega)
theorem m_dropTriangles {s0 : s_Mn} {s1 : s_Me} {nm : Int → Int} {n nc : Nat} {Q : s_Mn → s_Me → Prop} (hp : Plc (gMe_x s1) (gMe_y s1) (gMe_z s1)) (enm : gMe_named s1 = nm) (hc2 : nc ≤ 80) (hn : gMe_triangles s1 = n) (hn2 : n ≤ 120) (hr : ∀ i : Int, 0 ≤ i → i < 3 * n → 0 ≤ nm i ∧ nm i < nc)
    (h : Q (mkMn (gMn_joined s0) (gMn_dropped s0 + ((n : Int) - (dk (flt (gMe_x s1) (gMe_y s1) (gMe_z s1)) nm n).2)) (gMn_closed s0) (gMn_lowestHere s0) (gMn_counted s0) (gMn_balance s0) (gMn_openFrom s0) (gMn_hole s0)) (mkMe (gMe_x s1) (gMe_y s1) (gMe_z s1) (gMe_corners s1) (dk (flt (gMe_x s1) (gMe_y s1) (gMe_z s1)) nm n).1 (dk (flt (gMe_x s1) (gMe_y s1) (gMe_z s1)) nm n).2)) : wp_Mn_dropTriangles s0 s1 Q := by
  unfold wp_Mn_dropTriangles
  intro P4 h4
  generalize hf : flt (gMe_x s1) (gMe_y s1) (gMe_z s1) = f at h
  have key : ∀ (k t : Nat), t + k = n → P4 (dk f nm t).2 t s0 (mkMe (gMe_x s1) (gMe_y s1) (gMe_z s1) (gMe_corners s1) (dk f nm t).1 (gMe_triangles s1)) := by
    intro k
    induction k with
    | zero =>
      intro t e
      have e : t = n := by omega
      subst e
      apply h4
      refine ⟨⟨by omega, by omega⟩, ⟨by show -2147483648 ≤ gMe_triangles s1; omega, by show gMe_triangles s1 ≤ 2147483647; omega⟩, fun _ => ?_, fun q => ?_⟩
      · show Q (mkMn (gMn_joined s0) (gMn_dropped s0 + (gMe_triangles s1 - _)) _ _ _ _ _ _) _
        rw [hn]
        exact h
      · have q : (t : Int) < gMe_triangles s1 := q
        omega
    | succ k ih =>
      intro t e
      have h9 := ih (t + 1) (by omega)
      rw [dk_s] at h9
      have hle := dk_le f nm t
      have hi := dk_in (f := f) hr t (by omega)
      have i0 := hi (3 * t) (by omega) (by omega)
      have i1 := hi (3 * t + 1) (by omega) (by omega)
      have i2 := hi (3 * t + 2) (by omega) (by omega)
      apply h4
      refine ⟨⟨by omega, by omega⟩, ⟨by show -2147483648 ≤ gMe_triangles s1; omega, by show gMe_triangles s1 ≤ 2147483647; omega⟩, fun q => ?_, fun _ => ⟨⟨by omega, by omega⟩, ⟨by omega, by omega⟩, ⟨by omega, by omega⟩, m_onOneLine ⟨i0.1, by show (dk f nm t).1 (3 * t) < 80; omega⟩ ⟨i1.1, by show (dk f nm t).1 (3 * t + 1) < 80; omega⟩ ⟨i2.1, by show (dk f nm t).1 (3 * t + 2) < 80; omega⟩ hp ?_⟩⟩
      · have q : gMe_triangles s1 ≤ (t : Int) := q
        omega
      · show rg (b01 (flt (gMe_x s1) (gMe_y s1) (gMe_z s1) ((dk f nm t).1 (3 * t)) ((dk f nm t).1 (3 * t + 1)) ((dk f nm t).1 (3 * t + 2)))) ∧ (b01 (flt (gMe_x s1) (gMe_y s1) (gMe_z s1) ((dk f nm t).1 (3 * t)) ((dk f nm t).1 (3 * t + 1)) ((dk f nm t).1 (3 * t + 2))) ≠ 0 → _) ∧ (b01 (flt (gMe_x s1) (gMe_y s1) (gMe_z s1) ((dk f nm t).1 (3 * t)) ((dk f nm t).1 (3 * t + 1)) ((dk f nm t).1 (3 * t + 2))) = 0 → _)
        rw [hf]
        refine ⟨b01_r _, fun q => ?_, fun q => ?_⟩
        · rw [if_pos ((b01_eq1 _).mp ((b01_01 _).resolve_left q))] at h9
          exact h9
        · rw [b01_eq0] at q
          rw [q, if_neg (by decide)] at h9
          exact ⟨⟨by omega, by omega⟩, ⟨by omega, by omega⟩, ⟨by omega, by omega⟩, h9⟩
  have h9 := key n 0 (by omega)
  have e : (mkMe (gMe_x s1) (gMe_y s1) (gMe_z s1) (gMe_corners s1) (dk f nm 0).1 (gMe_triangles s1)) = s1 := by
    show mkMe (gMe_x s1) (gMe_y s1) (gMe_z s1) (gMe_corners s1) nm (gMe_triangles s1) = s1
    rw [← enm]
  rw [e] at h9
  exact h9
theorem ad3_c (m : Int → Int) {k t : Int} (h : k ≤ t) : iset (iset (iset m (3 * k + 0) (m (3 * t + 0))) (3 * k + 1) (iset m (3 * k + 0) (m (3 * t + 0)) (3 * t + 1))) (3 * k + 2) (iset (iset m (3 * k + 0) (m (3 * t + 0))) (3 * k + 1) (iset m (3 * k + 0) (m (3 * t + 0)) (3 * t + 1)) (3 * t + 2)) = ad3 m k (m (3 * t)) (m (3 * t + 1)) (m (3 * t + 2)) := by
  rw [iset_n (j := 3 * t + 2) _ _ (by omega), iset_n (j := 3 * t + 2) _ _ (by omega), iset_n (j := 3 * t + 1) _ _ (by omega), Int.add_zero, Int.add_zero]
  rfl
theorem m_Mo_drop {s0 : s_Mo} {nm : Int → Int} {n nc : Nat} {Q : s_Mo → Prop} (hp : Plc (gMo_px s0) (gMo_py s0) (gMo_pz s0)) (enm : gMo_named s0 = nm) (hc2 : nc ≤ 80) (hn : gMo_triangles s0 = n) (hn2 : n ≤ 120) (hr : ∀ i : Int, 0 ≤ i → i < 3 * n → 0 ≤ nm i ∧ nm i < nc)
    (h : Q (mkMo (gMo_thrown s0) (gMo_corners s0) (gMo_px s0) (gMo_py s0) (gMo_pz s0) (((dk (flt (gMo_px s0) (gMo_py s0) (gMo_pz s0)) nm n).2 : Int)) ((dk (flt (gMo_px s0) (gMo_py s0) (gMo_pz s0)) nm n).1) (gMo_joined s0) (gMo_dropped s0 + ((n : Int) - (dk (flt (gMo_px s0) (gMo_py s0) (gMo_pz s0)) nm n).2)) (gMo_closed s0) (gMo_layers s0) (gMo_thickness s0) (gMo_cuts s0) (gMo_cx s0) (gMo_cy s0) (gMo_cz s0) (gMo_solids s0) (gMo_shell s0) (gMo_skin s0) (gMo_period s0) (gMo_reach s0) (gMo_gap s0) (gMo_bytes s0) (gMo_played s0) (gMo_at s0) (gMo_program s0) (gMo_beads s0) (gMo_ring s0))) : wp_Mo_drop s0 Q := by
  unfold wp_Mo_drop
  intro P4 P25 h4 h25
  generalize hf : flt (gMo_px s0) (gMo_py s0) (gMo_pz s0) = f at h
  have key : ∀ (k t : Nat), t + k = n → P4 (dk f nm t).2 t (mkMo (gMo_thrown s0) (gMo_corners s0) (gMo_px s0) (gMo_py s0) (gMo_pz s0) (gMo_triangles s0) ((dk f nm t).1) (gMo_joined s0) (gMo_dropped s0) (gMo_closed s0) (gMo_layers s0) (gMo_thickness s0) (gMo_cuts s0) (gMo_cx s0) (gMo_cy s0) (gMo_cz s0) (gMo_solids s0) (gMo_shell s0) (gMo_skin s0) (gMo_period s0) (gMo_reach s0) (gMo_gap s0) (gMo_bytes s0) (gMo_played s0) (gMo_at s0) (gMo_program s0) (gMo_beads s0) (gMo_ring s0)) := by
    intro k
    induction k with
    | zero =>
      intro t e
      have e : t = n := by omega
      subst e
      apply h4
      refine ⟨⟨by omega, by omega⟩, ⟨by show -2147483648 ≤ gMo_triangles s0; omega, by show gMo_triangles s0 ≤ 2147483647; omega⟩, fun _ => ?_, fun q => ?_⟩
      · rw [← hn] at h
        exact h
      · have q : (t : Int) < gMo_triangles s0 := q
        omega
    | succ k ih =>
      intro t e
      have h9 := ih (t + 1) (by omega)
      rw [dk_s] at h9
      have hle := dk_le f nm t
      have hi := dk_in (f := f) hr t (by omega)
      have i0 := hi (3 * t) (by omega) (by omega)
      have i1 := hi (3 * t + 1) (by omega) (by omega)
      have i2 := hi (3 * t + 2) (by omega) (by omega)
      apply h4
      refine ⟨⟨by omega, by omega⟩, ⟨by show -2147483648 ≤ gMo_triangles s0; omega, by show gMo_triangles s0 ≤ 2147483647; omega⟩, fun q => ?_, fun _ => m_isFlat ⟨by omega, by omega⟩ rfl rfl rfl ⟨i0.1, by show (dk f nm t).1 (3 * t) < 80; omega⟩ ⟨i1.1, by show (dk f nm t).1 (3 * t + 1) < 80; omega⟩ ⟨i2.1, by show (dk f nm t).1 (3 * t + 2) < 80; omega⟩ hp ?_⟩
      · have q : gMo_triangles s0 ≤ (t : Int) := q
        omega
      · show rg (b01 (flt (gMo_px s0) (gMo_py s0) (gMo_pz s0) ((dk f nm t).1 (3 * t)) ((dk f nm t).1 (3 * t + 1)) ((dk f nm t).1 (3 * t + 2)))) ∧ (b01 (flt (gMo_px s0) (gMo_py s0) (gMo_pz s0) ((dk f nm t).1 (3 * t)) ((dk f nm t).1 (3 * t + 1)) ((dk f nm t).1 (3 * t + 2))) = 0 → _) ∧ (b01 (flt (gMo_px s0) (gMo_py s0) (gMo_pz s0) ((dk f nm t).1 (3 * t)) ((dk f nm t).1 (3 * t + 1)) ((dk f nm t).1 (3 * t + 2))) ≠ 0 → _)
        rw [hf]
        refine ⟨b01_r _, fun q => ?_, fun q => ?_⟩
        · rw [b01_eq0] at q
          rw [q, if_neg (by decide)] at h9
          apply h25
          refine ⟨by decide, fun q => absurd q (by decide), fun _ => ⟨⟨by omega, by omega⟩, ⟨by omega, by omega⟩, ?_⟩⟩
          apply h25
          refine ⟨by decide, fun q => absurd q (by decide), fun _ => ⟨⟨by omega, by omega⟩, ⟨by omega, by omega⟩, ?_⟩⟩
          apply h25
          refine ⟨by decide, fun q => absurd q (by decide), fun _ => ⟨⟨by omega, by omega⟩, ⟨by omega, by omega⟩, ?_⟩⟩
          apply h25
          refine ⟨by decide, fun _ => ?_, fun q => absurd q (by decide)⟩
          have ea := ad3_c (dk f nm t).1 (k := (dk f nm t).2) (t := t) (by omega)
          rw [← ea] at h9
          exact h9
        · rw [if_pos ((b01_eq1 _).mp ((b01_01 _).resolve_left q))] at h9
          exact h9
  have h9 := key n 0 (by omega)
  have h9 : P4 0 0 (mkMo (gMo_thrown s0) (gMo_corners s0) (gMo_px s0) (gMo_py s0) (gMo_pz s0) (gMo_triangles s0) (nm) (gMo_joined s0) (gMo_dropped s0) (gMo_closed s0) (gMo_layers s0) (gMo_thickness s0) (gMo_cuts s0) (gMo_cx s0) (gMo_cy s0) (gMo_cz s0) (gMo_solids s0) (gMo_shell s0) (gMo_skin s0) (gMo_period s0) (gMo_reach s0) (gMo_gap s0) (gMo_bytes s0) (gMo_played s0) (gMo_at s0) (gMo_program s0) (gMo_beads s0) (gMo_ring s0)) := h9
  rw [← enm] at h9
  exact h9
