/-! ===== MEANING 28: cells inside ===== -/
/-- parity -/
def prt (f : Int → Bool) : Nat → Bool
  | 0 => false
  | n + 1 => prt f n ^^ f n
/-- a triangle that is cut to the left of the cell -/
def cl3 (cx cy cz : Int → Int) (H x y t : Int) : Bool := isC (fun i => cz (3 * t + i)) H && lft (enM (fun i => cx (3 * t + i)) (fun i => cy (3 * t + i)) (fun i => cz (3 * t + i)) H) x y
theorem m_isInside {s0 : s_Mo} {l x y H : Int} {n : Nat} (hn : gMo_cuts s0 = n) (hn2 : n ≤ 120) (hx : 0 ≤ x ∧ x < 12) (hy : 0 ≤ y ∧ y < 12) (hT : ∀ t : Int, 0 ≤ t → t < n → TrM s0 l t (fun i => gMo_cx s0 (3 * t + i)) (fun i => gMo_cy s0 (3 * t + i)) (fun i => gMo_cz s0 (3 * t + i)) H) {Q : Int → Prop} (h : Q (b01 (prt (cl3 (gMo_cx s0) (gMo_cy s0) (gMo_cz s0) H x y) n))) : wp_Mo_isInside l x y s0 Q := by
  unfold wp_Mo_isInside
  intro P6 h6
  generalize hf : cl3 (gMo_cx s0) (gMo_cy s0) (gMo_cz s0) H x y = f at h
  have key : ∀ (k t : Nat), t + k = n → P6 (b01 (prt f t)) t := by
    intro k
    induction k with
    | zero =>
      intro t e
      apply h6
      rw [hn]
      have e : t = n := by omega
      subst e
      exact ⟨⟨by omega, by omega⟩, ⟨by omega, by omega⟩, fun _ => ⟨b01_01 _, h⟩, fun q => by omega⟩
    | succ k ih =>
      intro t e
      have h9 := ih (t + 1) (by omega)
      rw [show ((t + 1 : Nat) : Int) = (t : Int) + 1 from rfl] at h9
      have hTt := hT t (by omega) (by omega)
      have e1 : prt f (t + 1) = (prt f t ^^ f t) := rfl
      have e2 : f t = (isC (fun i => gMo_cz s0 (3 * (t : Int) + i)) H && lft (enM (fun i => gMo_cx s0 (3 * (t : Int) + i)) (fun i => gMo_cy s0 (3 * (t : Int) + i)) (fun i => gMo_cz s0 (3 * (t : Int) + i)) H) x y) := by rw [← hf]; rfl
      apply h6
      rw [hn]
      refine ⟨⟨by omega, by omega⟩, ⟨by omega, by omega⟩, fun q => by omega, fun _ => m_isCut hTt ⟨b01_r _, fun q => ?_, fun q => ?_⟩⟩
      · rw [b01_eq0] at q
        rw [q, Bool.false_and] at e2
        rw [e1, e2, Bool.xor_false] at h9
        exact h9
      · have q' : isC (fun i => gMo_cz s0 (3 * (t : Int) + i)) H = true := by
          cases hc : isC (fun i => gMo_cz s0 (3 * (t : Int) + i)) H with
          | true => rfl
          | false => rw [hc] at q; exact absurd rfl q
        rw [q', Bool.true_and] at e2
        refine m_isLeft hTt q' hx hy ?_
        rw [← e2]
        refine ⟨b01_r _, fun q2 => ?_, fun q2 => ⟨b01_r _, fun q3 => ?_, fun q3 => ?_⟩⟩
        · rw [b01_eq0] at q2
          rw [e1, q2, Bool.xor_false] at h9
          exact h9
        · have w2 : f t = true := by
            cases hc : f t with
            | true => rfl
            | false => rw [hc] at q2; exact absurd rfl q2
          have w3 : prt f t = true := by
            cases hc : prt f t with
            | true => rfl
            | false => rw [hc] at q3; exact absurd rfl q3
          rw [e1, w2, w3] at h9
          exact h9
        · have w2 : f t = true := by
            cases hc : f t with
            | true => rfl
            | false => rw [hc] at q2; exact absurd rfl q2
          rw [b01_eq0] at q3
          rw [e1, w2, q3] at h9
          exact h9
  exact key n 0 (by omega)
/-! the class -/
def FL (r0 r : Int → Int) (l : Int) (p : Int → Nat → Bool) : Prop := (∀ y : Int, 0 ≤ y → y < 12 → row (r (l * 12 + y)) ∧ ∀ x : Nat, x < 12 → bt (r (l * 12 + y)) x = p y x) ∧ ∀ j : Int, j < l * 12 ∨ l * 12 + 12 ≤ j → r j = r0 j
theorem FL_c {r0 r : Int → Int} {l : Int} {p p' : Int → Nat → Bool} (h : FL r0 r l p) (e : ∀ y : Int, 0 ≤ y → y < 12 → ∀ x : Nat, x < 12 → p y x = p' y x) : FL r0 r l p' := ⟨fun y y1 y2 => ⟨(h.1 y y1 y2).1, fun x hx => ((h.1 y y1 y2).2 x hx).trans (e y y1 y2 x hx)⟩, h.2⟩
theorem m_fillLayer {l : Int} {s0 : s_Sl} {cx cy cz : Int → Int} {H : Int} {n : Nat} {Q : s_Sl → Prop} (hl : 0 ≤ l ∧ l < gSl_count s0) (hc : gSl_count s0 ≤ 24) (hT : gMe_triangles (gSl_mesh s0) = n) (hn : n ≤ 120) (eH : (2 * l + 1) * gSl_thickness s0 = H) (rH : rg H) (ho : H % 2 = 1)
    (hm : ∀ i : Int, 0 ≤ i → i < 3 * n → (0 ≤ gMe_named (gSl_mesh s0) i ∧ gMe_named (gSl_mesh s0) i < 80) ∧ gMe_x (gSl_mesh s0) (gMe_named (gSl_mesh s0) i) = cx i ∧ gMe_y (gSl_mesh s0) (gMe_named (gSl_mesh s0) i) = cy i ∧ gMe_z (gSl_mesh s0) (gMe_named (gSl_mesh s0) i) = cz i)
    (hb : ∀ i : Int, 0 ≤ i → i < 3 * n → (0 ≤ cx i ∧ cx i ≤ 120) ∧ (0 ≤ cy i ∧ cy i ≤ 120) ∧ (0 ≤ cz i ∧ cz i ≤ 120))
    (h : ∀ en r : Int → Int, FL (gSl_solidRows s0) r l (fun y x => prt (cl3 cx cy cz H x y) n) → Q (mkSl (gSl_count s0) en (gSl_thickness s0) (gSl_mesh s0) r)) : wp_Sl_fillLayer l s0 Q := by
  unfold wp_Sl_fillLayer
  intro P2 P28 P50 h2 h28 h50
  -- the rows of one cut
  have inner : ∀ (t : Nat) (en : Int → Int), t < n → isC (fun i => cz (3 * (t : Int) + i)) H = true → En6 en (fun i => cx (3 * (t : Int) + i)) (fun i => cy (3 * (t : Int) + i)) (fun i => cz (3 * (t : Int) + i)) H →
      (∀ r : Int → Int, FL (gSl_solidRows s0) r l (fun y x => prt (cl3 cx cy cz H x y) (t + 1)) → P28 ((t : Int) + 1) (mkSl (gSl_count s0) en (gSl_thickness s0) (gSl_mesh s0) r)) →
      ∀ (k : Nat) (v : Int) (r : Int → Int), v + k = 12 → 0 ≤ v → FL (gSl_solidRows s0) r l (fun y x => if y < v then prt (cl3 cx cy cz H x y) (t + 1) else prt (cl3 cx cy cz H x y) t) → P50 t v (mkSl (gSl_count s0) en (gSl_thickness s0) (gSl_mesh s0) r) := by
    intro t en ht hC hen hq k
    have hB : EnB en := en_in hen ho (fun i i1 i2 => hb (3 * (t : Int) + i) (by omega) (by omega)) hC
    induction k with
    | zero =>
      intro v r e v0 hF
      apply h50
      refine ⟨⟨by omega, by omega⟩, fun _ => hq r (FL_c hF (fun y y1 y2 x hx => ?_)), fun q => by omega⟩
      exact if_pos (by omega)
    | succ k ih =>
      intro v r e v0 hF
      apply h50
      refine ⟨⟨by omega, by omega⟩, fun q => by omega, fun _ => ⟨⟨by omega, by omega⟩, ?_⟩⟩
      refine m_rcut (s0 := mkSl (gSl_count s0) en (gSl_thickness s0) (gSl_mesh s0) r) ⟨by omega, by omega⟩ hB (fun w hw bw_ => ?_)
      refine ih (v + 1) (iset r (l * 12 + v) (ixor (r (l * 12 + v)) w)) (by omega) (by omega) ⟨fun y y1 y2 => ?_, fun j hj => ?_⟩
      · obtain ⟨f1, f2⟩ := hF.1 y y1 y2
        by_cases ey : y = v
        · subst ey
          rw [iset_s]
          refine ⟨row_xor f1 hw, fun x hx => ?_⟩
          rw [bt_xor, f2 x hx, bw_ x hx]
          dsimp only
          rw [if_neg (Int.lt_irrefl y), if_pos (by omega)]
          show (_ ^^ lft en x y) = (_ ^^ cl3 cx cy cz H x y t)
          unfold cl3
          rw [hC, Bool.true_and, lft_en hen]
        · rw [iset_n _ _ (by omega)]
          refine ⟨f1, fun x hx => ?_⟩
          rw [f2 x hx]
          dsimp only
          by_cases e2 : y < v
          · rw [if_pos e2, if_pos (by omega)]
          · rw [if_neg e2, if_neg (by omega)]
      · rw [iset_n _ _ (by omega)]
        exact hF.2 j hj
  have mid : ∀ (k t : Nat) (en r : Int → Int), t + k = n → FL (gSl_solidRows s0) r l (fun y x => prt (cl3 cx cy cz H x y) t) → P28 t (mkSl (gSl_count s0) en (gSl_thickness s0) (gSl_mesh s0) r) := by
    intro k
    induction k with
    | zero =>
      intro t en r e hF
      have e : t = n := by omega
      subst e
      apply h28
      refine ⟨⟨by omega, by omega⟩, ?_, fun _ => h en r hF, fun q => ?_⟩
      · show rg (gMe_triangles (gSl_mesh s0))
        rw [hT]
        exact ⟨by omega, by omega⟩
      · have q : (t : Int) < gMe_triangles (gSl_mesh s0) := q
        rw [hT] at q
        omega
    | succ k ih =>
      intro t en r e hF
      apply h28
      refine ⟨⟨by omega, by omega⟩, ?_, fun q => ?_, fun _ => ?_⟩
      · show rg (gMe_triangles (gSl_mesh s0))
        rw [hT]
        exact ⟨by omega, by omega⟩
      · have q : gMe_triangles (gSl_mesh s0) ≤ (t : Int) := q
        rw [hT] at q
        omega
      · refine m_findEnds (s0 := mkSl (gSl_count s0) en (gSl_thickness s0) (gSl_mesh s0) r) (X := fun i => cx (3 * (t : Int) + i)) (Y := fun i => cy (3 * (t : Int) + i)) (Z := fun i => cz (3 * (t : Int) + i)) (H := H) hl hc ?_ ?_ eH rH (fun i i1 i2 => hm (3 * (t : Int) + i) (by omega) (by omega)) (fun i i1 i2 => (hb (3 * (t : Int) + i) (by omega) (by omega)).2.2) (fun q => ⟨by decide, fun _ => ?_, fun q => absurd rfl q⟩) (fun q en' hen => ⟨by decide, fun q => absurd q (by decide), fun _ => ?_⟩)
        · show 0 ≤ (t : Int) ∧ (t : Int) < gMe_triangles (gSl_mesh s0)
          rw [hT]
          omega
        · show gMe_triangles (gSl_mesh s0) ≤ 120
          rw [hT]
          omega
        · refine ih (t + 1) en r (by omega) (FL_c hF (fun y y1 y2 x hx => ?_))
          show _ = (_ ^^ cl3 cx cy cz H x y t)
          unfold cl3
          rw [q, Bool.false_and, Bool.xor_false]
        · refine inner t en' (by omega) q hen (fun r' hF' => ih (t + 1) en' r' (by omega) hF') 12 0 r (by omega) (by omega) (FL_c hF (fun y y1 y2 x hx => ?_))
          rw [if_neg (by omega)]
  have zero : ∀ (k : Nat) (v : Int) (r : Int → Int), v + k = 12 → 0 ≤ v → (∀ y : Int, 0 ≤ y → y < v → r (l * 12 + y) = 0) → (∀ j : Int, j < l * 12 ∨ l * 12 + 12 ≤ j → r j = gSl_solidRows s0 j) → P2 v (mkSl (gSl_count s0) (gSl_ends s0) (gSl_thickness s0) (gSl_mesh s0) r) := by
    intro k
    induction k with
    | zero =>
      intro v r e v0 hz hj
      apply h2
      refine ⟨⟨by omega, by omega⟩, fun _ => mid n 0 _ r (by omega) ⟨fun y y1 y2 => ?_, hj⟩, fun q => by omega⟩
      rw [hz y y1 (by omega)]
      exact ⟨row_0, fun x _ => bt_z x⟩
    | succ k ih =>
      intro v r e v0 hz hj
      apply h2
      refine ⟨⟨by omega, by omega⟩, fun q => by omega, fun _ => ⟨⟨by omega, by omega⟩, ih (v + 1) (iset r (l * 12 + v) 0) (by omega) (by omega) (fun y y1 y2 => ?_) (fun j q => ?_)⟩⟩
      · by_cases ey : y = v
        · subst ey
          exact iset_s _ _ _
        · rw [iset_n _ _ (by omega)]
          exact hz y y1 (by omega)
      · rw [iset_n _ _ (by omega)]
        exact hj j q
  exact zero 12 0 (gSl_solidRows s0) (by omega) (by omega) (fun y y1 y2 => by omega) (fun j _ => rfl)
