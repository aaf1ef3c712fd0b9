/-! ===== MEANING 29: layers ===== -/
/-- the greatest of n values, and 0 -/
def tp (f : Int → Int) : Nat → Int
  | 0 => 0
  | n + 1 => max (tp f n) (f n)
theorem tp_in {f : Int → Int} : ∀ {n : Nat}, (∀ i : Int, 0 ≤ i → i < n → 0 ≤ f i ∧ f i ≤ 120) → 0 ≤ tp f n ∧ tp f n ≤ 120
  | 0, _ => ⟨Int.le_refl _, by show (0 : Int) ≤ 120; omega⟩
  | n + 1, h => by
    have h1 := tp_in (f := f) (n := n) (fun i i1 i2 => h i i1 (by omega))
    have h2 := h n (by omega) (by omega)
    show 0 ≤ max (tp f n) (f n) ∧ max (tp f n) (f n) ≤ 120
    omega
theorem m_greatestZ {s0 : s_Me} {f : Int → Int} {n : Nat} {Q : Int → Prop} (hn : 3 * gMe_triangles s0 = n) (hn2 : n ≤ 360) (hm : ∀ i : Int, 0 ≤ i → i < n → (0 ≤ gMe_named s0 i ∧ gMe_named s0 i < 80) ∧ gMe_z s0 (gMe_named s0 i) = f i) (hb : ∀ i : Int, 0 ≤ i → i < n → 0 ≤ f i ∧ f i ≤ 120) (h : Q (tp f n)) : wp_Me_greatestZ s0 Q := by
  unfold wp_Me_greatestZ
  intro P4 h4
  have key : ∀ (k i : Nat), i + k = n → P4 (tp f i) i := by
    intro k
    induction k with
    | zero =>
      intro i e
      have e : i = n := by omega
      subst e
      apply h4
      rw [hn]
      exact ⟨⟨by omega, by omega⟩, ⟨by omega, by omega⟩, fun _ => h, fun q => by omega⟩
    | succ k ih =>
      intro i e
      have h9 := ih (i + 1) (by omega)
      obtain ⟨m1, m2⟩ := hm i (by omega) (by omega)
      have m3 := hb i (by omega) (by omega)
      have m4 := tp_in (f := f) (n := i) (fun j j1 j2 => hb j j1 (by omega))
      apply h4
      rw [hn, m2]
      exact ⟨⟨by omega, by omega⟩, ⟨by omega, by omega⟩, fun q => by omega, fun _ => ⟨⟨by omega, by omega⟩, m1, ⟨by omega, by omega⟩, ⟨by omega, by omega⟩, h9⟩⟩
  exact key n 0 (by omega)
/-- how many layers -/
def nly (th T : Int) : Nat → Int → Int
  | 0, l => l
  | k + 1, l => if (2 * l + 1) * th < T then nly th T k (l + 1) else l
theorem nly_in (th T : Int) : ∀ (k : Nat) (l : Int), l ≤ nly th T k l ∧ nly th T k l ≤ l + k
  | 0, l => ⟨Int.le_refl _, by show l ≤ l + (0 : Nat); omega⟩
  | k + 1, l => by
    have h := nly_in th T k (l + 1)
    show l ≤ (if (2 * l + 1) * th < T then nly th T k (l + 1) else l) ∧ (if (2 * l + 1) * th < T then nly th T k (l + 1) else l) ≤ l + (k + 1 : Nat)
    split <;> omega
theorem icpy_lt {g f : Int → Int} {n j : Int} (h : j < n) : icpy g f n j = g j := if_pos h
theorem icpy_in {g f : Int → Int} {n j : Int} {lo hi : Int} (hg : lo ≤ g j ∧ g j ≤ hi) (hf : lo ≤ f j ∧ f j ≤ hi) : lo ≤ icpy g f n j ∧ icpy g f n j ≤ hi := by
  unfold icpy
  split
  · exact hg
  · exact hf
theorem m_cutAnew {th : Int} {s0 : s_Sl} {s1 : s_Me} {cx cy cz f : Int → Int} {n : Nat} {Q : s_Sl → Prop} (hth : 1 ≤ th ∧ th ≤ 41 ∧ th % 2 = 1) (hT : gMe_triangles s1 = n) (hn : n ≤ 120) (hco : 0 ≤ gMe_corners s1 ∧ gMe_corners s1 ≤ 80)
    (hm : ∀ i : Int, 0 ≤ i → i < 3 * n → (0 ≤ gMe_named s1 i ∧ gMe_named s1 i < gMe_corners s1) ∧ gMe_x s1 (gMe_named s1 i) = cx i ∧ gMe_y s1 (gMe_named s1 i) = cy i ∧ gMe_z s1 (gMe_named s1 i) = cz i ∧ gMe_z s1 (gMe_named s1 i) = f i)
    (hb : ∀ i : Int, 0 ≤ i → i < 3 * n → (0 ≤ cx i ∧ cx i ≤ 120) ∧ (0 ≤ cy i ∧ cy i ≤ 120) ∧ (0 ≤ cz i ∧ cz i ≤ 120))
    (h : ∀ en r : Int → Int, (∀ i : Int, 0 ≤ i → i < 3 * n → (0 ≤ icpy (gMe_named s1) (gMe_named (gSl_mesh s0)) (3 * gMe_triangles s1) i ∧ icpy (gMe_named s1) (gMe_named (gSl_mesh s0)) (3 * gMe_triangles s1) i < 80) ∧ cx i = icpy (gMe_x s1) (gMe_x (gSl_mesh s0)) (gMe_corners s1) (icpy (gMe_named s1) (gMe_named (gSl_mesh s0)) (3 * gMe_triangles s1) i) ∧ cy i = icpy (gMe_y s1) (gMe_y (gSl_mesh s0)) (gMe_corners s1) (icpy (gMe_named s1) (gMe_named (gSl_mesh s0)) (3 * gMe_triangles s1) i) ∧ cz i = icpy (gMe_z s1) (gMe_z (gSl_mesh s0)) (gMe_corners s1) (icpy (gMe_named s1) (gMe_named (gSl_mesh s0)) (3 * gMe_triangles s1) i)) →
      (∀ l y : Int, 0 ≤ l → l < nly th (2 * tp f (3 * n)) 24 0 → 0 ≤ y → y < 12 → row (r (l * 12 + y)) ∧ ∀ x : Nat, x < 12 → bt (r (l * 12 + y)) x = prt (cl3 cx cy cz ((2 * l + 1) * th) x y) n) →
      Q (mkSl (nly th (2 * tp f (3 * n)) 24 0) en th (mkMe (icpy (gMe_x s1) (gMe_x (gSl_mesh s0)) (gMe_corners s1)) (icpy (gMe_y s1) (gMe_y (gSl_mesh s0)) (gMe_corners s1)) (icpy (gMe_z s1) (gMe_z (gSl_mesh s0)) (gMe_corners s1)) (gMe_corners s1) (icpy (gMe_named s1) (gMe_named (gSl_mesh s0)) (3 * gMe_triangles s1)) (gMe_triangles s1)) r)) : wp_Sl_cutAnew th s0 s1 Q := by
  unfold wp_Sl_cutAnew
  intro P31 h31
  have hi : ∀ i : Int, 0 ≤ i → i < 3 * n → (0 ≤ icpy (gMe_named s1) (gMe_named (gSl_mesh s0)) (3 * gMe_triangles s1) i ∧ icpy (gMe_named s1) (gMe_named (gSl_mesh s0)) (3 * gMe_triangles s1) i < 80) ∧ icpy (gMe_x s1) (gMe_x (gSl_mesh s0)) (gMe_corners s1) (icpy (gMe_named s1) (gMe_named (gSl_mesh s0)) (3 * gMe_triangles s1) i) = cx i ∧ icpy (gMe_y s1) (gMe_y (gSl_mesh s0)) (gMe_corners s1) (icpy (gMe_named s1) (gMe_named (gSl_mesh s0)) (3 * gMe_triangles s1) i) = cy i ∧ icpy (gMe_z s1) (gMe_z (gSl_mesh s0)) (gMe_corners s1) (icpy (gMe_named s1) (gMe_named (gSl_mesh s0)) (3 * gMe_triangles s1) i) = cz i ∧ icpy (gMe_z s1) (gMe_z (gSl_mesh s0)) (gMe_corners s1) (icpy (gMe_named s1) (gMe_named (gSl_mesh s0)) (3 * gMe_triangles s1) i) = f i := by
    intro i i1 i2
    obtain ⟨a1, a2, a3, a4, a5⟩ := hm i i1 i2
    rw [icpy_lt (g := gMe_named s1) (by rw [hT]; omega), icpy_lt a1.2, icpy_lt a1.2, icpy_lt a1.2]
    exact ⟨⟨by omega, by omega⟩, a2, a3, a4, a5⟩
  have h := fun en r => h en r (fun i i1 i2 => by
    obtain ⟨a1, a2, a3, a4, a5⟩ := hi i i1 i2
    exact ⟨a1, a2.symm, a3.symm, a4.symm⟩)
  have hf : ∀ i : Int, 0 ≤ i → i < ((3 * n : Nat) : Int) → 0 ≤ f i ∧ f i ≤ 120 := by
    intro i i1 i2
    obtain ⟨-, -, -, a4, a5⟩ := hm i i1 (by omega)
    have := (hb i i1 (by omega)).2.2
    omega
  have hc3 : (3 * gMe_triangles s1 : Int) = ((3 * n : Nat) : Int) := by rw [hT]; omega
  have ht := tp_in hf
  generalize hM : mkMe (icpy (gMe_x s1) (gMe_x (gSl_mesh s0)) (gMe_corners s1)) (icpy (gMe_y s1) (gMe_y (gSl_mesh s0)) (gMe_corners s1)) (icpy (gMe_z s1) (gMe_z (gSl_mesh s0)) (gMe_corners s1)) (gMe_corners s1) (icpy (gMe_named s1) (gMe_named (gSl_mesh s0)) (3 * gMe_triangles s1)) (gMe_triangles s1) = M at h
  have eT : gMe_triangles M = n := by rw [← hM]; exact hT
  have hmM : ∀ i : Int, 0 ≤ i → i < 3 * n → (0 ≤ gMe_named M i ∧ gMe_named M i < 80) ∧ gMe_x M (gMe_named M i) = cx i ∧ gMe_y M (gMe_named M i) = cy i ∧ gMe_z M (gMe_named M i) = cz i ∧ gMe_z M (gMe_named M i) = f i := by rw [← hM]; exact hi
  have key : ∀ (k : Nat) (l : Int) (en r : Int → Int), l + k = 24 → 0 ≤ l → nly th (2 * tp f (3 * n)) k l = nly th (2 * tp f (3 * n)) 24 0 → (∀ l' y : Int, 0 ≤ l' → l' < l → 0 ≤ y → y < 12 → row (r (l' * 12 + y)) ∧ ∀ x : Nat, x < 12 → bt (r (l' * 12 + y)) x = prt (cl3 cx cy cz ((2 * l' + 1) * th) x y) n) → P31 (2 * tp f (3 * n)) l (mkSl l en th M r) := by
    intro k
    induction k with
    | zero =>
      intro l en r e l0 eN hr
      apply h31
      have eN : l = nly th (2 * tp f (3 * n)) 24 0 := eN
      rw [← eN] at h
      exact ⟨⟨by omega, by omega⟩, fun _ => h en r hr, fun q => by omega⟩
    | succ k ih =>
      intro l en r e l0 eN hr
      have eN : (if (2 * l + 1) * th < 2 * tp f (3 * n) then nly th (2 * tp f (3 * n)) k (l + 1) else l) = nly th (2 * tp f (3 * n)) 24 0 := eN
      have hH := H_of (l := l) ⟨l0, by omega⟩ hth
      apply h31
      refine ⟨⟨by omega, by omega⟩, fun q => by omega, fun _ => ?_⟩
      show rg ((2 * l + 1) * th) ∧ _
      refine ⟨⟨by omega, by omega⟩, ⟨by omega, by omega⟩, fun q => ?_, fun q => ?_⟩
      · have q : 2 * tp f (3 * n) ≤ (2 * l + 1) * th := q
        rw [if_neg (by omega)] at eN
        rw [← eN] at h
        exact h en r hr
      · have q : (2 * l + 1) * th < 2 * tp f (3 * n) := q
        rw [if_pos q] at eN
        refine m_fillLayer (s0 := mkSl (l + 1) en th M r) (cx := cx) (cy := cy) (cz := cz) (n := n) ⟨l0, by show l < l + 1; omega⟩ (by show l + 1 ≤ 24; omega) eT hn rfl ⟨by show -2147483648 ≤ (2 * l + 1) * th; omega, by show (2 * l + 1) * th ≤ 2147483647; omega⟩ hH.2 (fun i i1 i2 => ?_) hb (fun en' r' hF => ?_)
        · obtain ⟨a1, a2, a3, a4, a5⟩ := hmM i i1 i2
          exact ⟨a1, a2, a3, a4⟩
        · refine ih (l + 1) en' r' (by omega) (by omega) eN (fun l' y l1 l2 y1 y2 => ?_)
          by_cases el : l' = l
          · subst el
            exact hF.1 y y1 y2
          · have e9 : r' (l' * 12 + y) = r (l' * 12 + y) := hF.2 (l' * 12 + y) (by omega)
            rw [e9]
            exact hr l' y l1 (by omega) y1 y2
  have h9 := key 24 0 (gSl_ends s0) (gSl_solidRows s0) (by omega) (by omega) rfl (fun l' y l1 l2 => by omega)
  refine ⟨⟨hco.1, hco.2, hco.2⟩, ⟨hco.1, hco.2, hco.2⟩, ⟨hco.1, hco.2, hco.2⟩, ⟨by omega, by omega, by omega⟩, ?_⟩
  show wp_Me_greatestZ (mkMe (icpy (gMe_x s1) (gMe_x (gSl_mesh s0)) (gMe_corners s1)) (icpy (gMe_y s1) (gMe_y (gSl_mesh s0)) (gMe_corners s1)) (icpy (gMe_z s1) (gMe_z (gSl_mesh s0)) (gMe_corners s1)) (gMe_corners s1) (icpy (gMe_named s1) (gMe_named (gSl_mesh s0)) (3 * gMe_triangles s1)) (gMe_triangles s1)) _
  rw [hM]
  refine m_greatestZ (f := f) (n := 3 * n) (by rw [eT]; omega) (by omega) (fun i i1 i2 => ?_) hf h9
  obtain ⟨a1, a2, a3, a4, a5⟩ := hmM i i1 (by omega)
  exact ⟨a1, a5⟩
/-! the reference -/
def ifl (f g : Int → Int) (n : Int) : Int → Int := fun j => if 0 ≤ j ∧ j < n then f j else g j
theorem ifl_0 (f g : Int → Int) : ifl f g 0 = g := by
  funext j
  unfold ifl
  rw [if_neg (by omega)]
theorem ifl_s (f g : Int → Int) {n v : Int} (h : 0 ≤ n) (hv : f n = v) : iset (ifl f g n) n v = ifl f g (n + 1) := by
  subst hv
  funext j
  unfold iset ifl
  by_cases e : j = n
  · subst e
    rw [if_pos rfl, if_pos (by omega)]
  · rw [if_neg e]
    by_cases e2 : 0 ≤ j ∧ j < n
    · rw [if_pos e2, if_pos (by omega)]
    · rw [if_neg e2, if_neg (by omega)]
theorem ifl_i {f g : Int → Int} {n j : Int} (h : 0 ≤ j ∧ j < n) : ifl f g n j = f j := if_pos h
/-- whether a place of the table of solid cells is set -/
def sog (cx cy cz : Int → Int) (th L : Int) (n : Nat) (j : Int) : Int := if j / 144 < L then b01 (prt (cl3 cx cy cz ((2 * (j / 144) + 1) * th) (j % 12) (j / 12 % 12)) n) else 0
theorem sog_at (cx cy cz : Int → Int) (th L : Int) (n : Nat) {l x y : Int} (hl : 0 ≤ l) (hx : 0 ≤ x ∧ x < 12) (hy : 0 ≤ y ∧ y < 12) : sog cx cy cz th L n (144 * l + 12 * y + x) = if l < L then b01 (prt (cl3 cx cy cz ((2 * l + 1) * th) x y) n) else 0 := by
  unfold sog
  rw [show (144 * l + 12 * y + x) / 144 = l by omega, show (144 * l + 12 * y + x) % 12 = x by omega, show (144 * l + 12 * y + x) / 12 % 12 = y by omega]
theorem m_Mo_layers {a1 : Int} {s0 : s_Mo} {n : Nat} {fx fy fz : Int → Int} {Q : Int → s_Mo → Prop} (r1 : rg a1) (hth : 1 ≤ a1 ∧ a1 ≤ 41 ∧ a1 % 2 = 1) (hT : gMo_triangles s0 = n) (hn : n ≤ 120)
    (hm : ∀ i : Int, 0 ≤ i → i < 3 * n → (0 ≤ gMo_named s0 i ∧ gMo_named s0 i < 80) ∧ gMo_px s0 (gMo_named s0 i) = fx i ∧ gMo_py s0 (gMo_named s0 i) = fy i ∧ gMo_pz s0 (gMo_named s0 i) = fz i)
    (hb : ∀ i : Int, 0 ≤ i → i < 3 * n → (0 ≤ fx i ∧ fx i ≤ 120) ∧ (0 ≤ fy i ∧ fy i ≤ 120) ∧ (0 ≤ fz i ∧ fz i ≤ 120))
    (h : Q (nly a1 (2 * tp fz (3 * n)) 24 0) (mkMo (0) (gMo_corners s0) (gMo_px s0) (gMo_py s0) (gMo_pz s0) (gMo_triangles s0) (gMo_named s0) (gMo_joined s0) (gMo_dropped s0) (gMo_closed s0) (nly a1 (2 * tp fz (3 * n)) 24 0) (a1) (gMo_triangles s0) (ifl fx (gMo_cx s0) (3 * n)) (ifl fy (gMo_cy s0) (3 * n)) (ifl fz (gMo_cz s0) (3 * n)) (ifl (sog (ifl fx (gMo_cx s0) (3 * n)) (ifl fy (gMo_cy s0) (3 * n)) (ifl fz (gMo_cz s0) (3 * n)) a1 (nly a1 (2 * tp fz (3 * n)) 24 0) n) (gMo_solids s0) 3456) (gMo_shell s0) (gMo_skin s0) (gMo_period s0) (gMo_reach s0) (gMo_gap s0) (0) (0) (-1) (gMo_program s0) (icl (gMo_beads s0) 3456) (gMo_ring s0))) : wp_Mo_layers a1 s0 Q := by
  unfold wp_Mo_layers
  intro P40 P133 P171 P180 P190 h40 h133 h171 h180 h190
  have hf : ∀ i : Int, 0 ≤ i → i < ((3 * n : Nat) : Int) → 0 ≤ fz i ∧ fz i ≤ 120 := fun i i1 i2 => (hb i i1 (by omega)).2.2
  have htp := tp_in hf
  have hL := nly_in a1 (2 * tp fz (3 * n)) 24 0
  -- the cells
  have cells : ∀ L : Int, (0 ≤ L ∧ L ≤ 24) → nly a1 (2 * tp fz (3 * n)) 24 0 = L → P171 0 (mkMo (0) (gMo_corners s0) (gMo_px s0) (gMo_py s0) (gMo_pz s0) (gMo_triangles s0) (gMo_named s0) (gMo_joined s0) (gMo_dropped s0) (gMo_closed s0) (L) (a1) (gMo_triangles s0) (ifl fx (gMo_cx s0) (3 * n)) (ifl fy (gMo_cy s0) (3 * n)) (ifl fz (gMo_cz s0) (3 * n)) (gMo_solids s0) (gMo_shell s0) (gMo_skin s0) (gMo_period s0) (gMo_reach s0) (gMo_gap s0) (gMo_bytes s0) (gMo_played s0) (gMo_at s0) (gMo_program s0) (gMo_beads s0) (gMo_ring s0)) := by
    intro L hL eL
    rw [eL] at h
    generalize hg : sog (ifl fx (gMo_cx s0) (3 * n)) (ifl fy (gMo_cy s0) (3 * n)) (ifl fz (gMo_cz s0) (3 * n)) a1 L n = g at h
    have hTr : ∀ (so : Int → Int) (l t : Int), 0 ≤ l → l < 24 → 0 ≤ t → t < n → TrM (mkMo (0) (gMo_corners s0) (gMo_px s0) (gMo_py s0) (gMo_pz s0) (gMo_triangles s0) (gMo_named s0) (gMo_joined s0) (gMo_dropped s0) (gMo_closed s0) (L) (a1) (gMo_triangles s0) (ifl fx (gMo_cx s0) (3 * n)) (ifl fy (gMo_cy s0) (3 * n)) (ifl fz (gMo_cz s0) (3 * n)) (so) (gMo_shell s0) (gMo_skin s0) (gMo_period s0) (gMo_reach s0) (gMo_gap s0) (gMo_bytes s0) (gMo_played s0) (gMo_at s0) (gMo_program s0) (gMo_beads s0) (gMo_ring s0)) l t (fun i => ifl fx (gMo_cx s0) (3 * n) (3 * t + i)) (fun i => ifl fy (gMo_cy s0) (3 * n) (3 * t + i)) (fun i => ifl fz (gMo_cz s0) (3 * n) (3 * t + i)) ((2 * l + 1) * a1) := by
      intro so l t l0 l1 t0 t1
      have hH := H_of (l := l) ⟨l0, l1⟩ hth
      refine ⟨⟨t0, by omega⟩, rfl, ⟨by omega, by omega⟩, hH.2, fun i i1 i2 => ⟨rfl, rfl, rfl, ?_⟩⟩
      dsimp only
      rw [ifl_i ⟨by omega, by omega⟩, ifl_i ⟨by omega, by omega⟩, ifl_i ⟨by omega, by omega⟩]
      exact hb _ (by omega) (by omega)
    have p190 : ∀ (l y : Int), (0 ≤ l ∧ l < 24) → (0 ≤ y ∧ y < 12) → P180 l (y + 1) (mkMo (0) (gMo_corners s0) (gMo_px s0) (gMo_py s0) (gMo_pz s0) (gMo_triangles s0) (gMo_named s0) (gMo_joined s0) (gMo_dropped s0) (gMo_closed s0) (L) (a1) (gMo_triangles s0) (ifl fx (gMo_cx s0) (3 * n)) (ifl fy (gMo_cy s0) (3 * n)) (ifl fz (gMo_cz s0) (3 * n)) (ifl g (gMo_solids s0) (144 * l + 12 * y + 12)) (gMo_shell s0) (gMo_skin s0) (gMo_period s0) (gMo_reach s0) (gMo_gap s0) (gMo_bytes s0) (gMo_played s0) (gMo_at s0) (gMo_program s0) (gMo_beads s0) (gMo_ring s0)) →
        ∀ (k : Nat) (x : Int), x + k = 12 → 0 ≤ x → P190 l y x (mkMo (0) (gMo_corners s0) (gMo_px s0) (gMo_py s0) (gMo_pz s0) (gMo_triangles s0) (gMo_named s0) (gMo_joined s0) (gMo_dropped s0) (gMo_closed s0) (L) (a1) (gMo_triangles s0) (ifl fx (gMo_cx s0) (3 * n)) (ifl fy (gMo_cy s0) (3 * n)) (ifl fz (gMo_cz s0) (3 * n)) (ifl g (gMo_solids s0) (144 * l + 12 * y + x)) (gMo_shell s0) (gMo_skin s0) (gMo_period s0) (gMo_reach s0) (gMo_gap s0) (gMo_bytes s0) (gMo_played s0) (gMo_at s0) (gMo_program s0) (gMo_beads s0) (gMo_ring s0)) := by
      intro l y hl hy hq k
      induction k with
      | zero =>
        intro x e x0
        have e : x = 12 := by omega
        subst e
        apply h190
        exact ⟨by decide, fun _ => hq, fun q => absurd q (by decide)⟩
      | succ k ih =>
        intro x e x0
        have h9 := ih (x + 1) (by omega) (by omega)
        have es := sog_at (ifl fx (gMo_cx s0) (3 * n)) (ifl fy (gMo_cy s0) (3 * n)) (ifl fz (gMo_cz s0) (3 * n)) a1 L n (l := l) (x := x) (y := y) hl.1 ⟨x0, by omega⟩ hy
        rw [hg] at es
        rw [show 144 * l + 12 * y + (x + 1) = 144 * l + 12 * y + x + 1 by omega, ← ifl_s g (gMo_solids s0) (n := 144 * l + 12 * y + x) (by omega) es] at h9
        apply h190
        refine ⟨⟨by omega, by omega⟩, fun q => by omega, fun _ => ⟨⟨by omega, by omega⟩, ⟨by show -2147483648 ≤ L; omega, by show L ≤ 2147483647; omega⟩, fun q => ⟨⟨by omega, by omega⟩, ?_⟩, fun q => ?_⟩⟩
        · have q : L ≤ l := q
          rw [if_neg (by omega)] at h9
          exact h9
        · have q : l < L := q
          rw [if_pos q] at h9
          refine m_isInside (n := n) (H := (2 * l + 1) * a1) hT hn ⟨x0, by omega⟩ hy (fun t t0 t1 => hTr _ l t hl.1 hl.2 t0 t1) ⟨b01_r _, fun q2 => ⟨⟨by omega, by omega⟩, ?_⟩, fun q2 => ⟨⟨by omega, by omega⟩, ?_⟩⟩
          · have q2 : b01 (prt (cl3 (ifl fx (gMo_cx s0) (3 * n)) (ifl fy (gMo_cy s0) (3 * n)) (ifl fz (gMo_cz s0) (3 * n)) ((2 * l + 1) * a1) x y) n) = 0 := q2
            rw [q2] at h9
            exact h9
          · have q2 : b01 (prt (cl3 (ifl fx (gMo_cx s0) (3 * n)) (ifl fy (gMo_cy s0) (3 * n)) (ifl fz (gMo_cz s0) (3 * n)) ((2 * l + 1) * a1) x y) n) ≠ 0 := q2
            have q3 := (b01_01 (prt (cl3 (ifl fx (gMo_cx s0) (3 * n)) (ifl fy (gMo_cy s0) (3 * n)) (ifl fz (gMo_cz s0) (3 * n)) ((2 * l + 1) * a1) x y) n)).resolve_left q2
            rw [q3] at h9
            exact h9
    have p180 : ∀ (l : Int), (0 ≤ l ∧ l < 24) → P171 (l + 1) (mkMo (0) (gMo_corners s0) (gMo_px s0) (gMo_py s0) (gMo_pz s0) (gMo_triangles s0) (gMo_named s0) (gMo_joined s0) (gMo_dropped s0) (gMo_closed s0) (L) (a1) (gMo_triangles s0) (ifl fx (gMo_cx s0) (3 * n)) (ifl fy (gMo_cy s0) (3 * n)) (ifl fz (gMo_cz s0) (3 * n)) (ifl g (gMo_solids s0) (144 * l + 144)) (gMo_shell s0) (gMo_skin s0) (gMo_period s0) (gMo_reach s0) (gMo_gap s0) (gMo_bytes s0) (gMo_played s0) (gMo_at s0) (gMo_program s0) (gMo_beads s0) (gMo_ring s0)) →
        ∀ (k : Nat) (y : Int), y + k = 12 → 0 ≤ y → P180 l y (mkMo (0) (gMo_corners s0) (gMo_px s0) (gMo_py s0) (gMo_pz s0) (gMo_triangles s0) (gMo_named s0) (gMo_joined s0) (gMo_dropped s0) (gMo_closed s0) (L) (a1) (gMo_triangles s0) (ifl fx (gMo_cx s0) (3 * n)) (ifl fy (gMo_cy s0) (3 * n)) (ifl fz (gMo_cz s0) (3 * n)) (ifl g (gMo_solids s0) (144 * l + 12 * y)) (gMo_shell s0) (gMo_skin s0) (gMo_period s0) (gMo_reach s0) (gMo_gap s0) (gMo_bytes s0) (gMo_played s0) (gMo_at s0) (gMo_program s0) (gMo_beads s0) (gMo_ring s0)) := by
      intro l hl hq k
      induction k with
      | zero =>
        intro y e y0
        have e : y = 12 := by omega
        subst e
        apply h180
        exact ⟨by decide, fun _ => hq, fun q => absurd q (by decide)⟩
      | succ k ih =>
        intro y e y0
        have h9 := ih (y + 1) (by omega) (by omega)
        rw [show 144 * l + 12 * (y + 1) = 144 * l + 12 * y + 12 by omega] at h9
        have h8 := p190 l y hl ⟨y0, by omega⟩ h9 12 0 (by omega) (by omega)
        rw [show 144 * l + 12 * y + 0 = 144 * l + 12 * y by omega] at h8
        apply h180
        exact ⟨⟨by omega, by omega⟩, fun q => by omega, fun _ => h8⟩
    have p171 : ∀ (k : Nat) (l : Int), l + k = 24 → 0 ≤ l → P171 l (mkMo (0) (gMo_corners s0) (gMo_px s0) (gMo_py s0) (gMo_pz s0) (gMo_triangles s0) (gMo_named s0) (gMo_joined s0) (gMo_dropped s0) (gMo_closed s0) (L) (a1) (gMo_triangles s0) (ifl fx (gMo_cx s0) (3 * n)) (ifl fy (gMo_cy s0) (3 * n)) (ifl fz (gMo_cz s0) (3 * n)) (ifl g (gMo_solids s0) (144 * l)) (gMo_shell s0) (gMo_skin s0) (gMo_period s0) (gMo_reach s0) (gMo_gap s0) (gMo_bytes s0) (gMo_played s0) (gMo_at s0) (gMo_program s0) (gMo_beads s0) (gMo_ring s0)) := by
      intro k
      induction k with
      | zero =>
        intro l e l0
        have e : l = 24 := by omega
        subst e
        apply h171
        exact ⟨by decide, fun _ => m_Mo_clear h, fun q => absurd q (by decide)⟩
      | succ k ih =>
        intro l e l0
        have h9 := ih (l + 1) (by omega) (by omega)
        rw [show 144 * (l + 1) = 144 * l + 144 by omega] at h9
        have h8 := p180 l ⟨l0, by omega⟩ h9 12 0 (by omega) (by omega)
        rw [show 144 * l + 12 * 0 = 144 * l by omega] at h8
        apply h171
        exact ⟨⟨by omega, by omega⟩, fun q => by omega, fun _ => h8⟩
    have h8 := p171 24 0 (by omega) (by omega)
    rw [show (144 * 0 : Int) = 0 by omega, ifl_0] at h8
    exact h8
  -- the count
  have count : ∀ (k : Nat) (l : Int), l + k = 24 → 0 ≤ l → nly a1 (2 * tp fz (3 * n)) k l = nly a1 (2 * tp fz (3 * n)) 24 0 → P133 (tp fz (3 * n)) (mkMo (0) (gMo_corners s0) (gMo_px s0) (gMo_py s0) (gMo_pz s0) (gMo_triangles s0) (gMo_named s0) (gMo_joined s0) (gMo_dropped s0) (gMo_closed s0) (l) (a1) (gMo_triangles s0) (ifl fx (gMo_cx s0) (3 * n)) (ifl fy (gMo_cy s0) (3 * n)) (ifl fz (gMo_cz s0) (3 * n)) (gMo_solids s0) (gMo_shell s0) (gMo_skin s0) (gMo_period s0) (gMo_reach s0) (gMo_gap s0) (gMo_bytes s0) (gMo_played s0) (gMo_at s0) (gMo_program s0) (gMo_beads s0) (gMo_ring s0)) := by
    intro k
    induction k with
    | zero =>
      intro l e l0 eN
      have eN : l = nly a1 (2 * tp fz (3 * n)) 24 0 := eN
      have h8 := cells l ⟨l0, by omega⟩ eN.symm
      apply h133
      refine ⟨⟨by show -2147483648 ≤ l; omega, by show l ≤ 2147483647; omega⟩, fun _ => h8, fun q => ?_⟩
      have q : l < 24 := q
      omega
    | succ k ih =>
      intro l e l0 eN
      have eN : (if (2 * l + 1) * a1 < 2 * tp fz (3 * n) then nly a1 (2 * tp fz (3 * n)) k (l + 1) else l) = nly a1 (2 * tp fz (3 * n)) 24 0 := eN
      have hH := H_of (l := l) ⟨l0, by omega⟩ hth
      apply h133
      refine ⟨⟨by show -2147483648 ≤ l; omega, by show l ≤ 2147483647; omega⟩, fun q => ?_, fun _ => ?_⟩
      · have q : 24 ≤ l := q
        omega
      · show rg ((2 * l + 1) * a1) ∧ _
        refine ⟨⟨by omega, by omega⟩, ⟨by omega, by omega⟩, fun q => ?_, fun q => ?_⟩
        · have q : 2 * tp fz (3 * n) ≤ (2 * l + 1) * a1 := q
          rw [if_neg (by omega)] at eN
          exact cells l ⟨l0, by omega⟩ eN.symm
        · have q : (2 * l + 1) * a1 < 2 * tp fz (3 * n) := q
          rw [if_pos q] at eN
          exact ih (l + 1) (by omega) (by omega) eN
  -- the corners' copies
  have copy : ∀ (k i : Nat), i + k = 3 * n → P40 (tp fz i) i (mkMo (0) (gMo_corners s0) (gMo_px s0) (gMo_py s0) (gMo_pz s0) (gMo_triangles s0) (gMo_named s0) (gMo_joined s0) (gMo_dropped s0) (gMo_closed s0) (gMo_layers s0) (a1) (gMo_triangles s0) (ifl fx (gMo_cx s0) i) (ifl fy (gMo_cy s0) i) (ifl fz (gMo_cz s0) i) (gMo_solids s0) (gMo_shell s0) (gMo_skin s0) (gMo_period s0) (gMo_reach s0) (gMo_gap s0) (gMo_bytes s0) (gMo_played s0) (gMo_at s0) (gMo_program s0) (gMo_beads s0) (gMo_ring s0)) := by
    intro k
    induction k with
    | zero =>
      intro i e
      have h8 := count 24 0 (by omega) (by omega) rfl
      have e : i = 3 * n := by omega
      subst e
      have hc : (3 * gMo_triangles s0 : Int) = ((3 * n : Nat) : Int) := by rw [hT]; omega
      apply h40
      refine ⟨⟨by omega, by omega⟩, ⟨by show -2147483648 ≤ 3 * gMo_triangles s0; omega, by show 3 * gMo_triangles s0 ≤ 2147483647; omega⟩, fun _ => ?_, fun q => ?_⟩
      · rw [show ((3 * n : Nat) : Int) = 3 * (n : Int) by omega]
        exact h8
      · have q : ((3 * n : Nat) : Int) < 3 * gMo_triangles s0 := q
        omega
    | succ k ih =>
      intro i e
      have h9 := ih (i + 1) (by omega)
      obtain ⟨m0, m1, m2, m3⟩ := hm i (by omega) (by omega)
      obtain ⟨b1, b2, b3⟩ := hb i (by omega) (by omega)
      have b4 := tp_in (f := fz) (n := i) (fun j j1 j2 => hf j j1 (by omega))
      rw [show ((i + 1 : Nat) : Int) = (i : Int) + 1 from rfl, ← ifl_s fx _ (by omega) m1.symm, ← ifl_s fy _ (by omega) m2.symm, ← ifl_s fz _ (by omega) m3.symm] at h9
      have e9 : tp fz (i + 1) = max (tp fz i) (fz i) := rfl
      rw [e9] at h9
      apply h40
      dsimp only [gMe_x, gMe_y, gMe_z, gMe_corners, gMe_named, gMe_triangles, mkMe, gMn_joined, gMn_dropped, gMn_closed, gMn_lowestHere, gMn_counted, gMn_balance, gMn_openFrom, gMn_hole, mkMn, gSl_count, gSl_ends, gSl_thickness, gSl_mesh, gSl_solidRows, mkSl, gSo_rowsOfKind0, gSo_rowsOfKind1, gSo_rowsOfKind2, gSo_rowsOfKind3, gSo_rowsOfKind4, gSo_rowsOfKind5, gSo_rowsOfKind6, gSo_hanging, gSo_shell, gSo_skin, gSo_period, gSo_reach, gSo_gap, mkSo, gRo_runs, mkRo, gPr_program, gPr_length, gPr_beads, gPr_at, gPr_layer, mkPr, gLS_mesh, gLS_mender, gLS_slices, gLS_sorter, gLS_router, gLS_printer, mkLS, gMo_thrown, gMo_corners, gMo_px, gMo_py, gMo_pz, gMo_triangles, gMo_named, gMo_joined, gMo_dropped, gMo_closed, gMo_layers, gMo_thickness, gMo_cuts, gMo_cx, gMo_cy, gMo_cz, gMo_solids, gMo_shell, gMo_skin, gMo_period, gMo_reach, gMo_gap, gMo_bytes, gMo_played, gMo_at, gMo_program, gMo_beads, gMo_ring, mkMo] at h9 hm hT m0 m1 m2 m3 ⊢
      rw [iset_s, m3]
      rw [m3] at h9
      refine ⟨⟨by omega, by omega⟩, ⟨by omega, by omega⟩, fun q => by omega, fun _ => ⟨⟨by omega, by omega⟩, m0, ⟨by omega, by omega⟩, ⟨by omega, by omega⟩, fun q => ?_, fun q => ?_⟩⟩
      · rw [show max (tp fz i) (fz i) = tp fz i by omega] at h9
        exact h9
      · rw [show max (tp fz i) (fz i) = fz i by omega] at h9
        exact h9
  have h7 := copy (3 * n) 0 (by omega)
  rw [show ((0 : Nat) : Int) = 0 from rfl, ifl_0, ifl_0, ifl_0] at h7
  have hmod : Int.tmod a1 2 = 1 := by rw [Int.tmod_eq_emod_of_nonneg (by omega)]; exact hth.2.2
  refine m_in1 r1 (by decide) (by decide) hth.1 hth.2.1 ⟨by decide, fun q => absurd q (by decide), fun _ => ⟨r1, ?_⟩⟩
  rw [hmod]
  exact ⟨by decide, fun _ => h7, fun q => absurd q (by decide)⟩
theorem t_layers {a1 : Int} (r1 : rg a1) {sx : s_LS} {sm : s_Mo} (hi : Inv sx sm) : wp_LS_layers a1 sx (fun r1 u2 => wp_Mo_layers a1 sm (fun r3 u4 => r1 = r3 ∧ Inv u2 u4)) := by
  have hI : Inv sx (mkMo (0) (gMo_corners sm) (gMo_px sm) (gMo_py sm) (gMo_pz sm) (gMo_triangles sm) (gMo_named sm) (gMo_joined sm) (gMo_dropped sm) (gMo_closed sm) (gMo_layers sm) (gMo_thickness sm) (gMo_cuts sm) (gMo_cx sm) (gMo_cy sm) (gMo_cz sm) (gMo_solids sm) (gMo_shell sm) (gMo_skin sm) (gMo_period sm) (gMo_reach sm) (gMo_gap sm) (gMo_bytes sm) (gMo_played sm) (gMo_at sm) (gMo_program sm) (gMo_beads sm) (gMo_ring sm)) := hi
  obtain ⟨h1, h2, h3, h4, h5⟩ := hi
  by_cases g : 1 ≤ a1 ∧ a1 ≤ 41 ∧ a1 % 2 = 1
  · have hmod : Int.tmod a1 2 = 1 := by rw [Int.tmod_eq_emod_of_nonneg (by omega)]; exact g.2.2
    unfold wp_LS_layers
    refine ⟨r1, fun q => by omega, fun _ => ⟨fun q => by omega, fun _ => ?_⟩⟩
    rw [hmod]
    refine ⟨by decide, fun _ => ?_, fun q => absurd q (by decide)⟩
    obtain ⟨e1, hc, ht, hp, hn⟩ := id h1
    rw [e1]
    obtain ⟨n, en⟩ : ∃ n : Nat, gMo_triangles sm = n := ⟨(gMo_triangles sm).toNat, by omega⟩
    have hL := nly_in a1 (2 * tp (fun i => gMo_pz sm (gMo_named sm i)) (3 * n)) 24 0
    refine m_cutAnew (n := n) (f := fun i => gMo_pz sm (gMo_named sm i)) (cx := ifl (fun i => gMo_px sm (gMo_named sm i)) (gMo_cx sm) (3 * n)) (cy := ifl (fun i => gMo_py sm (gMo_named sm i)) (gMo_cy sm) (3 * n)) (cz := ifl (fun i => gMo_pz sm (gMo_named sm i)) (gMo_cz sm) (3 * n)) g en (by omega) hc (fun i i1 i2 => ?_) (fun i i1 i2 => ?_) (fun ens r hmm hr => ?_)
    · have a1 := hn i i1 (by omega)
      rw [ifl_i ⟨i1, i2⟩, ifl_i ⟨i1, i2⟩, ifl_i ⟨i1, i2⟩]
      exact ⟨a1, rfl, rfl, rfl, rfl⟩
    · rw [ifl_i ⟨i1, i2⟩, ifl_i ⟨i1, i2⟩, ifl_i ⟨i1, i2⟩]
      exact hp _
    · have hS : RSl (mkSl (nly a1 (2 * tp (fun i => gMo_pz sm (gMo_named sm i)) (3 * n)) 24 0) ens a1 (mkMe (icpy (gMo_px sm) (gMe_x (gSl_mesh (gLS_slices sx))) (gMo_corners sm)) (icpy (gMo_py sm) (gMe_y (gSl_mesh (gLS_slices sx))) (gMo_corners sm)) (icpy (gMo_pz sm) (gMe_z (gSl_mesh (gLS_slices sx))) (gMo_corners sm)) (gMo_corners sm) (icpy (gMo_named sm) (gMe_named (gSl_mesh (gLS_slices sx))) (3 * gMo_triangles sm)) (gMo_triangles sm)) r) (nly a1 (2 * tp (fun i => gMo_pz sm (gMo_named sm i)) (3 * n)) 24 0) a1 (gMo_triangles sm) (ifl (fun i => gMo_px sm (gMo_named sm i)) (gMo_cx sm) (3 * n)) (ifl (fun i => gMo_py sm (gMo_named sm i)) (gMo_cy sm) (3 * n)) (ifl (fun i => gMo_pz sm (gMo_named sm i)) (gMo_cz sm) (3 * n)) (ifl (sog (ifl (fun i => gMo_px sm (gMo_named sm i)) (gMo_cx sm) (3 * n)) (ifl (fun i => gMo_py sm (gMo_named sm i)) (gMo_cy sm) (3 * n)) (ifl (fun i => gMo_pz sm (gMo_named sm i)) (gMo_cz sm) (3 * n)) a1 (nly a1 (2 * tp (fun i => gMo_pz sm (gMo_named sm i)) (3 * n)) 24 0) n) (gMo_solids sm) 3456) := by
        obtain ⟨-, -, -, -, -, -, hq, -, -⟩ := h3
        refine ⟨rfl, rfl, ⟨by omega, by omega⟩, fun _ => g, rfl, ht, fun i => ?_, fun i i1 i2 => hmm i i1 (by omega), fun l y l1 l2 y1 y2 => ?_⟩
        · obtain ⟨q1, q2, q3⟩ := hq i
          obtain ⟨p1, p2, p3⟩ := hp i
          exact ⟨icpy_in p1 q1, icpy_in p2 q2, icpy_in p3 q3⟩
        · obtain ⟨w1, w2⟩ := hr l y l1 l2 y1 y2
          refine ⟨w1, fun x hx => ?_⟩
          rw [ifl_i ⟨by omega, by omega⟩, sog_at _ _ _ _ _ _ l1 ⟨by omega, by omega⟩ ⟨y1, y2⟩, if_pos l2]
          exact congrArg b01 (w2 x hx).symm
      obtain ⟨s1, s2, s3, s4, s5, b1, b2, b3, b4, b5, -, -⟩ := h4
      refine m_sortCells (SlOk_of hS) ⟨s1, s2, s3, s4, s5⟩ b1 b2 b3 b4 b5 (fun u eu hu => ?_)
      obtain ⟨e5, -, -⟩ := h5
      rw [e5]
      unfold wp_Pr_clear
      refine m_fill (n0 := 3456) (by omega) ?_
      refine m_Mo_layers (n := n) (fx := fun i => gMo_px sm (gMo_named sm i)) (fy := fun i => gMo_py sm (gMo_named sm i)) (fz := fun i => gMo_pz sm (gMo_named sm i)) r1 g en (by omega) (fun i i1 i2 => ?_) (fun i i1 i2 => hp _) ?_
      · have a1 := hn i i1 (by omega)
        exact ⟨⟨a1.1, by omega⟩, rfl, rfl, rfl⟩
      · obtain ⟨c1, c2, c3, c4, c5⟩ := eu
        refine ⟨rfl, ⟨rfl, hc, ht, hp, hn⟩, h2, hS, ⟨c1, c2, c3, c4, c5, b1, b2, b3, b4, b5, fun k l y k1 k2 l1 l2 y1 y2 => (hu l y l1 l2 y1 y2).1 k k1 k2, fun l y l1 l2 y1 y2 => (hu l y l1 l2 y1 y2).2⟩, ⟨rfl, ⟨Int.le_refl _, Int.le_refl _, by show (0 : Int) ≤ 17304; omega⟩, 0, rfl⟩⟩
  · have m0 : wp_Mo_layers a1 sm (fun r3 u4 => -1 = r3 ∧ Inv sx u4) := by
      unfold wp_Mo_layers
      intro P40 P133 P171 P180 P190 h40 h133 h171 h180 h190
      refine m_in r1 (by decide) (by decide) (fun q1 q2 => ⟨by decide, fun q => absurd q (by decide), fun _ => ⟨r1, ?_⟩⟩) (fun q => ⟨by decide, fun _ => ⟨rfl, hI⟩, fun q => absurd rfl q⟩)
      have hmod : Int.tmod a1 2 = 0 := by rw [Int.tmod_eq_emod_of_nonneg (by omega)]; omega
      rw [hmod]
      exact ⟨by decide, fun q => absurd rfl q, fun _ => ⟨rfl, hI⟩⟩
    unfold wp_LS_layers
    refine ⟨r1, fun _ => m0, fun q1 => ⟨fun _ => m0, fun q2 => ?_⟩⟩
    have hmod : Int.tmod a1 2 = 0 := by rw [Int.tmod_eq_emod_of_nonneg (by omega)]; omega
    rw [hmod]
    exact ⟨by decide, fun q => absurd rfl q, fun _ => m0⟩
