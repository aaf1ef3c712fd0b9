/-! ===== MEANING 34: holes closed ===== -/
theorem tok_ad {m : Int → Int} {nc : Int} {N : Nat} {a b c : Int} (hT : Tok m nc N) (ha : 0 ≤ a ∧ a < nc) (hb : 0 ≤ b ∧ b < nc) (hc : 0 ≤ c ∧ c < nc) (d1 : a ≠ b) (d2 : b ≠ c) (d3 : c ≠ a) : Tok (ad3 m N a b c) nc (N + 1) := by
  refine ⟨fun i i1 i2 => ad3_in (fun w => hT.1 i i1 (by omega)) ha hb hc, fun t ht => ?_⟩
  by_cases e : t = N
  · subst e
    rw [ad3_0, ad3_1, ad3_2]
    exact ⟨d1, d2, d3⟩
  · rw [ad3_n _ _ _ _ _ (by omega), ad3_n _ _ _ _ _ (by omega), ad3_n _ _ _ _ _ (by omega)]
    exact hT.2 t (by omega)
/-- the names after k triangles of a hole -/
def fln (v : Nat → Int) (nm : Int → Int) (n : Nat) : Nat → (Int → Int)
  | 0 => nm
  | k + 1 => ad3 (fln v nm n k) ((n + k : Nat) : Int) (v 0) (v (k + 2)) (v (k + 1))
theorem fln_tok {v : Nat → Int} {nm : Int → Int} {nc : Int} {n H : Nat} (hT : Tok nm nc n) (hv : ∀ j, j < H → 0 ≤ v j ∧ v j < nc) (hd : ∀ i j, i < j → j < H → v i ≠ v j) : ∀ k : Nat, k + 2 ≤ H → Tok (fln v nm n k) nc (n + k)
  | 0, _ => hT
  | k + 1, h => tok_ad (fln_tok hT hv hd k (by omega)) (hv 0 (by omega)) (hv (k + 2) (by omega)) (hv (k + 1) (by omega)) (hd 0 (k + 2) (by omega) (by omega)) (Ne.symm (hd (k + 1) (k + 2) (by omega) (by omega))) (Ne.symm (hd 0 (k + 1) (by omega) (by omega)))
theorem fln_En (v : Nat → Int) (nm : Int → Int) (n k : Nat) : En (fln v nm n (k + 1)) (3 * (n + k)) = En (fln v nm n k) (3 * (n + k)) := by
  funext a b
  refine En_congr (fun i i1 i2 => ?_) a b
  show ad3 (fln v nm n k) ((n + k : Nat) : Int) (v 0) (v (k + 2)) (v (k + 1)) i = fln v nm n k i
  exact ad3_n _ _ _ _ _ (Or.inl (by omega))
theorem hf_steps (N : Int → Int) (first : Int) : ∀ (k v : Nat), hf N first k v ≠ 0 → ∀ j : Nat, v ≤ j → j < hf N first k v → 0 ≤ N (vv N first j) ∧ seen N first (vv N first j) j = false
  | 0, v => fun h => absurd rfl h
  | k + 1, v => by
    have ih := hf_steps N first k (v + 1)
    rw [hf_s]
    by_cases w1 : N (vv N first v) < 0
    · rw [if_pos w1]
      exact fun h => absurd rfl h
    · rw [if_neg w1]
      by_cases w2 : seen N first (vv N first v) v = true
      · rw [if_pos w2]
        exact fun h => absurd rfl h
      · rw [if_neg w2]
        have w2 : seen N first (vv N first v) v = false := by
          cases hc : seen N first (vv N first v) v with
          | false => rfl
          | true => exact absurd hc w2
        by_cases w3 : vv N first (v + 1) = first
        · rw [if_pos w3]
          intro _ j j1 j2
          have : j = v := by omega
          subst this
          exact ⟨by omega, w2⟩
        · rw [if_neg w3]
          intro h j j1 j2
          by_cases e : j = v
          · subst e
            exact ⟨by omega, w2⟩
          · exact ih h j (by omega) j2
theorem hole_ok {nm : Int → Int} {n nc : Nat} {first : Int} (hF : 0 ≤ first ∧ first < nc) (h : okh (hf (nxt nm n nc) first 16 0) n) : (∀ j, j < hf (nxt nm n nc) first 16 0 → 0 ≤ vv (nxt nm n nc) first j ∧ vv (nxt nm n nc) first j < nc) ∧ (∀ i j, i < j → j < hf (nxt nm n nc) first 16 0 → vv (nxt nm n nc) first i ≠ vv (nxt nm n nc) first j) := by
  have hs := hf_steps (nxt nm n nc) first 16 0 (by unfold okh at h; omega)
  refine ⟨fun j => ?_, fun i j hij hj w => ?_⟩
  · induction j with
    | zero => exact fun _ => hF
    | succ j ih =>
      intro hj
      have h1 := (hs j (by omega) (by omega)).1
      have h2 := (nxt_in nm n nc (vv (nxt nm n nc) first j)).2
      exact ⟨h1, h2⟩
  · have h1 := (hs j (by omega) hj).2
    rw [seen_iff.mpr ⟨i, hij, w⟩] at h1
    cases h1
theorem m_fillHole {H n nc : Nat} {s0 : s_Mn} {s1 : s_Me} {nm : Int → Int} {v : Nat → Int} {Q : s_Mn → s_Me → Prop} (hT : Tok nm nc n) (hc : nc ≤ 80) (hH : 3 ≤ H ∧ H ≤ 16 ∧ n + H ≤ 122) (hv : ∀ j, j < H → 0 ≤ v j ∧ v j < nc) (hd : ∀ i j, i < j → j < H → v i ≠ v j) (hho : ∀ k : Nat, k < H → gMn_hole s0 k = v k) (q1 : gMe_corners s1 = nc) (q2 : gMe_named s1 = nm) (q3 : gMe_triangles s1 = n) (hb : BO (gMn_balance s0) (gMn_openFrom s0) (En nm (3 * n)))
    (h : ∀ B O : Int → Int, BO B O (En (fln v nm n (H - 2)) (3 * (n + (H - 2)))) → Q (mkMn (gMn_joined s0) (gMn_dropped s0) (gMn_closed s0 + 1) (gMn_lowestHere s0) (gMn_counted s0) B O (gMn_hole s0)) (mkMe (gMe_x s1) (gMe_y s1) (gMe_z s1) (gMe_corners s1) (fln v nm n (H - 2)) ((n + (H - 2) : Nat) : Int))) : wp_Mn_fillHole H s0 s1 Q := by
  unfold wp_Mn_fillHole
  intro P2 h2
  have key : ∀ (j k : Nat) (B O : Int → Int), k + j = H - 2 → BO B O (En (fln v nm n k) (3 * (n + k))) → P2 ((k : Int) + 1) (mkMn (gMn_joined s0) (gMn_dropped s0) (gMn_closed s0) (gMn_lowestHere s0) (gMn_counted s0) B O (gMn_hole s0)) (mkMe (gMe_x s1) (gMe_y s1) (gMe_z s1) (gMe_corners s1) (fln v nm n k) ((n + k : Nat) : Int)) := by
    intro j
    induction j with
    | zero =>
      intro k B O e hbo
      have e : k = H - 2 := by omega
      subst e
      apply h2
      exact ⟨⟨by omega, by omega⟩, ⟨by omega, by omega⟩, fun _ => h B O hbo, fun q => by omega⟩
    | succ j ih =>
      intro k B O e hbo
      have v0 := hv 0 (by omega)
      have v1 := hv (k + 1) (by omega)
      have v2 := hv (k + 2) (by omega)
      have g0 : gMn_hole s0 0 = v 0 := hho 0 (by omega)
      have g1 : gMn_hole s0 ((k : Int) + 1) = v (k + 1) := hho (k + 1) (by omega)
      have g2 : gMn_hole s0 ((k : Int) + 1 + 1) = v (k + 2) := hho (k + 2) (by omega)
      apply h2
      refine ⟨⟨by omega, by omega⟩, ⟨by omega, by omega⟩, fun q => by omega, fun _ => ⟨⟨by omega, by omega⟩, ⟨by omega, by omega⟩, ?_⟩⟩
      show wp_Me_addTriangle (gMn_hole s0 0) (gMn_hole s0 ((k : Int) + 1 + 1)) (gMn_hole s0 ((k : Int) + 1)) _ _
      rw [g0, g1, g2]
      refine m_Me_tri1 (s0 := mkMe (gMe_x s1) (gMe_y s1) (gMe_z s1) (gMe_corners s1) (fln v nm n k) ((n + k : Nat) : Int)) ⟨by omega, by omega⟩ ⟨by omega, by omega⟩ ⟨by omega, by omega⟩ ⟨by show 0 ≤ gMe_corners s1; omega, by show gMe_corners s1 ≤ 80; omega⟩ ⟨by show 0 ≤ ((n + k : Nat) : Int); omega, by show ((n + k : Nat) : Int) < 120; omega⟩ ⟨v0.1, by show v 0 < gMe_corners s1; omega⟩ ⟨v2.1, by show v (k + 2) < gMe_corners s1; omega⟩ ⟨v1.1, by show v (k + 1) < gMe_corners s1; omega⟩ ?_
      show wp_Mn_addEdgesOf (((n + k : Nat) : Int) + 1 - 1) _ _ _
      rw [Int.add_sub_cancel]
      refine m_addEdges (n := n + k + 1) (t := n + k) (nm := fln v nm n (k + 1)) (fln_tok hT hv hd (k + 1) (by omega)) (by omega) (by omega) (by omega) rfl ?_ (fun B' O' hb' => ih (k + 1) B' O' (by omega) hb')
      rw [fln_En]
      exact hbo
  have h9 := key (H - 2) 0 (gMn_balance s0) (gMn_openFrom s0) (by omega) hb
  have es : (mkMe (gMe_x s1) (gMe_y s1) (gMe_z s1) (gMe_corners s1) (fln v nm n 0) ((n + 0 : Nat) : Int)) = s1 := by
    show mkMe (gMe_x s1) (gMe_y s1) (gMe_z s1) (gMe_corners s1) nm (n : Int) = s1
    rw [← q2, ← q3]
  rw [es] at h9
  exact h9
/-- the first of k from c on -/
def fc (p : Nat → Bool) : Nat → Nat → Nat
  | 0, c => c
  | k + 1, c => if p c = true then c else fc p k (c + 1)
theorem fc_s (p : Nat → Bool) (k c : Nat) : fc p (k + 1) c = if p c = true then c else fc p k (c + 1) := rfl
theorem fc_p (p : Nat → Bool) : ∀ k c : Nat, c ≤ fc p k c ∧ fc p k c ≤ c + k ∧ (fc p k c < c + k → p (fc p k c) = true)
  | 0, c => ⟨Nat.le_refl _, Nat.le_refl _, fun h => absurd h (Nat.lt_irrefl _)⟩
  | k + 1, c => by
    have ih := fc_p p k (c + 1)
    rw [fc_s]
    by_cases w : p c = true
    · rw [if_pos w]
      exact ⟨by omega, by omega, fun _ => w⟩
    · rw [if_neg w]
      exact ⟨by omega, by omega, fun q => ih.2.2 (by omega)⟩
def okb (n : Nat) (t : Int) : Bool := decide (3 ≤ n ∧ n ≤ 16 ∧ t + n - 2 ≤ 120)
theorem okb_t {n : Nat} {t : Int} : okb n t = true ↔ okh n t := decide_eq_true_iff
/-- may the hole from c be closed -/
def pp (nm : Int → Int) (n nc : Nat) (c : Nat) : Bool := okb (hf (nxt nm n nc) (c : Int) 16 0) n
theorem pp_t {nm : Int → Int} {n nc c : Nat} : pp nm n nc c = true ↔ okh (hf (nxt nm n nc) (c : Int) 16 0) n := okb_t
def c0 (nm : Int → Int) (n nc : Nat) : Nat := fc (pp nm n nc) nc 0
def Hh (nm : Int → Int) (n nc : Nat) : Nat := hf (nxt nm n nc) (c0 nm n nc : Int) 16 0
def nm1 (nm : Int → Int) (n nc : Nat) : Int → Int := fln (vv (nxt nm n nc) (c0 nm n nc : Int)) nm n (Hh nm n nc - 2)
theorem st_ok {nm : Int → Int} {n nc : Nat} (hT : Tok nm nc n) (h : c0 nm n nc < nc) : okh (Hh nm n nc) n ∧ Tok (nm1 nm n nc) nc (n + (Hh nm n nc - 2)) := by
  have h1 : okh (Hh nm n nc) n := okb_t.mp ((fc_p (pp nm n nc) nc 0).2.2 (by rw [Nat.zero_add]; exact h))
  obtain ⟨o1, o2⟩ := hole_ok (nm := nm) (n := n) (nc := nc) (first := (c0 nm n nc : Int)) ⟨by omega, by omega⟩ h1
  refine ⟨h1, fln_tok hT o1 o2 _ ?_⟩
  have : 3 ≤ Hh nm n nc := h1.1
  show Hh nm n nc - 2 + 2 ≤ Hh nm n nc
  omega
theorem m_closeFirst {n nc : Nat} {s0 : s_Mn} {s1 : s_Me} {nm : Int → Int} {Q : Int → s_Mn → s_Me → Prop} (hT : Tok nm nc n) (hn : n ≤ 120) (hc : nc ≤ 80) (q1 : gMe_corners s1 = nc) (q2 : gMe_named s1 = nm) (q3 : gMe_triangles s1 = n) (hb : BO (gMn_balance s0) (gMn_openFrom s0) (En nm (3 * n)))
    (h0 : ¬ c0 nm n nc < nc → ∀ ho : Int → Int, Q 0 (mkMn (gMn_joined s0) (gMn_dropped s0) (gMn_closed s0) (gMn_lowestHere s0) (gMn_counted s0) (gMn_balance s0) (gMn_openFrom s0) ho) s1)
    (h1 : c0 nm n nc < nc → ∀ B O ho : Int → Int, BO B O (En (nm1 nm n nc) (3 * (n + (Hh nm n nc - 2)))) → Q 1 (mkMn (gMn_joined s0) (gMn_dropped s0) (gMn_closed s0 + 1) (gMn_lowestHere s0) (gMn_counted s0) B O ho) (mkMe (gMe_x s1) (gMe_y s1) (gMe_z s1) (gMe_corners s1) (nm1 nm n nc) ((n + (Hh nm n nc - 2) : Nat) : Int))) : wp_Mn_closeFirstHole s0 s1 Q := by
  unfold wp_Mn_closeFirstHole
  intro P2 h2
  have key : ∀ (k c : Nat) (ho : Int → Int), c + k = nc → c0 nm n nc = fc (pp nm n nc) k c → P2 c (mkMn (gMn_joined s0) (gMn_dropped s0) (gMn_closed s0) (gMn_lowestHere s0) (gMn_counted s0) (gMn_balance s0) (gMn_openFrom s0) ho) s1 := by
    intro k
    induction k with
    | zero =>
      intro c ho e ec
      have e : c = nc := by omega
      have ec : c0 nm n nc = c := ec
      apply h2
      rw [q1]
      exact ⟨⟨by omega, by omega⟩, ⟨by omega, by omega⟩, fun _ => h0 (by omega) ho, fun q => by omega⟩
    | succ k ih =>
      intro c ho e ec
      rw [fc_s] at ec
      have hle := hf_le (nxt nm n nc) c 16 0
      have no : ¬ okh (hf (nxt nm n nc) c 16 0) n → ∀ ho' : Int → Int, P2 ((c : Int) + 1) (mkMn (gMn_joined s0) (gMn_dropped s0) (gMn_closed s0) (gMn_lowestHere s0) (gMn_counted s0) (gMn_balance s0) (gMn_openFrom s0) ho') s1 := by
        intro w ho'
        rw [if_neg (fun x => w (pp_t.mp x))] at ec
        exact ih (c + 1) ho' (by omega) ec
      apply h2
      rw [q1]
      refine ⟨⟨by omega, by omega⟩, ⟨by omega, by omega⟩, fun q => by omega, fun _ => ?_⟩
      refine m_walkHole (s0 := mkMn (gMn_joined s0) (gMn_dropped s0) (gMn_closed s0) (gMn_lowestHere s0) (gMn_counted s0) (gMn_balance s0) (gMn_openFrom s0) ho) (nm := nm) (n := n) hT hn hc hb ⟨by omega, by omega⟩ (fun ho' hho => ?_)
      rw [q3]
      refine ⟨⟨by omega, by omega⟩, fun q => no (fun w => by unfold okh at w; omega) ho', fun q => ⟨⟨by omega, by omega⟩, fun q5 => no (fun w => by unfold okh at w; omega) ho', fun q5 => ?_⟩⟩
      have w : okh (hf (nxt nm n nc) c 16 0) n := ⟨by omega, by omega, by omega⟩
      rw [if_pos (pp_t.mpr w)] at ec
      obtain ⟨o1, o2⟩ := hole_ok (nm := nm) (n := n) (nc := nc) (first := (c : Int)) ⟨by omega, by omega⟩ w
      have h1 := h1 (by omega)
      unfold nm1 Hh at h1
      rw [ec] at h1
      exact m_fillHole (s0 := mkMn (gMn_joined s0) (gMn_dropped s0) (gMn_closed s0) (gMn_lowestHere s0) (gMn_counted s0) (gMn_balance s0) (gMn_openFrom s0) ho') hT hc ⟨by omega, by omega, by omega⟩ o1 o2 hho q1 q2 q3 hb (fun B O hbo => h1 B O ho' hbo)
  exact key nc 0 (gMn_hole s0) (by omega) rfl
/-- all rounds -/
def rd (nc : Nat) : Nat → (Int → Int) → Nat → Int → (Int → Int) × Nat × Int
  | 0, nm, n, cl => (nm, n, cl)
  | k + 1, nm, n, cl => if c0 nm n nc < nc then rd nc k (nm1 nm n nc) (n + (Hh nm n nc - 2)) (cl + 1) else (nm, n, cl)
theorem rd_s (nc k : Nat) (nm : Int → Int) (n : Nat) (cl : Int) : rd nc (k + 1) nm n cl = if c0 nm n nc < nc then rd nc k (nm1 nm n nc) (n + (Hh nm n nc - 2)) (cl + 1) else (nm, n, cl) := rfl
theorem rd_ok {nc : Nat} : ∀ (k : Nat) {nm : Int → Int} {n : Nat} {cl : Int}, Tok nm nc n → n ≤ 120 → Tok (rd nc k nm n cl).1 nc (rd nc k nm n cl).2.1 ∧ (rd nc k nm n cl).2.1 ≤ 120
  | 0, nm, n, cl, hT, hn => ⟨hT, hn⟩
  | k + 1, nm, n, cl, hT, hn => by
    rw [rd_s]
    by_cases w : c0 nm n nc < nc
    · rw [if_pos w]
      obtain ⟨s1, s2⟩ := st_ok hT w
      have s1 := s1.2.2
      have s3 := (st_ok hT w).1.1
      exact rd_ok k s2 (by omega)
    · rw [if_neg w]
      exact ⟨hT, hn⟩
/-- open edges in all -/
def opa (nm : Int → Int) (n nc : Nat) : Int := sm (fun p => sm (opn nm n (p : Int)) nc) nc
theorem m_openInAll {n nc : Nat} {s0 : s_Mn} {nm : Int → Int} {Q : Int → Prop} (hT : Tok nm nc n) (hc : nc ≤ 80) (hb : BO (gMn_balance s0) (gMn_openFrom s0) (En nm (3 * n))) (h : Q (opa nm n nc)) : wp_Mn_openInAll nc s0 Q := by
  unfold wp_Mn_openInAll
  intro P4 h4
  have key : ∀ (k c : Nat), c + k = nc → P4 (sm (fun p => sm (opn nm n (p : Int)) nc) c) c := by
    intro k
    induction k with
    | zero =>
      intro c e
      have e : c = nc := by omega
      subst e
      apply h4
      exact ⟨⟨by omega, by omega⟩, ⟨by omega, by omega⟩, fun _ => h, fun q => by omega⟩
    | succ k ih =>
      intro c e
      have h9 := ih (c + 1) (by omega)
      rw [sm_s] at h9
      apply h4
      rw [(hb.2.1 c (by omega) (by omega)).trans (opn_80 hT hc c)]
      exact ⟨⟨by omega, by omega⟩, ⟨by omega, by omega⟩, fun q => by omega, fun _ => ⟨⟨by omega, by omega⟩, h9⟩⟩
  exact key nc 0 (by omega)
