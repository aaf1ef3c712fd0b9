/-! ===== MEANING 22: runs, both sides ===== -/
def rk (kf : Nat → Int) (c : Nat) : Nat := (sts kf c).length
theorem rk_0 (kf : Nat → Int) : rk kf 0 = 0 := rfl
theorem rk_t {kf : Nat → Int} {c : Nat} (h : stt kf c = true) : rk kf (c + 1) = rk kf c + 1 := by
  unfold rk
  rw [sts_s, if_pos h, List.length_append]
  rfl
theorem rk_f {kf : Nat → Int} {c : Nat} (h : ¬ stt kf c = true) : rk kf (c + 1) = rk kf c := by
  unfold rk
  rw [sts_s, if_neg h, List.append_nil]
theorem rk_le (kf : Nat → Int) : ∀ c : Nat, rk kf c ≤ c
  | 0 => Nat.le_refl 0
  | c + 1 => by
    have := rk_le kf c
    by_cases h : stt kf c = true
    · rw [rk_t h]; omega
    · rw [rk_f h]; omega
theorem rk_mono (kf : Nat → Int) {a : Nat} : ∀ {b : Nat}, a ≤ b → rk kf a ≤ rk kf b
  | 0, h => by
    have e : a = 0 := by omega
    subst e
    exact Nat.le_refl _
  | b + 1, h => by
    by_cases e : a = b + 1
    · subst e
      exact Nat.le_refl _
    · have := rk_mono kf (a := a) (b := b) (by omega)
      by_cases h : stt kf b = true
      · rw [rk_t h]; omega
      · rw [rk_f h]; omega
theorem rk_lt {kf : Nat → Int} {s c : Nat} (h : s < c) (hs : stt kf s = true) : rk kf s < rk kf c := by
  have h1 := rk_mono kf (a := s + 1) (b := c) (by omega)
  rw [rk_t hs] at h1
  omega
theorem rk_inj {kf : Nat → Int} {s t : Nat} (hs : stt kf s = true) (ht : stt kf t = true) (h : rk kf s = rk kf t) : s = t := by
  by_cases h1 : s < t
  · have := rk_lt h1 hs
    omega
  · by_cases h2 : t < s
    · have := rk_lt h2 ht
      omega
    · omega
theorem stt_iff {kf : Nat → Int} {c : Nat} : stt kf c = true ↔ isL (kf c) ∧ ¬ (0 < c % 12 ∧ kf (c - 1) = kf c) := by
  unfold stt
  simp only [Bool.and_eq_true, Bool.not_eq_true', decide_eq_true_eq, Bool.and_eq_false_iff, decide_eq_false_iff_not]
  constructor
  · rintro ⟨h1, h2⟩
    exact ⟨h1, fun q => h2.elim (fun w => w q.1) (fun w => w q.2)⟩
  · rintro ⟨h1, h2⟩
    refine ⟨h1, ?_⟩
    by_cases q : 0 < c % 12
    · exact Or.inr (fun w => h2 ⟨q, w⟩)
    · exact Or.inl q
/-- the run under way -/
theorem run_now {kf : Nat → Int} : ∀ {n : Nat}, isL (kf n) → ∃ s, s ≤ n ∧ stt kf s = true ∧ rk kf s + 1 = rk kf (n + 1) ∧ s + lnt kf s (n + 1) = n + 1 ∧ kf s = kf n ∧ s / 12 = n / 12
  | 0, h => by
    have hs : stt kf 0 = true := stt_iff.mpr ⟨h, fun q => by omega⟩
    exact ⟨0, Nat.le_refl 0, hs, (rk_t hs).symm, by rw [lnt_self], rfl, rfl⟩
  | n + 1, h => by
    by_cases hs : stt kf (n + 1) = true
    · exact ⟨n + 1, Nat.le_refl _, hs, (rk_t hs).symm, by rw [lnt_self], rfl, rfl⟩
    · have h2 : 0 < (n + 1) % 12 ∧ kf n = kf (n + 1) := by
        by_cases q : 0 < (n + 1) % 12 ∧ kf n = kf (n + 1)
        · exact q
        · exact absurd (stt_iff.mpr ⟨h, q⟩) hs
      obtain ⟨s, s1, s2, s3, s4, s5, s6⟩ := run_now (kf := kf) (n := n) (by rw [h2.2]; exact h)
      refine ⟨s, by omega, s2, by rw [rk_f hs]; exact s3, ?_, s5.trans h2.2, by omega⟩
      rw [lnt_s, if_pos ⟨by omega, s4, (s5.trans h2.2).symm, by omega⟩]
      omega
/-- a cell that is not laid makes no run longer -/
theorem lnt_no {kf : Nat → Int} {s c : Nat} (hs : stt kf s = true) (h : ¬ isL (kf c)) : lnt kf s (c + 1) = lnt kf s c := by
  rw [lnt_s, if_neg (fun q => h (by rw [q.2.2.1]; exact (stt_iff.mp hs).1))]
/-- where a run begins no other grows -/
theorem lnt_new {kf : Nat → Int} {s c : Nat} (h1 : s < c) (hc : stt kf c = true) : lnt kf s (c + 1) = lnt kf s c := by
  rw [lnt_s, if_neg (fun q => ?_)]
  obtain ⟨q1, q2, q3, q4⟩ := q
  have h2 := lnt_in kf s c (c - 1 - s) (by omega)
  rw [show s + (c - 1 - s) = c - 1 by omega] at h2
  exact (stt_iff.mp hc).2 ⟨by omega, h2.1.trans q3.symm⟩
/-- of two runs the earlier one grows no more -/
theorem lnt_old {kf : Nat → Int} {s t c : Nat} (h1 : s < t) (h2 : t ≤ c) (ht : stt kf t = true) : lnt kf s (c + 1) = lnt kf s c := by
  rw [lnt_s, if_neg (fun q => ?_)]
  obtain ⟨q1, q2, q3, q4⟩ := q
  by_cases e : t = c
  · subst e
    have h2 := lnt_in kf s t (t - 1 - s) (by omega)
    rw [show s + (t - 1 - s) = t - 1 by omega] at h2
    exact (stt_iff.mp ht).2 ⟨by omega, h2.1.trans q3.symm⟩
  · have a1 := lnt_in kf s c (t - 1 - s) (by omega)
    have a2 := lnt_in kf s c (t - s) (by omega)
    rw [show s + (t - 1 - s) = t - 1 by omega] at a1
    rw [show s + (t - s) = t by omega] at a2
    exact (stt_iff.mp ht).2 ⟨by omega, a1.1.trans a2.1.symm⟩
theorem lnt_row (kf : Nat → Int) (s c : Nat) : s % 12 + lnt kf s c ≤ 12 := by
  by_cases h : lnt kf s c = 0
  · omega
  · have := (lnt_in kf s c (lnt kf s c - 1) (by omega)).2
    omega
/-- what the runs hold -/
def RI (kf : Nat → Int) (c : Nat) (u : Int → Int) : Prop :=
  ∀ s : Nat, s < c → stt kf s = true → u (4 * (rk kf s : Int)) = kf s ∧ u (4 * (rk kf s : Int) + 1) = ((s % 12 : Nat) : Int) ∧ u (4 * (rk kf s : Int) + 2) = ((s / 12 : Nat) : Int) ∧ u (4 * (rk kf s : Int) + 3) = (lnt kf s c : Int)
theorem m_findRuns {l : Int} {s0 : s_Ro} {s1 : s_So} {kf : Nat → Int} {Q : Int → s_Ro → Prop} (hk : ∀ (x y : Nat), x < 12 → y < 12 → ∀ R : Int → Prop, R (kf (12 * y + x)) → wp_So_kindAt l x y s1 R) (hr : ∀ c, 0 ≤ kf c ∧ kf c < 7) (h : ∀ u : Int → Int, RI kf 144 u → Q (rk kf 144) u) : wp_Ro_findRuns l s0 s1 Q := by
  unfold wp_Ro_findRuns
  intro P5 P18 P65 h5 h18 h65
  have row : ∀ y : Nat, y < 12 → (∀ u : Int → Int, RI kf (12 * y + 12) u → P5 (rk kf (12 * y + 12)) ((y : Int) + 1) u) → ∀ (k x : Nat) (b : Int) (u : Int → Int), x + k = 12 → (if x = 0 then b = 0 else b = kf (12 * y + x - 1)) → RI kf (12 * y + x) u → P18 (rk kf (12 * y + x)) y b x u := by
    intro y hy hn k
    induction k with
    | zero =>
      intro x b u hx hb hu
      apply h18
      have e : x = 12 := by omega
      subst e
      exact ⟨⟨by omega, by omega⟩, fun _ => hn u hu, fun q => by omega⟩
    | succ k ih =>
      intro x b u hx hb hu
      apply h18
      refine ⟨⟨by omega, by omega⟩, fun q => by omega, fun _ => ?_⟩
      refine hk x y (by omega) hy _ ?_
      have hrc := hr (12 * y + x)
      have hle := rk_le kf (12 * y + x)
      have hbr : 0 ≤ b ∧ b < 7 := by
        by_cases e : x = 0
        · rw [if_pos e] at hb
          omega
        · rw [if_neg e] at hb
          have := hr (12 * y + x - 1)
          omega
      have ih' := ih (x + 1) (kf (12 * y + x))
      rw [if_neg (by omega), show 12 * y + (x + 1) - 1 = 12 * y + x by omega, show 12 * y + (x + 1) = 12 * y + x + 1 by omega, show ((x + 1 : Nat) : Int) = (x : Int) + 1 from rfl] at ih'
      by_cases hL : isL (kf (12 * y + x))
      · have hp : ∀ R : Int → Prop, R 1 → wp_Ro_isPrinted (kf (12 * y + x)) R := by
          intro R hR
          have hL' : kf (12 * y + x) = 1 ∨ kf (12 * y + x) = 2 ∨ kf (12 * y + x) = 3 ∨ kf (12 * y + x) = 5 := hL
          generalize kf (12 * y + x) = K at hL' hrc ⊢
          unfold wp_Ro_isPrinted
          repeat' first | (exact hR) | (intro _) | (refine And.intro ?_ ?_) | omega | (exfalso; omega)
        refine hp _ ⟨by decide, fun q => absurd q (by decide), fun _ => ⟨⟨by omega, by omega⟩, ⟨by omega, by omega⟩, fun q => ?_, fun q => ?_⟩⟩
        · have hx0 : x ≠ 0 := by
            intro e
            rw [if_pos e] at hb
            have hL' : kf (12 * y + x) = 1 ∨ kf (12 * y + x) = 2 ∨ kf (12 * y + x) = 3 ∨ kf (12 * y + x) = 5 := hL
            omega
          rw [if_neg hx0] at hb
          have hns : ¬ stt kf (12 * y + x) = true := fun w => (stt_iff.mp w).2 ⟨by omega, by rw [q, hb]⟩
          obtain ⟨s, z1, z2, z3, z4, z5, z6⟩ := run_now hL
          have zlt : s < 12 * y + x := by
            by_cases e : s = 12 * y + x
            · subst e
              exact absurd z2 hns
            · omega
          rw [rk_f hns] at z3 ih'
          apply h65
          refine ⟨⟨by omega, by omega⟩, ?_⟩
          refine ih' _ (by omega) rfl (fun t t1 t2 => ?_)
          have ht : t < 12 * y + x := by
            by_cases e : t = 12 * y + x
            · subst e
              exact absurd t2 hns
            · omega
          obtain ⟨v1, v2, v3, v4⟩ := hu t ht t2
          by_cases e : t = s
          · subst e
            refine ⟨(iset_n _ _ (by omega)).trans v1, (iset_n _ _ (by omega)).trans v2, (iset_n _ _ (by omega)).trans v3, ?_⟩
            have e4 : 4 * (rk kf t : Int) + 3 = 4 * (rk kf (12 * y + x) : Int) - 1 := by omega
            have e5 : lnt kf t (12 * y + x + 1) = lnt kf t (12 * y + x) + 1 := by
              rw [lnt_s] at z4 ⊢
              have hle2 := lnt_le kf t (12 * y + x) (by omega)
              by_cases w : t ≤ 12 * y + x ∧ t + lnt kf t (12 * y + x) = 12 * y + x ∧ kf (12 * y + x) = kf t ∧ (12 * y + x) / 12 = t / 12
              · rw [if_pos w]
              · rw [if_neg w] at z4
                omega
            rw [e4] at v4 ⊢
            show iset u _ _ _ = _
            rw [iset_s]
            show u _ + 1 = _
            rw [v4, e5]
            rfl
          · have hne : rk kf t ≠ rk kf s := fun w => e (rk_inj t2 z2 w)
            refine ⟨(iset_n _ _ (by omega)).trans v1, (iset_n _ _ (by omega)).trans v2, (iset_n _ _ (by omega)).trans v3, (iset_n _ _ (by omega)).trans (v4.trans ?_)⟩
            have hlt : t < s := by
              by_cases w : s < t
              · have := rk_lt w z2
                have := rk_lt ht t2
                omega
              · omega
            rw [lnt_old hlt z1 z2]
        · have hst : stt kf (12 * y + x) = true := by
            refine stt_iff.mpr ⟨hL, fun w => ?_⟩
            have hx0 : x ≠ 0 := by omega
            rw [if_neg hx0] at hb
            exact q (by rw [hb, w.2])
          rw [rk_t hst] at ih'
          unfold wp_Ro_beginRun
          refine ⟨⟨by omega, by omega⟩, ⟨by omega, by omega⟩, ⟨by omega, by omega⟩, ⟨by omega, by omega⟩, ?_⟩
          apply h65
          refine ⟨⟨by omega, by omega⟩, ?_⟩
          refine ih' _ (by omega) rfl (fun t t1 t2 => ?_)
          generalize hR : rk kf (12 * y + x) = R at *
          by_cases e : t = 12 * y + x
          · subst e
            rw [hR]
            show iset (iset (iset (iset (iset u _ _) _ _) _ _) _ _) _ _ _ = _ ∧ iset (iset (iset (iset (iset u _ _) _ _) _ _) _ _) _ _ _ = _ ∧ iset (iset (iset (iset (iset u _ _) _ _) _ _) _ _) _ _ _ = _ ∧ iset (iset (iset (iset (iset u _ _) _ _) _ _) _ _) _ _ _ = _
            refine ⟨?_, ?_, ?_, ?_⟩
            · rw [iset_n _ _ (by omega), iset_n _ _ (by omega), iset_n _ _ (by omega), iset_n _ _ (by omega), iset_s]
            · rw [iset_n _ _ (by omega), iset_n _ _ (by omega), iset_n _ _ (by omega), iset_s]
              omega
            · rw [iset_n _ _ (by omega), iset_n _ _ (by omega), iset_s]
              omega
            · have e9 : 4 * (R : Int) + 3 = 4 * ((R : Int) + 1) - 1 := by omega
              rw [← e9, iset_s, lnt_self]
              show iset (iset (iset (iset u _ _) _ _) _ _) _ _ _ + 1 = _
              rw [iset_s]
              rfl
          · obtain ⟨v1, v2, v3, v4⟩ := hu t (by omega) t2
            have hlt : rk kf t < R := by
              rw [← hR]
              exact rk_lt (by omega) t2
            rw [lnt_new (by omega) hst]
            show iset (iset (iset (iset (iset u _ _) _ _) _ _) _ _) _ _ _ = _ ∧ iset (iset (iset (iset (iset u _ _) _ _) _ _) _ _) _ _ _ = _ ∧ iset (iset (iset (iset (iset u _ _) _ _) _ _) _ _) _ _ _ = _ ∧ iset (iset (iset (iset (iset u _ _) _ _) _ _) _ _) _ _ _ = _
            refine ⟨?_, ?_, ?_, ?_⟩
            · rw [iset_n _ _ (by omega), iset_n _ _ (by omega), iset_n _ _ (by omega), iset_n _ _ (by omega), iset_n _ _ (by omega), v1]
            · rw [iset_n _ _ (by omega), iset_n _ _ (by omega), iset_n _ _ (by omega), iset_n _ _ (by omega), iset_n _ _ (by omega), v2]
            · rw [iset_n _ _ (by omega), iset_n _ _ (by omega), iset_n _ _ (by omega), iset_n _ _ (by omega), iset_n _ _ (by omega), v3]
            · rw [iset_n _ _ (by omega), iset_n _ _ (by omega), iset_n _ _ (by omega), iset_n _ _ (by omega), iset_n _ _ (by omega), v4]
      · have hp : ∀ R : Int → Prop, R 0 → wp_Ro_isPrinted (kf (12 * y + x)) R := by
          intro R hR
          have hL' : ¬ (kf (12 * y + x) = 1 ∨ kf (12 * y + x) = 2 ∨ kf (12 * y + x) = 3 ∨ kf (12 * y + x) = 5) := hL
          generalize kf (12 * y + x) = K at hL' hrc ⊢
          unfold wp_Ro_isPrinted
          repeat' first | (exact hR) | (intro _) | (refine And.intro ?_ ?_) | omega | (exfalso; omega)
        have hns : ¬ stt kf (12 * y + x) = true := fun w => hL (stt_iff.mp w).1
        rw [rk_f hns] at ih'
        refine hp _ ⟨by decide, fun _ => ih' u (by omega) rfl (fun t t1 t2 => ?_), fun q => absurd rfl q⟩
        have ht : t < 12 * y + x := by
          by_cases e : t = 12 * y + x
          · subst e
            exact absurd t2 hns
          · omega
        rw [lnt_no t2 hL]
        exact hu t ht t2
  have rows : ∀ (k y : Nat) (u : Int → Int), y + k = 12 → RI kf (12 * y) u → P5 (rk kf (12 * y)) y u := by
    intro k
    induction k with
    | zero =>
      intro y u hy hu
      apply h5
      have e : y = 12 := by omega
      subst e
      exact ⟨⟨by omega, by omega⟩, fun _ => h u hu, fun q => by omega⟩
    | succ k ih =>
      intro y u hy hu
      apply h5
      refine ⟨⟨by omega, by omega⟩, fun q => by omega, fun _ => ?_⟩
      have h9 := row y (by omega) (fun u' hu' => ?_) 12 0 0 u (by omega) (by rw [if_pos rfl]) hu
      · exact h9
      · have := ih (y + 1) u' (by omega) (by rw [show 12 * (y + 1) = 12 * y + 12 by omega]; exact hu')
        rw [show 12 * (y + 1) = 12 * y + 12 by omega] at this
        exact this
  exact rows 12 0 s0 (by omega) (fun s h1 h2 => by omega)
/-! the reference -/
def kfm (s0 : s_Mo) (l : Int) (c : Nat) : Int := kdm s0 l ((c % 12 : Nat) : Int) ((c / 12 : Nat) : Int)
theorem kfm_rg (s0 : s_Mo) (l : Int) (c : Nat) : 0 ≤ kfm s0 l c ∧ kfm s0 l c < 7 := kd_rg _ _ _ _ _ _ _ _ _ _
theorem tm12 (c : Nat) : Int.tmod (c : Int) 12 = ((c % 12 : Nat) : Int) := by rw [Int.tmod_eq_emod_of_nonneg (by omega)]; rfl
theorem td12 (c : Nat) : Int.tdiv (c : Int) 12 = ((c / 12 : Nat) : Int) := by rw [Int.tdiv_eq_ediv_of_nonneg (by omega)]; rfl
theorem m_kc {l : Int} {c : Nat} {s0 : s_Mo} {Q : Int → Prop} (hk : kOk s0) (hl : sm3 l) (hc : c < 144) (h : Q (kfm s0 l c)) : wp_Mo_kindOf l (Int.tmod (c : Int) 12) (Int.tdiv (c : Int) 12) s0 Q := by
  rw [tm12, td12]
  exact m_kindOf hk hl ⟨by omega, by omega⟩ ⟨by omega, by omega⟩ h
theorem m_kb {l : Int} {c : Nat} {s0 : s_Mo} {Q : Int → Prop} (hk : kOk s0) (hl : sm3 l) (hc : c < 144) (h0 : 0 < c % 12) (h : Q (kfm s0 l (c - 1))) : wp_Mo_kindOf l (Int.tmod (c : Int) 12 - 1) (Int.tdiv (c : Int) 12) s0 Q := by
  rw [tm12, td12]
  refine m_kindOf hk hl ⟨by omega, by omega⟩ ⟨by omega, by omega⟩ ?_
  have e1 : ((c % 12 : Nat) : Int) - 1 = (((c - 1) % 12 : Nat) : Int) := by omega
  have e2 : ((c / 12 : Nat) : Int) = (((c - 1) / 12 : Nat) : Int) := by omega
  rw [e1, e2]
  exact h
theorem m_isLaid {k : Int} {Q : Int → Prop} (hr : 0 ≤ k ∧ k < 7) (h1 : isL k → Q 1) (h0 : ¬ isL k → Q 0) : wp_Mo_isLaid k Q := by
  unfold wp_Mo_isLaid
  by_cases hL : k = 1 ∨ k = 2 ∨ k = 3 ∨ k = 5
  · have hR := h1 hL
    clear h1 h0
    repeat' first | (exact hR) | (intro _) | (refine And.intro ?_ ?_) | omega | (exfalso; omega)
  · have hR := h0 hL
    clear h1 h0
    repeat' first | (exact hR) | (intro _) | (refine And.intro ?_ ?_) | omega | (exfalso; omega)
theorem m_begins {l : Int} {i : Nat} {s0 : s_Mo} {Q : Int → Prop} (hk : kOk s0) (hl : sm3 l) (ri : rg (i : Int)) (h1 : ∀ c : Nat, c < 144 → stt (kfm s0 l) c = true → rk (kfm s0 l) c = i → Q c) (h2 : rk (kfm s0 l) 144 ≤ i → Q (-1)) : wp_Mo_begins l i s0 Q := by
  unfold wp_Mo_begins
  intro P5 h5
  have hr := kfm_rg s0 l
  have key : ∀ (k c : Nat) (v : Int), c + k = 144 → v + rk (kfm s0 l) c = i → 0 ≤ v → P5 v c := by
    intro k
    induction k with
    | zero =>
      intro c v hc hv h0
      apply h5
      have e : c = 144 := by omega
      subst e
      exact ⟨⟨by omega, by omega⟩, fun _ => h2 (by omega), fun q => by omega⟩
    | succ k ih =>
      intro c v hc hv h0
      apply h5
      have hrc := hr c
      have hno : ¬ stt (kfm s0 l) c = true → P5 v ((c : Int) + 1) := fun w => ih (c + 1) v (by omega) (by rw [rk_f w]; exact hv) h0
      have hyes : stt (kfm s0 l) c = true → rg v ∧ ((v ≠ 0 → P5 (v + (-1)) ((c : Int) + 1)) ∧ (v = 0 → Q c)) := fun w => ⟨⟨by omega, by have := ri.2; omega⟩, fun q => ih (c + 1) (v + (-1)) (by omega) (by rw [rk_t w]; omega) (by omega), fun q => h1 c (by omega) w (by omega)⟩
      refine ⟨⟨by omega, by omega⟩, fun q => by omega, fun _ => ?_⟩
      refine m_kc hk hl (by omega) ?_
      refine m_isLaid hrc (fun hL => ⟨by decide, fun q => absurd q (by decide), fun _ => ?_⟩) (fun hL => ⟨by decide, fun _ => hno (fun w => hL (stt_iff.mp w).1), fun q => absurd rfl q⟩)
      refine ⟨tmod_rg _ _ (by omega), fun q => hyes (stt_iff.mpr ⟨hL, fun w => ?_⟩), fun q => ?_⟩
      · rw [tm12] at q
        omega
      · rw [tm12] at q
        have q : 0 < c % 12 := by omega
        refine m_kb hk hl (by omega) q ?_
        have hrb := hr (c - 1)
        exact ⟨⟨by omega, by omega⟩, ⟨by omega, by omega⟩, fun w => hyes (stt_iff.mpr ⟨hL, fun z => w z.2⟩), fun w => hno (fun z => (stt_iff.mp z).2 ⟨q, w⟩)⟩
  exact key 144 0 i (by omega) (by rw [rk_0]; omega) (by omega)
theorem m_longAt {l : Int} {s : Nat} {s0 : s_Mo} {Q : Int → Prop} (hk : kOk s0) (hl : sm3 l) (hs : s < 144) (h : Q (lnt (kfm s0 l) s 144)) : wp_Mo_longAt l s s0 Q := by
  unfold wp_Mo_longAt
  intro P2 h2
  have hr := kfm_rg s0 l
  have key : ∀ (k n : Nat), n + k = 12 - s % 12 → 1 ≤ n → (∀ j, j < n → kfm s0 l (s + j) = kfm s0 l s ∧ (s + j) / 12 = s / 12) → P2 n := by
    intro k
    induction k with
    | zero =>
      intro n hn n1 hj
      apply h2
      rw [tm12]
      refine ⟨⟨by omega, by omega⟩, ⟨by omega, by omega⟩, fun q => ?_, fun q => by omega⟩
      have e := lnt_end (kfm s0 l) s hj (fun w => by omega) 144 (by omega)
      rw [show min n (144 - s) = n by omega] at e
      rw [← e]
      exact h
    | succ k ih =>
      intro n hn n1 hj
      apply h2
      refine ⟨⟨by omega, by omega⟩, by rw [tm12]; exact ⟨by omega, by omega⟩, fun q => by rw [tm12] at q; omega, fun q => ?_⟩
      rw [tm12, td12]
      refine m_kindOf hk hl ⟨by omega, by omega⟩ ⟨by omega, by omega⟩ ?_
      refine m_kindOf hk hl ⟨by omega, by omega⟩ ⟨by omega, by omega⟩ ?_
      have e1 : kdm s0 l (((s % 12 : Nat) : Int) + n) ((s / 12 : Nat) : Int) = kfm s0 l (s + n) := by
        unfold kfm
        rw [show (((s + n) % 12 : Nat) : Int) = ((s % 12 : Nat) : Int) + n by omega, show (((s + n) / 12 : Nat) : Int) = ((s / 12 : Nat) : Int) by omega]
      have e2 : kdm s0 l ((s % 12 : Nat) : Int) ((s / 12 : Nat) : Int) = kfm s0 l s := rfl
      rw [e1, e2]
      have r1 := hr (s + n)
      have r2 := hr s
      refine ⟨⟨by omega, by omega⟩, ⟨by omega, by omega⟩, fun w => ?_, fun w => ?_⟩
      · have e := lnt_end (kfm s0 l) s hj (fun z => w z.1) 144 (by omega)
        rw [show min n (144 - s) = n by omega] at e
        rw [← e]
        exact h
      · refine ih (n + 1) (by omega) (by omega) (fun j j1 => ?_)
        by_cases e : j = n
        · subst e
          exact ⟨w, by omega⟩
        · exact hj j (by omega)
  exact key (11 - s % 12) 1 (by omega) (Nat.le_refl _) (fun j j1 => by
    have e : j = 0 := by omega
    subst e
    exact ⟨rfl, rfl⟩)
theorem m_pathsOf {l : Int} {s0 : s_Mo} {Q : Int → Prop} (hk : kOk s0) (hl : 0 ≤ l ∧ l < gMo_layers s0) (h : Q (rk (kfm s0 l) 144)) : wp_Mo_pathsOf l s0 Q := by
  have hly := hk.1
  unfold wp_Mo_pathsOf
  intro P2 h2
  have hle := rk_le (kfm s0 l) 144
  have key : ∀ (k n : Nat), n + k = rk (kfm s0 l) 144 → P2 n := by
    intro k
    induction k with
    | zero =>
      intro n hn
      apply h2
      refine m_in1 ⟨by omega, by omega⟩ (by decide) ⟨by omega, by omega⟩ hl.1 (by omega) ⟨by decide, fun q => absurd q (by decide), fun _ => ?_⟩
      refine m_begins hk ⟨by omega, by omega⟩ ⟨by omega, by omega⟩ (fun c c1 c2 c3 => ?_) (fun _ => ⟨by decide, fun _ => ?_, fun q => absurd q (by decide)⟩)
      · have := rk_lt c1 c2
        omega
      · have e : n = rk (kfm s0 l) 144 := by omega
        rw [e]
        exact h
    | succ k ih =>
      intro n hn
      apply h2
      refine m_in1 ⟨by omega, by omega⟩ (by decide) ⟨by omega, by omega⟩ hl.1 (by omega) ⟨by decide, fun q => absurd q (by decide), fun _ => ?_⟩
      exact m_begins hk ⟨by omega, by omega⟩ ⟨by omega, by omega⟩ (fun c c1 c2 c3 => ⟨⟨by omega, by omega⟩, fun q => by omega, fun _ => ih (n + 1) (by omega)⟩) (fun q => by omega)
  exact key (rk (kfm s0 l) 144) 0 (by omega)
