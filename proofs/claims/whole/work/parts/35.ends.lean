/-! ===== MEANING 25: the ends of a cut ===== -/
def ct (b0 b1 b2 : Bool) : Bool := !(b0 == b1 && b1 == b2)
def ee0 (b0 b1 : Bool) : Int := if b0 = b1 then 1 else 0
def ee1 (b0 b1 b2 : Bool) : Int := if b0 = b1 then 2 else if b1 = b2 then 2 else 1
def nxe (e : Int) : Int := if e = 2 then 0 else e + 1
theorem nxe_0 : nxe 0 = 1 := rfl
theorem nxe_1 : nxe 1 = 2 := rfl
theorem nxe_2 : nxe 2 = 0 := rfl
/-- below the plane -/
def bw (Z : Int → Int) (H : Int) (i : Int) : Bool := decide (2 * Z i < H)
def evd (zp zq : Int) : Int := 2 * (zq - zp)
def evc (ap aq zp zq H : Int) : Int := ap * (2 * (zq - zp)) + (aq - ap) * (H - 2 * zp)
def edD (Z : Int → Int) (H k k2 : Int) : Int := if 2 * Z k < H then evd (Z k) (Z k2) else evd (Z k2) (Z k)
def edC (A Z : Int → Int) (H k k2 : Int) : Int := if 2 * Z k < H then evc (A k) (A k2) (Z k) (Z k2) H else evc (A k2) (A k) (Z k2) (Z k) H
def e0_ (Z : Int → Int) (H : Int) : Int := ee0 (bw Z H 0) (bw Z H 1)
def e1_ (Z : Int → Int) (H : Int) : Int := ee1 (bw Z H 0) (bw Z H 1) (bw Z H 2)
def isC (Z : Int → Int) (H : Int) : Bool := ct (bw Z H 0) (bw Z H 1) (bw Z H 2)
def En6 (en X Y Z : Int → Int) (H : Int) : Prop :=
  (en 0 = edD Z H (e0_ Z H) (nxe (e0_ Z H)) ∧ en 1 = edC X Z H (e0_ Z H) (nxe (e0_ Z H)) ∧ en 2 = edC Y Z H (e0_ Z H) (nxe (e0_ Z H))) ∧
  (en 3 = edD Z H (e1_ Z H) (nxe (e1_ Z H)) ∧ en 4 = edC X Z H (e1_ Z H) (nxe (e1_ Z H)) ∧ en 5 = edC Y Z H (e1_ Z H) (nxe (e1_ Z H)))
theorem m_isBelow {c l : Int} {s0 : s_Sl} {H zv : Int} {Q : Int → Prop} (hc : 0 ≤ c ∧ c < 80) (eH : (2 * l + 1) * gSl_thickness s0 = H) (rH : rg H) (ez : gMe_z (gSl_mesh s0) c = zv) (hz : 0 ≤ zv ∧ zv ≤ 120) (h1 : 2 * zv < H → Q 1) (h0 : ¬ 2 * zv < H → Q 0) : wp_Sl_isBelow c l s0 Q := by
  unfold wp_Sl_isBelow wp_Sl_doubleHeight
  rw [eH, ez]
  exact ⟨hc, ⟨by omega, by omega⟩, rH, fun q => h0 (by omega), fun q => h1 q⟩
theorem m_writeEnd {v l p q : Int} {s0 : s_Sl} {H xp yp zp xq yq zq : Int} {Q : s_Sl → Prop} (hv : 0 ≤ v ∧ v < 2) (hp : 0 ≤ p ∧ p < 80) (hq : 0 ≤ q ∧ q < 80) (eH : (2 * l + 1) * gSl_thickness s0 = H) (e1 : gMe_x (gSl_mesh s0) p = xp) (e2 : gMe_y (gSl_mesh s0) p = yp) (e3 : gMe_z (gSl_mesh s0) p = zp) (e4 : gMe_x (gSl_mesh s0) q = xq) (e5 : gMe_y (gSl_mesh s0) q = yq) (e6 : gMe_z (gSl_mesh s0) q = zq)
    (h : Q (mkSl (gSl_count s0) (iset (iset (iset (gSl_ends s0) (3 * v) (evd zp zq)) (3 * v + 1) (evc xp xq zp zq H)) (3 * v + 2) (evc yp yq zp zq H)) (gSl_thickness s0) (gSl_mesh s0) (gSl_solidRows s0))) : wp_Sl_writeEnd v l p q s0 Q := by
  subst e1 e2 e3 e4 e5 e6 eH
  exact ⟨hq, hp, ⟨by omega, by omega⟩, ⟨by omega, by omega⟩, ⟨by omega, by omega⟩, h⟩
theorem en6 (e : Int → Int) (a b c d f g : Int) : let E := iset (iset (iset (iset (iset (iset e (3 * 0) a) (3 * 0 + 1) b) (3 * 0 + 2) c) (3 * 1) d) (3 * 1 + 1) f) (3 * 1 + 2) g
    (E 0 = a ∧ E 1 = b ∧ E 2 = c) ∧ (E 3 = d ∧ E 4 = f ∧ E 5 = g) := by
  simp [iset]
theorem m_findEnds {l t : Int} {s0 : s_Sl} {X Y Z : Int → Int} {H : Int} {Q : Int → s_Sl → Prop} (hl : 0 ≤ l ∧ l < gSl_count s0) (hc : gSl_count s0 ≤ 24) (ht : 0 ≤ t ∧ t < gMe_triangles (gSl_mesh s0)) (hT : gMe_triangles (gSl_mesh s0) ≤ 120) (eH : (2 * l + 1) * gSl_thickness s0 = H) (rH : rg H)
    (hn : ∀ i, 0 ≤ i → i < 3 → (0 ≤ gMe_named (gSl_mesh s0) (3 * t + i) ∧ gMe_named (gSl_mesh s0) (3 * t + i) < 80) ∧ gMe_x (gSl_mesh s0) (gMe_named (gSl_mesh s0) (3 * t + i)) = X i ∧ gMe_y (gSl_mesh s0) (gMe_named (gSl_mesh s0) (3 * t + i)) = Y i ∧ gMe_z (gSl_mesh s0) (gMe_named (gSl_mesh s0) (3 * t + i)) = Z i)
    (hz : ∀ i, 0 ≤ i → i < 3 → 0 ≤ Z i ∧ Z i ≤ 120) (h0 : isC Z H = false → Q 0 s0) (h1 : isC Z H = true → ∀ en, En6 en X Y Z H → Q 1 (mkSl (gSl_count s0) en (gSl_thickness s0) (gSl_mesh s0) (gSl_solidRows s0))) : wp_Sl_findEnds l t s0 Q := by
  unfold wp_Sl_findEnds
  intro P30 P114 h30 h114
  have step : ∀ (v k k2 : Int) (en : Int → Int), (0 ≤ v ∧ v < 2) → (0 ≤ k ∧ k < 3) → (0 ≤ k2 ∧ k2 < 3) → Int.tmod (k + 1) 3 = k2 → (bw Z H k = bw Z H k2 → P30 v (k + 1) (mkSl (gSl_count s0) en (gSl_thickness s0) (gSl_mesh s0) (gSl_solidRows s0))) →
      (bw Z H k ≠ bw Z H k2 → P30 (v + 1) (k + 1) (mkSl (gSl_count s0) (iset (iset (iset en (3 * v) (edD Z H k k2)) (3 * v + 1) (edC X Z H k k2)) (3 * v + 2) (edC Y Z H k k2)) (gSl_thickness s0) (gSl_mesh s0) (gSl_solidRows s0))) → P30 v k (mkSl (gSl_count s0) en (gSl_thickness s0) (gSl_mesh s0) (gSl_solidRows s0)) := by
    intro v k k2 en hv hk hk2 ek hs hd
    obtain ⟨a1, a2, a3, a4⟩ := hn k hk.1 hk.2
    obtain ⟨b1, b2, b3, b4⟩ := hn k2 hk2.1 hk2.2
    have z1 := hz k hk.1 hk.2
    have z2 := hz k2 hk2.1 hk2.2
    apply h30
    rw [ek]
    refine ⟨⟨by omega, by omega⟩, fun q => by omega, fun _ => ⟨⟨by omega, by omega⟩, fun q => by omega, fun _ => ⟨⟨by omega, by omega⟩, ⟨by omega, by omega⟩, ⟨by omega, by omega⟩, ?_⟩⟩⟩
    refine m_isBelow a1 eH rH a4 z1 (fun q1 => ?_) (fun q1 => ?_)
    · refine m_isBelow b1 eH rH b4 z2 (fun q2 => ?_) (fun q2 => ?_)
      · refine ⟨by decide, by decide, fun _ => hs ?_, fun q => absurd rfl q⟩
        unfold bw
        rw [decide_eq_true q1, decide_eq_true q2]
      · refine ⟨by decide, by decide, fun q => absurd q (by decide), fun _ => ?_⟩
        have hd := hd (by unfold bw; rw [decide_eq_true q1, decide_eq_false q2]; decide)
        unfold edD edC at hd
        rw [if_pos q1, if_pos q1, if_pos q1] at hd
        refine m_isBelow a1 eH rH a4 z1 (fun _ => ⟨by decide, fun q => absurd q (by decide), fun _ => ?_⟩) (fun q => absurd q1 q)
        apply h114
        refine m_isBelow a1 eH rH a4 z1 (fun _ => ⟨by decide, fun q => absurd q (by decide), fun _ => ?_⟩) (fun q => absurd q1 q)
        exact m_writeEnd hv a1 b1 eH a2 a3 a4 b2 b3 b4 hd
    · refine m_isBelow b1 eH rH b4 z2 (fun q2 => ?_) (fun q2 => ?_)
      · refine ⟨by decide, by decide, fun q => absurd q (by decide), fun _ => ?_⟩
        have hd := hd (by unfold bw; rw [decide_eq_true q2, decide_eq_false q1]; decide)
        unfold edD edC at hd
        rw [if_neg q1, if_neg q1, if_neg q1] at hd
        refine m_isBelow a1 eH rH a4 z1 (fun q => absurd q q1) (fun _ => ⟨by decide, fun _ => ?_, fun q => absurd rfl q⟩)
        apply h114
        refine m_isBelow a1 eH rH a4 z1 (fun q => absurd q q1) (fun _ => ⟨by decide, fun _ => ?_, fun q => absurd rfl q⟩)
        exact m_writeEnd hv b1 a1 eH b2 b3 b4 a2 a3 a4 hd
      · refine ⟨by decide, by decide, fun _ => hs ?_, fun q => absurd rfl q⟩
        unfold bw
        rw [decide_eq_false q1, decide_eq_false q2]
  have d2 : ∀ (k : Int) (s : s_Sl), (0 ≤ k ∧ k ≤ 3) → Q 1 s → P30 2 k s := by
    intro k s hk hq
    apply h30
    exact ⟨⟨by omega, by omega⟩, fun _ => ⟨by decide, fun q => absurd rfl q, fun _ => hq⟩, fun _ => ⟨by decide, fun _ => ⟨fun q => absurd rfl q, fun _ => hq⟩, fun q => absurd q (by decide)⟩⟩
  have d0 : Q 0 s0 → P30 0 3 s0 := by
    intro hq
    apply h30
    exact ⟨by decide, fun _ => ⟨by decide, fun _ => hq, fun q => absurd q (by decide)⟩, fun q => absurd q (by decide)⟩
  refine m_hasLayer ⟨by omega, by omega⟩ ⟨by omega, hc⟩ (fun _ _ => ⟨by decide, fun q => absurd q (by decide), fun _ => ⟨⟨by omega, by omega⟩, fun q => by omega, fun _ => ⟨⟨by omega, by omega⟩, fun _ => ?_, fun q => by omega⟩⟩⟩) (fun q => absurd hl q)
  refine step 0 0 1 (gSl_ends s0) (by decide) (by decide) (by decide) rfl (fun w01 => ?_) (fun w01 => ?_)
  · refine step 0 1 2 (gSl_ends s0) (by decide) (by decide) (by decide) rfl (fun w12 => ?_) (fun w12 => ?_)
    · refine step 0 2 0 (gSl_ends s0) (by decide) (by decide) (by decide) rfl (fun w20 => ?_) (fun w20 => ?_)
      · refine d0 (h0 ?_)
        unfold isC ct
        rw [w01, w12]
        simp
      · exact absurd (w12.symm.trans w01.symm) w20
    · refine step 1 2 0 _ (by decide) (by decide) (by decide) rfl (fun w20 => absurd (w01.symm.trans w20.symm) w12) (fun w20 => ?_)
      refine d2 3 _ (by decide) (h1 ?_ _ ?_)
      · unfold isC ct
        simp [w12]
      · have q0 : e0_ Z H = 1 := if_pos w01
        have q1 : e1_ Z H = 2 := if_pos w01
        unfold En6
        rw [q0, q1, nxe_1, nxe_2]
        exact en6 _ _ _ _ _ _ _
  · refine step 1 1 2 _ (by decide) (by decide) (by decide) rfl (fun w12 => ?_) (fun w12 => ?_)
    · refine step 1 2 0 _ (by decide) (by decide) (by decide) rfl (fun w20 => absurd (w12.trans w20).symm w01) (fun w20 => ?_)
      refine d2 3 _ (by decide) (h1 ?_ _ ?_)
      · unfold isC ct
        simp [w01]
      · have q0 : e0_ Z H = 0 := if_neg w01
        have q1 : e1_ Z H = 2 := (if_neg w01).trans (if_pos w12)
        unfold En6
        rw [q0, q1, nxe_0, nxe_2]
        exact en6 _ _ _ _ _ _ _
    · refine d2 2 _ (by decide) (h1 ?_ _ ?_)
      · unfold isC ct
        simp [w01]
      · have q0 : e0_ Z H = 0 := if_neg w01
        have q1 : e1_ Z H = 1 := (if_neg w01).trans (if_neg w12)
        unfold En6
        rw [q0, q1, nxe_0, nxe_1]
        exact en6 _ _ _ _ _ _ _
/-! the reference -/
theorem m_isAbove {i l : Int} {s0 : s_Mo} {H zv : Int} {Q : Int → Prop} (hi : 0 ≤ i ∧ i < 360) (eH : (2 * l + 1) * gMo_thickness s0 = H) (rH : rg H) (ez : gMo_cz s0 i = zv) (hz : 0 ≤ zv ∧ zv ≤ 120) (ho : H % 2 = 1) (h0 : 2 * zv < H → Q 0) (h1 : ¬ 2 * zv < H → Q 1) : wp_Mo_isAbove i l s0 Q := by
  unfold wp_Mo_isAbove wp_Mo_high
  rw [eH, ez]
  exact ⟨hi, ⟨by omega, by omega⟩, rH, fun q => h0 (by omega), fun q => h1 (by omega)⟩
/-- what the reference has of a triangle -/
def TrM (s0 : s_Mo) (l t : Int) (X Y Z : Int → Int) (H : Int) : Prop :=
  (0 ≤ t ∧ t < 120) ∧ (2 * l + 1) * gMo_thickness s0 = H ∧ rg H ∧ H % 2 = 1 ∧ ∀ i, 0 ≤ i → i < 3 → gMo_cx s0 (3 * t + i) = X i ∧ gMo_cy s0 (3 * t + i) = Y i ∧ gMo_cz s0 (3 * t + i) = Z i ∧ (0 ≤ X i ∧ X i ≤ 120) ∧ (0 ≤ Y i ∧ Y i ≤ 120) ∧ (0 ≤ Z i ∧ Z i ≤ 120)
theorem m_ab {s0 : s_Mo} {l t : Int} {X Y Z : Int → Int} {H : Int} (hT : TrM s0 l t X Y Z H) {i : Int} (hi : 0 ≤ i ∧ i < 3) {Q : Int → Prop} (h : Q (b01 (!bw Z H i))) : wp_Mo_isAbove (3 * t + i) l s0 Q := by
  obtain ⟨ht, eH, rH, ho, hh⟩ := hT
  obtain ⟨-, -, ez, -, -, hz⟩ := hh i hi.1 hi.2
  refine m_isAbove ⟨by omega, by omega⟩ eH rH ez hz ho (fun q => ?_) (fun q => ?_)
  · unfold bw at h
    rw [decide_eq_true q] at h
    exact h
  · unfold bw at h
    rw [decide_eq_false q] at h
    exact h
theorem b01_ne {a b : Bool} : b01 (!a) = b01 (!b) ↔ a = b := by cases a <;> cases b <;> decide
theorem b01_r (a : Bool) : rg (b01 a) := by cases a <;> decide
theorem m_isCut {s0 : s_Mo} {l t : Int} {X Y Z : Int → Int} {H : Int} (hT : TrM s0 l t X Y Z H) {Q : Int → Prop} (h : Q (b01 (isC Z H))) : wp_Mo_isCut l t s0 Q := by
  unfold wp_Mo_isCut
  have a0 := fun (R : Int → Prop) (hR : R (b01 (!bw Z H 0))) => m_ab hT (i := 0) (by decide) hR
  rw [Int.add_zero] at a0
  refine a0 _ (m_ab hT (by decide) ⟨b01_r _, b01_r _, fun q => ?_, fun q => ?_⟩)
  · have e : isC Z H = true := by
      unfold isC ct
      have : bw Z H 0 ≠ bw Z H 1 := fun w => q (by rw [w])
      simp [this]
    rw [e] at h
    exact h
  · have q := b01_ne.mp q
    refine m_ab hT (by decide) ⟨b01_r _, fun q2 => ?_, fun q2 => ?_⟩
    · have q2 := b01_ne.mp q2
      have e : isC Z H = false := by
        unfold isC ct
        rw [q, q2]
        simp
      rw [e] at h
      exact h
    · have e : isC Z H = true := by
        unfold isC ct
        have : bw Z H 1 ≠ bw Z H 2 := fun w => q2 (by rw [← w, q])
        simp [this]
      rw [e] at h
      exact h
theorem m_edgeOf {s0 : s_Mo} {l t : Int} {X Y Z : Int → Int} {H : Int} (hT : TrM s0 l t X Y Z H) (hC : isC Z H = true) {e : Int} (he : e = 0 ∨ e = 1) {Q : Int → Prop} (h : Q (if e = 0 then e0_ Z H else e1_ Z H)) : wp_Mo_edgeOf l t e s0 Q := by
  unfold wp_Mo_edgeOf
  intro P6 h6
  have step : ∀ (v k k2 : Int), (0 ≤ v ∧ v < 2) → (0 ≤ k ∧ k < 3) → (0 ≤ k2 ∧ k2 < 3) → Int.tmod (k + 1) 3 = k2 → (bw Z H k = bw Z H k2 → P6 v (k + 1)) → (bw Z H k ≠ bw Z H k2 → v ≠ 0 → P6 (v + (-1)) (k + 1)) → (bw Z H k ≠ bw Z H k2 → v = 0 → Q k) → P6 v k := by
    intro v k k2 hv hk hk2 ek hs hd hq
    apply h6
    rw [ek]
    refine ⟨⟨by omega, by omega⟩, fun q => by omega, fun _ => m_ab hT hk ⟨⟨by omega, by omega⟩, m_ab hT hk2 ⟨b01_r _, b01_r _, fun q => ?_, fun q => hs (b01_ne.mp q)⟩⟩⟩
    have w : bw Z H k ≠ bw Z H k2 := fun w => q (by rw [w])
    exact ⟨⟨by omega, by omega⟩, hd w, hq w⟩
  have hC' : ¬ (bw Z H 0 = bw Z H 1 ∧ bw Z H 1 = bw Z H 2) := by
    intro w
    unfold isC ct at hC
    rw [w.1, w.2] at hC
    simp at hC
  rcases he with rfl | rfl
  · rw [if_pos rfl] at h
    refine step 0 0 1 (by decide) (by decide) (by decide) rfl (fun w01 => ?_) (fun _ q => absurd rfl q) (fun w01 _ => ?_)
    · have q0 : e0_ Z H = 1 := if_pos w01
      rw [q0] at h
      exact step 0 1 2 (by decide) (by decide) (by decide) rfl (fun w12 => absurd ⟨w01, w12⟩ hC') (fun _ q => absurd rfl q) (fun w12 _ => h)
    · have q0 : e0_ Z H = 0 := if_neg w01
      rw [q0] at h
      exact h
  · rw [if_neg (by decide)] at h
    refine step 1 0 1 (by decide) (by decide) (by decide) rfl (fun w01 => ?_) (fun w01 _ => ?_) (fun _ q => absurd q (by decide))
    · have q1 : e1_ Z H = 2 := if_pos w01
      rw [q1] at h
      refine step 1 1 2 (by decide) (by decide) (by decide) rfl (fun w12 => absurd ⟨w01, w12⟩ hC') (fun w12 _ => ?_) (fun _ q => absurd q (by decide))
      exact step 0 2 0 (by decide) (by decide) (by decide) rfl (fun w20 => absurd (w01.symm.trans w20.symm) w12) (fun _ q => absurd rfl q) (fun _ _ => h)
    · refine step 0 1 2 (by decide) (by decide) (by decide) rfl (fun w12 => ?_) (fun _ q => absurd rfl q) (fun w12 _ => ?_)
      · have q1 : e1_ Z H = 2 := (if_neg w01).trans (if_pos w12)
        rw [q1] at h
        exact step 0 2 0 (by decide) (by decide) (by decide) rfl (fun w20 => absurd (w12.trans w20).symm w01) (fun _ q => absurd rfl q) (fun _ _ => h)
      · have q1 : e1_ Z H = 1 := (if_neg w01).trans (if_neg w12)
        rw [q1] at h
        exact h
theorem e0_in (Z : Int → Int) (H : Int) : (0 ≤ e0_ Z H ∧ e0_ Z H < 3) ∧ (0 ≤ e1_ Z H ∧ e1_ Z H < 3) := by
  unfold e0_ e1_ ee0 ee1
  refine ⟨?_, ?_⟩
  · split <;> decide
  · split
    · decide
    · split <;> decide
theorem nxe_in {e : Int} (h : 0 ≤ e ∧ e < 3) : (0 ≤ nxe e ∧ nxe e < 3) ∧ Int.tmod (e + 1) 3 = nxe e := by
  have : e = 0 ∨ e = 1 ∨ e = 2 := by omega
  rcases this with rfl | rfl | rfl <;> decide
/-- an end as the reference has it -/
def enR (X Y Z : Int → Int) (H e w : Int) : Int := if w = 0 then edD Z H e (nxe e) else if w = 1 then edC X Z H e (nxe e) else edC Y Z H e (nxe e)
theorem m_end {s0 : s_Mo} {l t : Int} {X Y Z : Int → Int} {H : Int} (hT : TrM s0 l t X Y Z H) (hC : isC Z H = true) {e w : Int} (he : e = 0 ∨ e = 1) (rw_ : rg w) {Q : Int → Prop} (h : Q (enR X Y Z H (if e = 0 then e0_ Z H else e1_ Z H) w)) : wp_Mo_end l t e w s0 Q := by
  unfold wp_Mo_end
  intro P51 h51
  refine m_edgeOf hT hC he ?_
  have hE : 0 ≤ (if e = 0 then e0_ Z H else e1_ Z H) ∧ (if e = 0 then e0_ Z H else e1_ Z H) < 3 := by
    have := e0_in Z H
    split
    · exact this.1
    · exact this.2
  generalize (if e = 0 then e0_ Z H else e1_ Z H) = E at hE h
  obtain ⟨n1, n2⟩ := nxe_in hE
  rw [n2]
  have hT' := hT
  obtain ⟨ht, eH, rH, ho, hh⟩ := hT
  obtain ⟨a1, a2, a3, -⟩ := hh E hE.1 hE.2
  obtain ⟨b1, b2, b3, -⟩ := hh (nxe E) n1.1 n1.2
  refine ⟨⟨by omega, by omega⟩, m_ab hT' hE ⟨b01_r _, fun q => ?_, fun q => ?_⟩⟩
  · have q : 2 * Z E < H := by
      by_cases w : 2 * Z E < H
      · exact w
      · unfold bw at q
        rw [decide_eq_false w] at q
        exact absurd q (by decide)
    apply h51
    unfold wp_Mo_high
    rw [a1, a2, a3, b1, b2, b3, eH]
    refine ⟨⟨by omega, by omega⟩, ⟨by omega, by omega⟩, rw_, fun w0 => ⟨fun w1 => ?_, fun w1 => ?_⟩, fun w0 => ?_⟩
    · unfold enR edC at h
      rw [if_neg w0, if_neg w1, if_pos q] at h
      exact h
    · unfold enR edC at h
      rw [if_neg w0, if_pos w1, if_pos q] at h
      exact h
    · unfold enR edD at h
      rw [if_pos w0, if_pos q] at h
      exact h
  · have q : ¬ 2 * Z E < H := by
      intro w
      unfold bw at q
      rw [decide_eq_true w] at q
      exact q rfl
    apply h51
    unfold wp_Mo_high
    rw [a1, a2, a3, b1, b2, b3, eH]
    refine ⟨⟨by omega, by omega⟩, ⟨by omega, by omega⟩, rw_, fun w0 => ⟨fun w1 => ?_, fun w1 => ?_⟩, fun w0 => ?_⟩
    · unfold enR edC at h
      rw [if_neg w0, if_neg w1, if_neg q] at h
      exact h
    · unfold enR edC at h
      rw [if_neg w0, if_pos w1, if_neg q] at h
      exact h
    · unfold enR edD at h
      rw [if_pos w0, if_neg q] at h
      exact h
