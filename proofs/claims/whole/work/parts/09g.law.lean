/-! ===== THE LAW: its script, its loop ===== -/
section LW
variable {p : Program} {l : Launch} {e : Env} {R : Room} {s : State} {m : MethodId} {args : Array Value} {below : List Frame} {meth : Method} {c : Code} {D : va_G} {A : Nat → Prop} {nL k n : Nat} {Q : State → Prop}
variable {ws : va_W} {pc : Nat} {lv : List (Nat × Value)} {st : List Value} {cc : ByteArray} {own : String} {K : Nat → ClassId}
def zX (xs : Nat → Int32) (z : Int) : Int := (xs z.toNat).toInt
theorem zX_rg (xs : Nat → Int32) (z : Int) : rg (zX xs z) := rg_of _
theorem v_sld (C : Cx p s m args c cc nL own D K A) {b L : Nat} {xs : Nat → Int32} (hX : va_X b L xs s s.heap) (hbl : b < s.heap.size) (hbA : ¬ A b) {z : Int} (hz : 0 ≤ z ∧ z < (L : Int)) (hL : L ≤ 3072) (hdg : decode cc pc = .ok (.iaload, 1)) (kk : V p l e R s m args below meth c D A nL k n Q ws (pc + 1) lv (.int (zI (zX xs z)) :: st)) : V p l e R s m args below meth c D A nL k n Q ws pc lv (.int (zI z) :: .ref b :: st) := by
  obtain ⟨i, rfl⟩ := Int.eq_ofNat_of_zero_le hz.1
  have e : zI (zX xs (i : Int)) = xs i := by
    unfold zX
    rw [zI_of, Int.toNat_natCast]
  rw [e] at kk
  exact fun H locs ls hP hD hS hl => va_sld C.hx C.hb hX hbl hbA hS (zI_in (by omega) (by omega)) hdg (by rw [zI_cl (by omega)]; exact kk H locs ls hP hD hS hl)
theorem v_slen (C : Cx p s m args c cc nL own D K A) {b L : Nat} {xs : Nat → Int32} (hX : va_X b L xs s s.heap) (hbl : b < s.heap.size) (hbA : ¬ A b) (hdg : decode cc pc = .ok (.arraylength, 1)) (kk : V p l e R s m args below meth c D A nL k n Q ws (pc + 1) lv (.int (zI (L : Int)) :: st)) : V p l e R s m args below meth c D A nL k n Q ws pc lv (.ref b :: st) := by
  rw [zI_nat] at kk
  exact fun H locs ls hP hD hS hl => va_slen C.hx C.hb hX hbl hbA hS hdg (kk H locs ls hP hD hS hl)
theorem rgl_rg {z : Int} (h : rg z) : rgl z := ⟨by have := h.1; omega, by have := h.2; omega⟩
/-- two numbers that are the same -/
theorem v_jeq (C : Cx p s m args c cc nL own D K A) {a b : Int} {off : Int} {tgt : Nat} (hdg : decode cc pc = .ok (.if_icmp .eq off, 3)) (ht : (pc : Int) + off = (tgt : Int)) (h : a = b) (kt : V p l e R s m args below meth c D A nL k n Q ws tgt lv st) : V p l e R s m args below meth c D A nL k n Q ws pc lv (.int (zI b) :: .int (zI a) :: st) :=
  fun H locs ls hP hD hS hl => lv_icmp_eq C.hx C.hb hdg ht (fun _ => kt H locs ls hP hD hS hl) (fun q => absurd (by rw [h]) q)
end LW
