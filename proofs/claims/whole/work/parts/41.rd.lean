/-! a reading of all of a tape -/
def rdS (L : List Int) (sx : Int) : Option (Int × (Nat → Int)) := match layV (gd L) sx 40 0 (L.length : Int) (-1) 0 (fun _ => (0 : Int)) with
  | none => none
  | some (b, N, V) => if b = (L.length : Int) then some (N, V) else none
theorem okM_0 {M : Nat} {V : Nat → Int} {mn : Int} (h : okM M V mn) : okN M V 0 := ⟨h.1, h.2.1, by omega, by omega, by omega, h.2.2.2.2.2, fun a h0 h1 => absurd h1 (by omega)⟩
section RD
variable {w : Nat} {t : Nat → Int} {z x b N sx : Int} {L : List Int} {V : Nat → Int}
theorem rdS_y (hok : okB w t z L) (h : layV (gd L) sx 40 0 x (-1) 0 (fun _ => (0 : Int)) = some (b, N, V)) (hx : x = z) (hb : b = z) : rdS L sx = some (N, V) := by
  unfold rdS; rw [← hok.2.2.1, ← hx, h]; exact if_pos (by omega)
theorem rdS_n (hok : okB w t z L) (h : layV (gd L) sx 40 0 x (-1) 0 (fun _ => (0 : Int)) = none) (hx : x = z) : rdS L sx = none := by
  unfold rdS; rw [← hok.2.2.1, ← hx, h]
theorem rdS_x (hok : okB w t z L) (h : layV (gd L) sx 40 0 x (-1) 0 (fun _ => (0 : Int)) = some (b, N, V)) (hx : x = z) (hb : ¬ b = z) : rdS L sx = none := by
  unfold rdS; rw [← hok.2.2.1, ← hx, h]; exact if_neg (by omega)
end RD
