/-! what a reading lays out -/
def loopU (f : Int → Int → Int → Int → (Nat → Int) → Option (Int × Int × (Nat → Int))) (x pr : Int) : Nat → Int → Int → (Nat → Int) → Option (Int × (Nat → Int))
  | 0, a, N, V => if a = x then some (N, V) else none
  | k + 1, a, N, V => if a < x then (match f a x pr N V with | none => none | some (b, N2, V2) => loopU f x pr k b N2 V2) else if a = x then some (N, V) else none
def loopZ (g : Int → Int) (f : Int → Int → Int → Int → (Nat → Int) → Option (Int × Int × (Nat → Int))) (x pr : Int) : Nat → Int → Int → (Nat → Int) → Option (Int × Int × (Nat → Int))
  | 0, _, _, _ => none
  | k + 1, a, N, V => if a < x - 1 then (if g a = 0 ∧ g (a + 1) = 0 then some (a, N, V) else match f a x pr N V with | none => none | some (b, N2, V2) => loopZ g f x pr k b N2 V2) else none
/-- one value at i, all of it before x, in node pr, at most d one within another, with N nodes already there: behind it, how many nodes, the nodes -/
def layV (g : Int → Int) (sx : Int) : Nat → Int → Int → Int → Int → (Nat → Int) → Option (Int × Int × (Nat → Int))
  | 0, _, _, _, _, _ => none
  | d + 1, i, x, pr, N, V => if 2048 ≤ N then none else
    match hdr g sx i x with
    | none => none
    | some (kd, cs, tg, op, sz, ct) =>
      if op = 1 then (match loopZ g (layV g sx d) x N 4096 ct (N + 1) (entV V N kd tg cs i ct sz pr) with
        | none => none
        | some (b, N2, V2) => some (b + 2, N2, vf_upd V2 (N * 8 + 5).toNat (b - ct)))
      else if cs = 1 then (match loopU (layV g sx d) (ct + sz) N 4096 ct (N + 1) (entV V N kd tg cs i ct sz pr) with
        | none => none
        | some (N2, V2) => some (ct + sz, N2, V2))
      else some (ct + sz, N + 1, entV V N kd tg cs i ct sz pr)
section LAYP
variable {g : Int → Int} {f : Int → Int → Int → Int → (Nat → Int) → Option (Int × Int × (Nat → Int))} {x pr a N j b N2 : Int} {V V2 : Nat → Int}
theorem loopU_no (hj : j < 4096) (h : a < x) (hf : f a x pr N V = none) : loopU f x pr (4096 - j).toNat a N V = none := by
  rw [show (4096 - j).toNat = (4096 - (j + 1)).toNat + 1 by omega]
  show (if _ then _ else _) = _
  rw [if_pos h, hf]
theorem loopU_go (hj : j < 4096) (h : a < x) (hf : f a x pr N V = some (b, N2, V2)) : loopU f x pr (4096 - j).toNat a N V = loopU f x pr (4096 - (j + 1)).toNat b N2 V2 := by
  rw [show (4096 - j).toNat = (4096 - (j + 1)).toNat + 1 by omega]
  show (if _ then _ else _) = _
  rw [if_pos h, hf]
theorem loopU_y (h : a = x) : ∀ k, loopU f x pr k a N V = some (N, V)
  | 0 => if_pos h
  | k + 1 => by show (if _ then _ else _) = _; rw [if_neg (by omega), if_pos h]
theorem loopU_x (h : ¬ a = x) (h2 : 4096 ≤ j ∨ x ≤ a) : loopU f x pr (4096 - j).toNat a N V = none := by
  rcases Nat.eq_zero_or_pos (4096 - j).toNat with e | e
  · rw [e]; exact if_neg h
  · rw [show (4096 - j).toNat = (4096 - (j + 1)).toNat + 1 by omega]
    show (if _ then _ else _) = _
    rw [if_neg (by omega), if_neg h]
theorem loopZ_no (hj : j < 4096) (h : a < x - 1) (h0 : ¬ (g a = 0 ∧ g (a + 1) = 0)) (hf : f a x pr N V = none) : loopZ g f x pr (4096 - j).toNat a N V = none := by
  rw [show (4096 - j).toNat = (4096 - (j + 1)).toNat + 1 by omega]
  show (if _ then _ else _) = _
  rw [if_pos h, if_neg h0, hf]
theorem loopZ_go (hj : j < 4096) (h : a < x - 1) (h0 : ¬ (g a = 0 ∧ g (a + 1) = 0)) (hf : f a x pr N V = some (b, N2, V2)) : loopZ g f x pr (4096 - j).toNat a N V = loopZ g f x pr (4096 - (j + 1)).toNat b N2 V2 := by
  rw [show (4096 - j).toNat = (4096 - (j + 1)).toNat + 1 by omega]
  show (if _ then _ else _) = _
  rw [if_pos h, if_neg h0, hf]
theorem loopZ_y (hj : j < 4096) (h : a < x - 1) (h0 : g a = 0 ∧ g (a + 1) = 0) : loopZ g f x pr (4096 - j).toNat a N V = some (a, N, V) := by
  rw [show (4096 - j).toNat = (4096 - (j + 1)).toNat + 1 by omega]
  show (if _ then _ else _) = _
  rw [if_pos h, if_pos h0]
theorem loopZ_x (h2 : 4096 ≤ j ∨ x - 1 ≤ a) : loopZ g f x pr (4096 - j).toNat a N V = none := by
  rcases Nat.eq_zero_or_pos (4096 - j).toNat with e | e
  · rw [e]; rfl
  · rw [show (4096 - j).toNat = (4096 - (j + 1)).toNat + 1 by omega]
    show (if _ then _ else _) = _
    rw [if_neg (by omega)]
variable {sx i kd cs tg sz ct : Int} {d : Nat}
theorem layV_n (h : 2048 ≤ N) : layV g sx (d + 1) i x pr N V = none := if_pos h
theorem layV_h (hn : N < 2048) (h : hdr g sx i x = none) : layV g sx (d + 1) i x pr N V = none := by
  show (if _ then _ else _) = _; rw [if_neg (by omega), h]
theorem layV_o0 (hn : N < 2048) (h : hdr g sx i x = some (kd, cs, tg, 1, sz, ct)) (hz : loopZ g (layV g sx d) x N 4096 ct (N + 1) (entV V N kd tg cs i ct sz pr) = none) : layV g sx (d + 1) i x pr N V = none := by
  show (if _ then _ else _) = _; rw [if_neg (by omega), h]; show (if _ then _ else _) = _; rw [if_pos rfl, hz]
theorem layV_o1 (hn : N < 2048) (h : hdr g sx i x = some (kd, cs, tg, 1, sz, ct)) (hz : loopZ g (layV g sx d) x N 4096 ct (N + 1) (entV V N kd tg cs i ct sz pr) = some (b, N2, V2)) : layV g sx (d + 1) i x pr N V = some (b + 2, N2, vf_upd V2 (N * 8 + 5).toNat (b - ct)) := by
  show (if _ then _ else _) = _; rw [if_neg (by omega), h]; show (if _ then _ else _) = _; rw [if_pos rfl, hz]
theorem layV_c0 (hn : N < 2048) (h : hdr g sx i x = some (kd, 1, tg, 0, sz, ct)) (hz : loopU (layV g sx d) (ct + sz) N 4096 ct (N + 1) (entV V N kd tg 1 i ct sz pr) = none) : layV g sx (d + 1) i x pr N V = none := by
  show (if _ then _ else _) = _; rw [if_neg (by omega), h]; show (if _ then _ else _) = _; rw [if_neg (by decide), if_pos rfl, hz]
theorem layV_c1 (hn : N < 2048) (h : hdr g sx i x = some (kd, 1, tg, 0, sz, ct)) (hz : loopU (layV g sx d) (ct + sz) N 4096 ct (N + 1) (entV V N kd tg 1 i ct sz pr) = some (N2, V2)) : layV g sx (d + 1) i x pr N V = some (ct + sz, N2, V2) := by
  show (if _ then _ else _) = _; rw [if_neg (by omega), h]; show (if _ then _ else _) = _; rw [if_neg (by decide), if_pos rfl, hz]
theorem layV_p (hn : N < 2048) (h : hdr g sx i x = some (kd, 0, tg, 0, sz, ct)) : layV g sx (d + 1) i x pr N V = some (ct + sz, N + 1, entV V N kd tg 0 i ct sz pr) := by
  show (if _ then _ else _) = _; rw [if_neg (by omega), h]; show (if _ then _ else _) = _; rw [if_neg (by decide), if_neg (by decide)]
end LAYP
def okM (M : Nat) (V : Nat → Int) (mn : Int) : Prop := 64 ≤ M ∧ M ≤ 16384 ∧ 0 ≤ mn ∧ mn ≤ 2048 ∧ 8 * mn ≤ M ∧ ∀ j, -2147483648 ≤ V j ∧ V j < 2147483648
theorem okN_m {M : Nat} {V : Nat → Int} {mn : Int} (h : okN M V mn) : okM M V mn := ⟨h.1, h.2.1, h.2.2.1, h.2.2.2.1, h.2.2.2.2.1, h.2.2.2.2.2.1⟩
def eqN (V W : Nat → Int) (mn : Int) : Prop := ∀ j : Nat, (j : Int) < 8 * mn → V j = W j
theorem entV_cg {V0 V : Nat → Int} {N kd tg cs i ct sz pr : Int} (hN : 0 ≤ N) (hpr : pr < N) (h : eqN V0 V N) : eqN (entV V0 N kd tg cs i ct sz pr) (entV V N kd tg cs i ct sz pr) (N + 1) := by
  intro j hj
  unfold entV
  by_cases e : 0 ≤ pr ∧ pr ≤ N
  · rw [if_pos e, if_pos e, entN_cg hN h (pr * 8 + 7).toNat (by omega)]
    exact upd_cg fun _ => entN_cg hN h j hj
  · rw [if_neg e, if_neg e]
    exact entN_cg hN h j hj
theorem eqN_upd {V W : Nat → Int} {mn x : Int} {k : Nat} (h : eqN V W mn) : eqN (vf_upd V k x) (vf_upd W k x) mn := fun j hj => upd_cg fun _ => h j hj
theorem okN_p5 {M : Nat} {V : Nat → Int} {mn a x : Int} (h : okN M V mn) (ha : 0 ≤ a ∧ a < mn) (hx : 0 ≤ x ∧ x ≤ 4096) : okN M (vf_upd V (a * 8 + 5).toNat x) mn := by
  obtain ⟨h1, h2, h3, h4, h5, h6, h7⟩ := h
  refine ⟨h1, h2, h3, h4, h5, upd_rng h6 (by omega), ?_⟩
  intro c hc0 hc1
  have o := h7 c hc0 hc1
  rw [upd_ne (j := (c * 8 + 4).toNat) (by omega), upd_ne (j := (c * 8 + 7).toNat) (by omega)]
  by_cases e : c = a
  · rw [upd_at (by rw [e])]; omega
  · rw [upd_ne (by omega)]; exact o
