/-! contents that lie within the bytes -/
def gdN (N : Int) (V : Nat → Int) (z : Int) : Prop := ∀ a : Int, 0 ≤ a → a < N → 0 ≤ V (a * 8 + 4).toNat ∧ 0 ≤ V (a * 8 + 5).toNat ∧ V (a * 8 + 4).toNat + V (a * 8 + 5).toNat ≤ z
theorem kcat {kt V : Nat → Int} {kz f4 a i : Int} {L : List Int} (hok : okB 4096 kt kz L) (hf : f4 = V (a * 8 + 4).toNat) (h0 : 0 ≤ V (a * 8 + 4).toNat) (hi : 0 ≤ i ∧ i < V (a * 8 + 5).toNat) (hz : V (a * 8 + 4).toNat + V (a * 8 + 5).toNat ≤ kz) : kt (f4 + i).toNat = cat L V a i := by
  rw [← cat_in hi, hf, ← gd_in hok (by omega)]
  have := hok.2.2.2.2.1 (V (a * 8 + 4).toNat + i).toNat
  omega
theorem ordr_z {f g : Int → Int} {m : Int} (h : ∀ i, m ≤ i → f i = g i) : ∀ (k : Nat) (i : Int), m ≤ i → ordr f g k i = 0
  | 0, _, _ => rfl
  | k + 1, i, hi => by
    have := h i hi
    show (if _ then _ else _) = _
    rw [if_neg (by omega), if_neg (by omega)]
    exact ordr_z h k (i + 1) (by omega)
theorem ordr_m {f g : Int → Int} {m : Int} (h : ∀ i, m ≤ i → f i = g i) : ∀ (k k2 : Nat) (i : Int), k ≤ k2 → m ≤ i + k → ordr f g k2 i = ordr f g k i
  | 0, k2, i, _, hm => ordr_z h k2 i (by omega)
  | k + 1, 0, i, hk, _ => absurd hk (by omega)
  | k + 1, k2 + 1, i, hk, hm => by
    show (if _ then _ else _) = (if _ then _ else _)
    rw [ordr_m h k k2 (i + 1) (by omega) (by omega)]
theorem ord2_4096 {L : List Int} {V : Nat → Int} {a b : Int} (ha : V (a * 8 + 5).toNat ≤ 4096) (hb : V (b * 8 + 5).toNat ≤ 4096) : ord2 L V a b = ordr (cat L V a) (cat L V b) 4096 0 := by
  unfold ord2
  symm
  refine ordr_m (m := max (V (a * 8 + 5).toNat) (V (b * 8 + 5).toNat)) (fun i hi => ?_) _ _ _ (by omega) (by omega)
  rw [← cat_out (by omega), ← cat_out (by omega)]
/-- the first byte of the contents, with its sign -/
theorem sgn_1 {L : List Int} {V : Nat → Int} {a y g : Int} (hg : g = V (a * 8 + 5).toNat) (h1 : 1 ≤ g) (h8 : g ≤ 8) (hc : 0 ≤ cat L V a 0 ∧ cat L V a 0 < 256) (hy : cat L V a 0 < 128 ∧ y = cat L V a 0 ∨ 128 ≤ cat L V a 0 ∧ y = cat L V a 0 - 256) : sgn L V a = sfold (cat L V a) (g - 1).toNat 1 y := by
  unfold sgn
  rw [← hg, show (min g 8).toNat = (g - 1).toNat + 1 by omega]
  show sfold _ (g - 1).toNat (0 + 1) (_ * 256 + cat L V a 0) = _
  congr 1
  by_cases h : 128 ≤ cat L V a 0
  · rw [if_pos h]; omega
  · rw [if_neg h]; omega
