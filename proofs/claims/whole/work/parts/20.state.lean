/-! the bytes of a row: an array of w places that holds t, of which the first z are L -/
def okB (w : Nat) (t : Nat → Int) (z : Int) (L : List Int) : Prop := 64 ≤ w ∧ w ≤ 4096 ∧ z = (L.length : Int) ∧ z ≤ w ∧ (∀ j, 0 ≤ t j ∧ t j < 256) ∧ ∀ j, j < L.length → t j = L.getD j 0
def gd (L : List Int) (i : Int) : Int := if 0 ≤ i then L.getD i.toNat 0 else 0
/-- what a row of w places may still make, over its whole life -/
def phB (w : Nat) : Nat := (if w < 4096 then 4096 else 0) + 2 * (4096 - w)
theorem sI {a b : Int} (h : a = b) : some (Value.int (iI a)) = some (.int (iI b)) := by rw [h]
theorem sL {a b : Int} (h : a = b) : some (Value.long (lI a)) = some (.long (lI b)) := by rw [h]
theorem gd_out {L : List Int} {i : Int} (h : i < 0 ∨ (L.length : Int) ≤ i) : 0 = gd L i := by
  unfold gd
  split
  · rw [List.getD_eq_getElem?_getD, List.getElem?_eq_none (by omega)]; rfl
  · rfl
theorem gd_in {w : Nat} {t : Nat → Int} {z : Int} {L : List Int} {i : Int} (hok : okB w t z L) (h : 0 ≤ i ∧ i < z) : t i.toNat % 256 = gd L i := by
  obtain ⟨-, -, hz, -, h8, hco⟩ := hok
  unfold gd
  rw [if_pos h.1, ← hco _ (by omega)]
  have := h8 i.toNat
  omega
theorem gd_rng {w : Nat} {t : Nat → Int} {z : Int} {L : List Int} (hok : okB w t z L) (i : Int) : 0 ≤ gd L i ∧ gd L i < 256 := by
  have hz := hok.2.2.1
  rcases (show (i < 0 ∨ (L.length : Int) ≤ i) ∨ (0 ≤ i ∧ i < z) by omega) with h | h
  · rw [← gd_out h]; decide
  · rw [← gd_in hok h]; omega
theorem phB_grow {w v : Nat} (h1 : w < v) (h2 : v ≤ 4096) (h3 : 2 * w ≤ v ∨ v = 4096) : v + phB v ≤ phB w := by
  unfold phB
  split <;> split <;> omega
theorem phB_le (w : Nat) : phB w ≤ 12288 := by
  unfold phB
  split <;> omega
theorem okB_app {w w1 : Nat} {t t1 : Nat → Int} {z x : Int} {L : List Int} (h : okB w t z L) (h1 : 64 ≤ w1 ∧ w1 ≤ 4096 ∧ z + 1 ≤ w1) (h8 : ∀ j, 0 ≤ t1 j ∧ t1 j < 256) (hk : ∀ j : Nat, (j : Int) < z → t1 j = t j) (hx : 0 ≤ x ∧ x < 256) {p : Nat} (hp : (p : Int) = z) {y : Int} (hy : y = z + 1) : okB w1 (vf_upd t1 p x) y (L ++ [x]) := by
  obtain ⟨-, -, hz, -, -, hco⟩ := h
  refine ⟨h1.1, h1.2.1, by simp; omega, by omega, ?_, ?_⟩
  · intro j
    unfold vf_upd
    split
    · exact hx
    · exact h8 j
  · intro j hj
    simp only [List.length_append, List.length_cons, List.length_nil] at hj
    unfold vf_upd
    by_cases e : j = p
    · rw [if_pos e, e, List.getD_eq_getElem?_getD, List.getElem?_append_right (by omega)]
      rw [show p - L.length = 0 by omega]; rfl
    · rw [if_neg e, hk j (by omega), hco j (by omega), List.getD_eq_getElem?_getD, List.getD_eq_getElem?_getD, List.getElem?_append_left (by omega)]
theorem okB_cat {w w1 w2 : Nat} {t t1 t2 : Nat → Int} {z z2 : Int} {L L2 : List Int} (h : okB w t z L) (h2 : okB w2 t2 z2 L2) (h1 : 64 ≤ w1 ∧ w1 ≤ 4096 ∧ z + z2 ≤ w1) (h8 : ∀ j, 0 ≤ t1 j ∧ t1 j < 256) (hk : ∀ j : Nat, (j : Int) < z → t1 j = t j) {p q : Nat} (hp : (p : Int) = z) (hq : (q : Int) = z2) {y : Int} (hy : y = z + z2) : okB w1 (va_cpy t2 t1 0 p q) y (L ++ L2) := by
  obtain ⟨-, -, hz, -, -, hco⟩ := h
  obtain ⟨-, -, hz2, -, h82, hco2⟩ := h2
  refine ⟨h1.1, h1.2.1, by simp; omega, by omega, ?_, ?_⟩
  · intro j
    unfold va_cpy
    split
    · exact h82 _
    · exact h8 j
  · intro j hj
    simp only [List.length_append] at hj
    unfold va_cpy
    by_cases e : p ≤ j ∧ j < p + q
    · rw [if_pos e, hco2 _ (by omega), List.getD_eq_getElem?_getD, List.getD_eq_getElem?_getD, List.getElem?_append_right (by omega)]
      rw [show 0 + (j - p) = j - L.length by omega]
    · rw [if_neg e, hk j (by omega), hco j (by omega), List.getD_eq_getElem?_getD, List.getD_eq_getElem?_getD, List.getElem?_append_left (by omega)]
theorem okB_front {w w1 w2 : Nat} {t t1 t2 : Nat → Int} {z z2 : Int} {L L2 : List Int} (h : okB w t z L) (h2 : okB w2 t2 z2 L2) (h1 : 64 ≤ w1 ∧ w1 ≤ 4096 ∧ z + z2 ≤ w1) (h8 : ∀ j, 0 ≤ t1 j ∧ t1 j < 256) (hk : ∀ j : Nat, (j : Int) < z → t1 j = t j) {p q : Nat} (hp : (p : Int) = z) (hq : (q : Int) = z2) {y : Int} (hy : y = z + z2) : okB w1 (va_cpy t2 (va_cpy t1 t1 0 q p) 0 0 q) y (L2 ++ L) := by
  obtain ⟨-, -, hz, -, -, hco⟩ := h
  obtain ⟨-, -, hz2, -, h82, hco2⟩ := h2
  refine ⟨h1.1, h1.2.1, by simp; omega, by omega, ?_, ?_⟩
  · intro j
    unfold va_cpy
    split
    · exact h82 _
    · split
      · exact h8 _
      · exact h8 j
  · intro j hj
    simp only [List.length_append] at hj
    unfold va_cpy
    by_cases e : j < q
    · rw [if_pos (by omega), hco2 _ (by omega), List.getD_eq_getElem?_getD, List.getD_eq_getElem?_getD, List.getElem?_append_left (by omega)]
      rw [show 0 + (j - 0) = j by omega]
    · rw [if_neg (by omega), if_pos (by omega), hk _ (by omega), hco _ (by omega), List.getD_eq_getElem?_getD, List.getD_eq_getElem?_getD, List.getElem?_append_right (by omega)]
      rw [show 0 + (j - q) = j - L2.length by omega]
theorem okB_cut {w : Nat} {t : Nat → Int} {z y : Int} {L : List Int} (h : okB w t z L) (hy : 0 ≤ y ∧ y ≤ z) : okB w t y (L.take y.toNat) := by
  obtain ⟨a1, a2, hz, a4, h8, hco⟩ := h
  refine ⟨a1, a2, ?_, by omega, h8, ?_⟩
  · rw [List.length_take]; omega
  · intro j hj
    rw [List.length_take] at hj
    rw [hco j (by omega), List.getD_eq_getElem?_getD, List.getD_eq_getElem?_getD, List.getElem?_take, if_pos (by omega)]
/-- the m lowest bytes of x, the highest first -/
def nb (x : Int) : Nat → List Int
  | 0 => []
  | m + 1 => (x / 256 ^ m % 256) :: nb x m
theorem nb_len (x : Int) : ∀ m, (nb x m).length = m
  | 0 => rfl
  | m + 1 => by simp [nb, nb_len x m]
theorem p8 {i : Int} (h : 0 ≤ i) : (2 : Int) ^ (8 * i).toNat = 256 ^ i.toNat := by
  obtain ⟨n, rfl⟩ := Int.eq_ofNat_of_zero_le h
  rw [show (8 * (n : Int)).toNat = 8 * n by omega, Int.pow_mul, Int.toNat_natCast]
  rfl
theorem nb_step (x : Int) {i : Int} (h : 0 ≤ i) : nb x (i + 1).toNat = (x / 256 ^ i.toNat % 256) :: nb x i.toNat := by
  rw [show (i + 1).toNat = i.toNat + 1 by omega]
  rfl
theorem cpy_in {f g : Nat → Int} {n j : Nat} (h : j < n) : va_cpy f g (0 : Int).toNat (0 : Int).toNat n j = f j := by
  unfold va_cpy
  rw [if_pos (by simp; omega)]
  simp
theorem cpy_or {f : Nat → Int} {a b n j : Nat} (ha : a = b) : va_cpy f (fun _ => (0 : Int)) a b n j = f j ∨ va_cpy f (fun _ => (0 : Int)) a b n j = 0 := by
  unfold va_cpy
  split
  · left; congr 1; omega
  · right; rfl
