/-! what the header of a value is: g the bytes, i the place, x where they end -/
def stp (a b : Int) : Int := if 2147483647 < a then a else a * 128 + b % 128
def lnum (g : Int → Int) : Nat → Int → Int → Option (Int × Int)
  | 0, _, _ => none
  | f + 1, i, a => if g i < 128 then some (stp a (g i), i + 1) else lnum g f (i + 1) (stp a (g i))
def lgn (g : Int → Int) (i x : Int) : Option (Int × Int) :=
  if g i % 128 = 0 then none else
    match lnum g (x - i).toNat i 0 with
    | none => none
    | some (a, j) => if a < 31 then none else some (if 2147483647 < a then -1 else a, j)
theorem stp_hi {a b : Int} (h : 2147483647 < a) : stp a b = a := if_pos h
theorem stp_lo {a b : Int} (h : a ≤ 2147483647) : stp a b = a * 128 + b % 128 := if_neg (by omega)
theorem lnum_no {g : Int → Int} {j x a : Int} (h : x ≤ j) : lnum g (x - j).toNat j a = none := by
  rw [show (x - j).toNat = 0 by omega]; rfl
theorem lnum_go {g : Int → Int} {j x a y : Int} (h : j < x) (hg : 128 ≤ g j) (hy : y = stp a (g j)) : lnum g (x - j).toNat j a = lnum g (x - (j + 1)).toNat (j + 1) y := by
  rw [show (x - j).toNat = (x - (j + 1)).toNat + 1 by omega, hy]
  show (if g j < 128 then _ else _) = _
  rw [if_neg (by omega)]
theorem lnum_end {g : Int → Int} {j x a y : Int} (h : j < x) (hg : g j < 128) (hy : y = stp a (g j)) : lnum g (x - j).toNat j a = some (y, j + 1) := by
  rw [show (x - j).toNat = (x - (j + 1)).toNat + 1 by omega, hy]
  show (if g j < 128 then _ else _) = _
  rw [if_pos hg]
theorem lgn_0 {g : Int → Int} {i x : Int} (h : g i % 128 = 0) : lgn g i x = none := if_pos h
theorem lgn_no {g : Int → Int} {i x : Int} (h : ¬ g i % 128 = 0) (hn : lnum g (x - i).toNat i 0 = none) : lgn g i x = none := by
  unfold lgn; rw [if_neg h, hn]
theorem lgn_lo {g : Int → Int} {i x a j : Int} (h : ¬ g i % 128 = 0) (hn : lnum g (x - i).toNat i 0 = some (a, j)) (ha : a < 31) : lgn g i x = none := by
  unfold lgn; rw [if_neg h, hn]; exact if_pos ha
theorem lgn_hi {g : Int → Int} {i x a j y : Int} (h : ¬ g i % 128 = 0) (hn : lnum g (x - i).toNat i 0 = some (a, j)) (ha : 31 ≤ a) (hy : y = if 2147483647 < a then -1 else a) : lgn g i x = some (y, j) := by
  unfold lgn; rw [if_neg h, hn, hy]; exact if_neg (by omega)
def idn (g : Int → Int) (i x : Int) : Option (Int × Int × Int × Int) :=
  if x ≤ i then none else if g i % 32 < 31 then some (g i / 64, g i / 32 % 2, g i % 32, i + 1) else
    match lgn g (i + 1) x with
    | none => none
    | some (tg, j) => some (g i / 64, g i / 32 % 2, tg, j)
def llen (g : Int → Int) : Nat → Int → Int → Int
  | 0, _, a => a
  | f + 1, i, a => llen g f (i + 1) (if 4096 < a then a else a * 256 + g i)
def dll (g : Int → Int) (m i x st : Int) : Option Int :=
  if x - i < m then none else if st = 1 ∧ (g i = 0 ∨ llen g m.toNat i 0 < 128) then none else some (llen g m.toNat i 0)
/-- class, constructed, number, whether its length is 128 alone, its size if known, where its contents begin -/
def hdr (g : Int → Int) (st i x : Int) : Option (Int × Int × Int × Int × Int × Int) :=
  match idn g i x with
  | none => none
  | some (kd, cs, tg, j) =>
    if x ≤ j then none else
    if g j = 128 then (if cs = 1 ∧ st = 0 then some (kd, cs, tg, 1, 0, j + 1) else none) else
    if g j < 128 then (if g j ≤ x - (j + 1) then some (kd, cs, tg, 0, g j, j + 1) else none) else
    match dll g (g j - 128) (j + 1) x st with
    | none => none
    | some s => if s ≤ x - (j + 1 + (g j - 128)) then some (kd, cs, tg, 0, s, j + 1 + (g j - 128)) else none
theorem idn_0 {g : Int → Int} {i x : Int} (h : x ≤ i) : idn g i x = none := if_pos h
theorem idn_s {g : Int → Int} {i x kd cs tg : Int} (h : i < x) (h2 : g i % 32 < 31) (e1 : kd = g i / 64) (e2 : cs = g i / 32 % 2) (e3 : tg = g i % 32) : idn g i x = some (kd, cs, tg, i + 1) := by
  unfold idn; rw [if_neg (by omega), if_pos h2, e1, e2, e3]
theorem idn_l0 {g : Int → Int} {i x : Int} (h : i < x) (h2 : 31 ≤ g i % 32) (h3 : lgn g (i + 1) x = none) : idn g i x = none := by
  unfold idn; rw [if_neg (by omega), if_neg (by omega), h3]
theorem idn_l1 {g : Int → Int} {i x kd cs tg j : Int} (h : i < x) (h2 : 31 ≤ g i % 32) (h3 : lgn g (i + 1) x = some (tg, j)) (e1 : kd = g i / 64) (e2 : cs = g i / 32 % 2) : idn g i x = some (kd, cs, tg, j) := by
  unfold idn; rw [if_neg (by omega), if_neg (by omega), h3, e1, e2]
theorem llen_s {g : Int → Int} {m j ct a y : Int} (h : j < m) (hy : y = if 4096 < a then a else a * 256 + g (ct + j)) : llen g (m - j).toNat (ct + j) a = llen g (m - (j + 1)).toNat (ct + (j + 1)) y := by
  rw [show (m - j).toNat = (m - (j + 1)).toNat + 1 by omega, hy, show ct + (j + 1) = ct + j + 1 by omega]
  rfl
theorem llen_e {g : Int → Int} {m j i a : Int} (h : m ≤ j) : llen g (m - j).toNat i a = a := by
  rw [show (m - j).toNat = 0 by omega]; rfl
theorem dll_0 {g : Int → Int} {m i x st : Int} (h : x - i < m) : dll g m i x st = none := if_pos h
theorem dll_1 {g : Int → Int} {m i x st s : Int} (h : m ≤ x - i) (hs : llen g m.toNat i 0 = s) (h2 : st = 1 ∧ (g i = 0 ∨ s < 128)) : dll g m i x st = none := by
  unfold dll; rw [if_neg (by omega), if_pos (by rw [hs]; exact h2)]
theorem dll_2 {g : Int → Int} {m i x st s : Int} (h : m ≤ x - i) (hs : llen g m.toNat i 0 = s) (h2 : ¬ (st = 1 ∧ (g i = 0 ∨ s < 128))) : dll g m i x st = some s := by
  unfold dll; rw [if_neg (by omega), if_neg (by rw [hs]; exact h2), hs]
theorem hdr_0 {g : Int → Int} {st i x : Int} (h : idn g i x = none) : hdr g st i x = none := by unfold hdr; rw [h]
theorem hdr_1 {g : Int → Int} {st i x kd cs tg j : Int} (h : idn g i x = some (kd, cs, tg, j)) (h2 : x ≤ j) : hdr g st i x = none := by
  unfold hdr; rw [h]; exact if_pos h2
theorem hdr_o1 {g : Int → Int} {st i x kd cs tg j ct : Int} (h : idn g i x = some (kd, cs, tg, j)) (h2 : j < x) (h3 : g j = 128) (h4 : cs = 1 ∧ st = 0) (e : ct = j + 1) : hdr g st i x = some (kd, cs, tg, 1, 0, ct) := by
  unfold hdr; rw [h, e]; show (if _ then _ else _) = _; rw [if_neg (by omega), if_pos h3, if_pos h4]
theorem hdr_o0 {g : Int → Int} {st i x kd cs tg j : Int} (h : idn g i x = some (kd, cs, tg, j)) (h2 : j < x) (h3 : g j = 128) (h4 : ¬ (cs = 1 ∧ st = 0)) : hdr g st i x = none := by
  unfold hdr; rw [h]; show (if _ then _ else _) = _; rw [if_neg (by omega), if_pos h3, if_neg h4]
theorem hdr_s1 {g : Int → Int} {st i x kd cs tg j s ct : Int} (h : idn g i x = some (kd, cs, tg, j)) (h2 : j < x) (h3 : g j < 128) (h4 : s ≤ x - ct) (e1 : s = g j) (e2 : ct = j + 1) : hdr g st i x = some (kd, cs, tg, 0, s, ct) := by
  subst e1; subst e2
  unfold hdr; rw [h]; show (if _ then _ else _) = _; rw [if_neg (by omega), if_neg (by omega), if_pos h3, if_pos h4]
theorem hdr_s0 {g : Int → Int} {st i x kd cs tg j : Int} (h : idn g i x = some (kd, cs, tg, j)) (h2 : j < x) (h3 : g j < 128) (h4 : x - (j + 1) < g j) : hdr g st i x = none := by
  unfold hdr; rw [h]; show (if _ then _ else _) = _; rw [if_neg (by omega), if_neg (by omega), if_pos h3, if_neg (by omega)]
theorem hdr_l0 {g : Int → Int} {st i x kd cs tg j m ct : Int} (h : idn g i x = some (kd, cs, tg, j)) (h2 : j < x) (h3 : 128 < g j) (e1 : m = g j - 128) (e2 : ct = j + 1) (h4 : dll g m ct x st = none) : hdr g st i x = none := by
  subst e1; subst e2
  unfold hdr; rw [h]; show (if _ then _ else _) = _; rw [if_neg (by omega), if_neg (by omega), if_neg (by omega), h4]
theorem hdr_l1 {g : Int → Int} {st i x kd cs tg j s m ct c2 : Int} (h : idn g i x = some (kd, cs, tg, j)) (h2 : j < x) (h3 : 128 < g j) (e1 : m = g j - 128) (e2 : ct = j + 1) (h4 : dll g m ct x st = some s) (e3 : c2 = ct + m) (h5 : s ≤ x - c2) : hdr g st i x = some (kd, cs, tg, 0, s, c2) := by
  subst e1; subst e2; subst e3
  unfold hdr; rw [h]; show (if _ then _ else _) = _; rw [if_neg (by omega), if_neg (by omega), if_neg (by omega), h4]; exact if_pos h5
theorem hdr_l2 {g : Int → Int} {st i x kd cs tg j s m ct c2 : Int} (h : idn g i x = some (kd, cs, tg, j)) (h2 : j < x) (h3 : 128 < g j) (e1 : m = g j - 128) (e2 : ct = j + 1) (h4 : dll g m ct x st = some s) (e3 : c2 = ct + m) (h5 : x - c2 < s) : hdr g st i x = none := by
  subst e1; subst e2; subst e3
  unfold hdr; rw [h]; show (if _ then _ else _) = _; rw [if_neg (by omega), if_neg (by omega), if_neg (by omega), h4]; exact if_neg (by omega)
/-! nodes: eight numbers a node, mn nodes, in an array of M places that holds V -/
def okN (M : Nat) (V : Nat → Int) (mn : Int) : Prop := 64 ≤ M ∧ M ≤ 16384 ∧ 0 ≤ mn ∧ mn ≤ 2048 ∧ 8 * mn ≤ M ∧ (∀ j, -2147483648 ≤ V j ∧ V j < 2147483648) ∧
  ∀ a : Int, 0 ≤ a → a < mn → 0 ≤ V (a * 8 + 4).toNat ∧ V (a * 8 + 4).toNat ≤ 4096 ∧ 0 ≤ V (a * 8 + 5).toNat ∧ V (a * 8 + 5).toNat ≤ 4096 ∧ 0 ≤ V (a * 8 + 7).toNat ∧ V (a * 8 + 7).toNat ≤ mn
/-- the byte i of the contents of node a, 0 behind them -/
def cat (L : List Int) (V : Nat → Int) (a i : Int) : Int := if 0 ≤ i ∧ i < V (a * 8 + 5).toNat then gd L (V (a * 8 + 4).toNat + i) else 0
theorem cat_in {L : List Int} {V : Nat → Int} {a i : Int} (h : 0 ≤ i ∧ i < V (a * 8 + 5).toNat) : gd L (V (a * 8 + 4).toNat + i) = cat L V a i := (if_pos h).symm
theorem cat_out {L : List Int} {V : Nat → Int} {a i : Int} (h : i < 0 ∨ V (a * 8 + 5).toNat ≤ i) : 0 = cat L V a i := (if_neg (by omega)).symm
theorem cat_rng {w : Nat} {t : Nat → Int} {z : Int} {L : List Int} (hok : okB w t z L) (V : Nat → Int) (a i : Int) : 0 ≤ cat L V a i ∧ cat L V a i < 256 := by
  unfold cat
  split
  · exact gd_rng hok _
  · decide
def hnum (L : List Int) (V : Nat → Int) (a : Int) : Prop := 1 ≤ V (a * 8 + 5).toNat ∧ V (a * 8 + 5).toNat ≤ 8 ∧ (V (a * 8 + 5).toNat = 1 ∨ ¬ (cat L V a 0 * 2 + cat L V a 1 / 128 = 0) ∧ ¬ (cat L V a 0 * 2 + cat L V a 1 / 128 = 511))
def sfold (f : Int → Int) : Nat → Int → Int → Int
  | 0, _, s => s
  | k + 1, i, s => sfold f k (i + 1) (s * 256 + f i)
/-- the contents of node a as a number with sign -/
def sgn (L : List Int) (V : Nat → Int) (a : Int) : Int := sfold (cat L V a) (min (V (a * 8 + 5).toNat) 8).toNat 0 (if 128 ≤ cat L V a 0 then -1 else 0)
theorem sfold_s {f : Int → Int} {m j s y : Int} (h : j < m) (hy : y = s * 256 + f j) : sfold f (m - j).toNat j s = sfold f (m - (j + 1)).toNat (j + 1) y := by
  rw [show (m - j).toNat = (m - (j + 1)).toNat + 1 by omega, hy]
  rfl
theorem sfold_e {f : Int → Int} {m j s : Int} (h : m ≤ j) : sfold f (m - j).toNat j s = s := by
  rw [show (m - j).toNat = 0 by omega]; rfl
def ordr (f g : Int → Int) : Nat → Int → Int
  | 0, _ => 0
  | k + 1, i => if f i < g i then -1 else if g i < f i then 1 else ordr f g k (i + 1)
def ord2 (L : List Int) (V : Nat → Int) (a b : Int) : Int := ordr (cat L V a) (cat L V b) (min 4096 (max (V (a * 8 + 5).toNat) (V (b * 8 + 5).toNat))).toNat 0
theorem ordr_e {f g : Int → Int} {m j : Int} (h : m ≤ j) : ordr f g (m - j).toNat j = 0 := by
  rw [show (m - j).toNat = 0 by omega]; rfl
theorem ordr_lt {f g : Int → Int} {m j : Int} (h : j < m) (h2 : f j < g j) : ordr f g (m - j).toNat j = -1 := by
  rw [show (m - j).toNat = (m - (j + 1)).toNat + 1 by omega]
  exact if_pos h2
theorem ordr_gt {f g : Int → Int} {m j : Int} (h : j < m) (h2 : g j < f j) : ordr f g (m - j).toNat j = 1 := by
  rw [show (m - j).toNat = (m - (j + 1)).toNat + 1 by omega]
  show (if _ then _ else _) = _
  rw [if_neg (by omega), if_pos h2]
theorem ordr_s {f g : Int → Int} {m j : Int} (h : j < m) (h2 : f j = g j) : ordr f g (m - j).toNat j = ordr f g (m - (j + 1)).toNat (j + 1) := by
  rw [show (m - j).toNat = (m - (j + 1)).toNat + 1 by omega]
  show (if _ then _ else _) = _
  rw [if_neg (by omega), if_neg (by omega)]
/-! what is written: identifier, length, the fewest bytes of a number -/
def lnB (i : Int) : List Int := if i < 128 then [i] else if i < 256 then [129, i] else 130 :: nb i 2
def sv (k : Int) : Nat → List Int
  | 0 => [k % 128]
  | m + 1 => (if k / 128 ^ (m + 1) = 0 then [] else [128 + k / 128 ^ (m + 1) % 128]) ++ sv k m
def idB (c k cs : Int) : List Int := if k < 31 then [c * 64 + cs * 32 + k] else (c * 64 + cs * 32 + 31) :: sv k 4
theorem p7 {h : Int} (h0 : 0 ≤ h) (h7 : h % 7 = 0) : (2 : Int) ^ h.toNat = 128 ^ (h / 7).toNat := by
  obtain ⟨n, hn⟩ : ∃ n : Nat, h = 7 * (n : Int) := ⟨(h / 7).toNat, by omega⟩
  subst hn
  rw [show (7 * (n : Int)).toNat = 7 * n by omega, show (7 * (n : Int) / 7).toNat = n by omega, Int.pow_mul]
  rfl
theorem sv_s {k h : Int} (h0 : 7 ≤ h) (h7 : h % 7 = 0) : sv k (h / 7).toNat = (if k / 2 ^ h.toNat = 0 then [] else [128 + k / 2 ^ h.toNat % 128]) ++ sv k ((h - 7) / 7).toNat := by
  rw [p7 (by omega) h7, show (h / 7).toNat = ((h - 7) / 7).toNat + 1 by omega]
  rfl
theorem sv_0 {k h : Int} (h0 : h < 7) (h1 : 0 ≤ h) (h7 : h % 7 = 0) : sv k (h / 7).toNat = [k % 128] := by
  rw [show (h / 7).toNat = 0 by omega]; rfl
def fwb (x : Int) : Nat → Int → Int
  | 0, _ => 8
  | m + 1, j => if x / 2 ^ (8 * j - 1).toNat = 0 ∨ x / 2 ^ (8 * j - 1).toNat = -1 then j else fwb x m (j + 1)
theorem fwb_e {x j : Int} (h : 8 ≤ j) : fwb x (8 - j).toNat j = 8 := by
  rw [show (8 - j).toNat = 0 by omega]; rfl
theorem fwb_y {x j : Int} (h : j < 8) (h2 : x / 2 ^ (8 * j - 1).toNat = 0 ∨ x / 2 ^ (8 * j - 1).toNat = -1) : fwb x (8 - j).toNat j = j := by
  rw [show (8 - j).toNat = (8 - (j + 1)).toNat + 1 by omega]; exact if_pos h2
theorem fwb_n {x j : Int} (h : j < 8) (h2 : ¬ (x / 2 ^ (8 * j - 1).toNat = 0 ∨ x / 2 ^ (8 * j - 1).toNat = -1)) : fwb x (8 - j).toNat j = fwb x (8 - (j + 1)).toNat (j + 1) := by
  rw [show (8 - j).toNat = (8 - (j + 1)).toNat + 1 by omega]; exact if_neg h2
theorem sh_rng {x j : Int} (h : -9223372036854775808 ≤ x ∧ x < 9223372036854775808) (_ : 0 ≤ j) : -9223372036854775808 ≤ x / 2 ^ (8 * j - 1).toNat ∧ x / 2 ^ (8 * j - 1).toNat < 9223372036854775808 := by
  generalize (8 * j - 1).toNat = n
  have hp : (0 : Int) < 2 ^ n := Int.pow_pos (by decide)
  have h1 : (1 : Int) ≤ 2 ^ n := hp
  constructor
  · apply Int.le_ediv_of_mul_le hp
    have : (-9223372036854775808 : Int) * 2 ^ n ≤ -9223372036854775808 * 1 := Int.mul_le_mul_of_nonpos_left (by decide) h1
    omega
  · apply Int.ediv_lt_of_lt_mul hp
    have : (9223372036854775808 : Int) * 1 ≤ 9223372036854775808 * 2 ^ n := Int.mul_le_mul_of_nonneg_left h1 (by decide)
    omega
theorem shr_rng {y j : Int} (h : 0 ≤ y ∧ y < 2147483648) (_ : 0 ≤ j) : 0 ≤ y / 2 ^ j.toNat ∧ y / 2 ^ j.toNat < 2147483648 := by
  generalize j.toNat = n
  have hp : (0 : Int) < 2 ^ n := Int.pow_pos (by decide)
  have h1 : (1 : Int) ≤ 2 ^ n := hp
  constructor
  · exact Int.ediv_nonneg h.1 (by omega)
  · apply Int.ediv_lt_of_lt_mul hp
    have : (2147483648 : Int) * 1 ≤ 2147483648 * 2 ^ n := Int.mul_le_mul_of_nonneg_left h1 (by decide)
    omega
