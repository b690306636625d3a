/-! ints and longs as whole numbers: iI z, lI z; a byte of an array: bI z -/
def iI (z : Int) : Int32 := Int32.ofInt z
def lI (z : Int) : Int64 := Int64.ofInt z
def bI (z : Int) : Int32 := (iI z).toInt8.toInt32
theorem iI_toInt {z : Int} (h : -2147483648 ≤ z ∧ z < 2147483648) : (iI z).toInt = z := Int32.toInt_ofInt_of_le (by omega) (by omega)
theorem lI_toInt {z : Int} (h : -9223372036854775808 ≤ z ∧ z < 9223372036854775808) : (lI z).toInt = z := Int64.toInt_ofInt_of_le (by omega) (by omega)
theorem iI_add (a b : Int) : iI a + iI b = iI (a + b) := (Int32.ofInt_add a b).symm
theorem iI_sub (a b : Int) : iI a - iI b = iI (a - b) := (Int32.ofInt_sub a b).symm
theorem iI_mul (a b : Int) : iI a * iI b = iI (a * b) := (Int32.ofInt_mul a b).symm
theorem iI_neg (a : Int) : -iI a = iI (-a) := Int32.neg_ofInt
theorem lI_add (a b : Int) : lI a + lI b = lI (a + b) := (Int64.ofInt_add a b).symm
theorem lI_sub (a b : Int) : lI a - lI b = lI (a - b) := (Int64.ofInt_sub a b).symm
theorem lI_mul (a b : Int) : lI a * lI b = lI (a * b) := (Int64.ofInt_mul a b).symm
theorem iI_le {a b : Int} (ha : -2147483648 ≤ a ∧ a < 2147483648) (hb : -2147483648 ≤ b ∧ b < 2147483648) : iI a ≤ iI b ↔ a ≤ b := by
  rw [Int32.le_iff_toInt_le, iI_toInt ha, iI_toInt hb]
theorem iI_lt {a b : Int} (ha : -2147483648 ≤ a ∧ a < 2147483648) (hb : -2147483648 ≤ b ∧ b < 2147483648) : iI a < iI b ↔ a < b := by
  rw [Int32.lt_iff_toInt_lt, iI_toInt ha, iI_toInt hb]
theorem iI_eq {a b : Int} (ha : -2147483648 ≤ a ∧ a < 2147483648) (hb : -2147483648 ≤ b ∧ b < 2147483648) : iI a = iI b ↔ a = b := by
  constructor
  · intro h
    have h2 := congrArg Int32.toInt h
    rwa [iI_toInt ha, iI_toInt hb] at h2
  · intro h
    rw [h]
theorem lI_eq {a b : Int} (ha : -9223372036854775808 ≤ a ∧ a < 9223372036854775808) (hb : -9223372036854775808 ≤ b ∧ b < 9223372036854775808) : lI a = lI b ↔ a = b := by
  constructor
  · intro h
    have h2 := congrArg Int64.toInt h
    rwa [lI_toInt ha, lI_toInt hb] at h2
  · intro h
    rw [h]
theorem lI_lt {a b : Int} (ha : -9223372036854775808 ≤ a ∧ a < 9223372036854775808) (hb : -9223372036854775808 ≤ b ∧ b < 9223372036854775808) : lI a < lI b ↔ a < b := by
  rw [Int64.lt_iff_toInt_lt, lI_toInt ha, lI_toInt hb]
theorem iI_self (x : Int32) : iI x.toInt = x := Int32.ofInt_toInt x
theorem lI_self (x : Int64) : lI x.toInt = x := Int64.ofInt_toInt x
theorem iI_rng (x : Int32) : -2147483648 ≤ x.toInt ∧ x.toInt < 2147483648 := ⟨by have := x.le_toInt; omega, by have := x.toInt_lt; omega⟩
theorem lI_rng (x : Int64) : -9223372036854775808 ≤ x.toInt ∧ x.toInt < 9223372036854775808 := ⟨by have := x.le_toInt; omega, by have := x.toInt_lt; omega⟩
theorem iI_ex (x : Int32) : ∃ z : Int, x = iI z ∧ -2147483648 ≤ z ∧ z < 2147483648 := ⟨x.toInt, (iI_self x).symm, iI_rng x⟩
theorem lI_ex (x : Int64) : ∃ z : Int, x = lI z ∧ -9223372036854775808 ≤ z ∧ z < 9223372036854775808 := ⟨x.toInt, (lI_self x).symm, lI_rng x⟩
theorem iI_clamp {z : Int} (h : -2147483648 ≤ z ∧ z < 2147483648) : (iI z).toNatClampNeg = z.toNat := by
  show (iI z).toInt.toNat = _
  rw [iI_toInt h]
theorem iI_in {z : Int} {n : Nat} (h : 0 ≤ z ∧ z < n) (hn : n < 2147483648) : vp_in (iI z) n := vp_in_iff.mpr (by rw [iI_toInt (by omega)]; exact h)
theorem bp_b (x : Int32) : x.toInt8.toInt32 &&& 255 = x &&& 255 := by
  apply Int32.toBitVec_inj.mp
  rw [Int32.toBitVec_and, Int32.toBitVec_and, Int8.toBitVec_toInt32, Int32.toBitVec_toInt8]
  apply BitVec.eq_of_getLsbD_eq
  intro i hi
  rw [BitVec.getLsbD_and, BitVec.getLsbD_and]
  have hm : ∀ i < 32, 8 ≤ i → (255 : Int32).toBitVec.getLsbD i = false := by decide
  rcases Nat.lt_or_ge i 8 with z | z
  · rw [BitVec.getLsbD_signExtend, BitVec.getLsbD_signExtend, if_pos z, if_pos hi]
    simp only [z, hi, decide_true, Bool.true_and]
  · rw [hm i hi z]; simp
theorem iI_255 : iI 255 = 255 := by decide +kernel
theorem iI_nI (n : Nat) : nI n = iI n := by
  unfold nI iI
  exact Int32.ofInt_eq_ofNat.symm
theorem lI_lN (n : Nat) : lN n = lI n := by
  unfold lN lI
  exact Int64.ofInt_eq_ofNat.symm
theorem iI_neg1 : iI (-1) = -1 := by decide +kernel
theorem iI_bv (z : Int) : (iI z).toBitVec = BitVec.ofInt 32 z := rfl
theorem iI_bvn (z : Int) : (((iI z).toBitVec.toNat : Nat) : Int) = z % 4294967296 := by
  rw [iI_bv, BitVec.toNat_ofInt]
  have : (0 : Int) ≤ z % 4294967296 := Int.emod_nonneg _ (by decide)
  omega
/-- a mask of k ones -/
theorem iI_mask (z : Int) {m : Int} (k : Nat) (P : Int) (hP : P = ((2 ^ k : Nat) : Int)) (hm : (iI m).toBitVec.toNat = 2 ^ k - 1) (hk : P ∣ 4294967296) : iI z &&& iI m = iI (z % P) := by
  rw [pk_and _ k hm, iI_nI, Int.natCast_emod, iI_bvn, ← hP, Int.emod_emod_of_dvd _ hk]
theorem iI_and255 (z : Int) : iI z &&& iI 255 = iI (z % 256) := iI_mask z 8 256 (by decide) (by decide +kernel) (by decide)
theorem iI_and127 (z : Int) : iI z &&& iI 127 = iI (z % 128) := iI_mask z 7 128 (by decide) (by decide +kernel) (by decide)
theorem iI_and31 (z : Int) : iI z &&& iI 31 = iI (z % 32) := iI_mask z 5 32 (by decide) (by decide +kernel) (by decide)
theorem iI_and15 (z : Int) : iI z &&& iI 15 = iI (z % 16) := iI_mask z 4 16 (by decide) (by decide +kernel) (by decide)
theorem iI_and32n : ∀ n : Fin 256, (nI n.val &&& iI 32) = nI (n.val / 32 % 2 * 32) := by decide +kernel
theorem iI_and32 {z : Int} (h : 0 ≤ z ∧ z < 256) : iI z &&& iI 32 = iI (z / 32 % 2 * 32) := by
  obtain ⟨n, rfl⟩ := Int.eq_ofNat_of_zero_le h.1
  have hn : n < 256 := by omega
  have h2 := iI_and32n ⟨n, hn⟩
  rw [iI_nI, iI_nI] at h2
  rw [h2]
  congr 1
theorem iI_sh : ∀ k : Fin 32, ((nI k.val &&& 31).toBitVec.smod 32).toNat = k.val := by decide +kernel
theorem iI_shr {a k : Int} (ha : -2147483648 ≤ a ∧ a < 2147483648) (hk : 0 ≤ k ∧ k < 32) : iI a >>> (iI k &&& 31) = iI (a / (2 ^ k.toNat)) := by
  obtain ⟨n, rfl⟩ := Int.eq_ofNat_of_zero_le hk.1
  have hn : n < 32 := by omega
  have h2 := iI_sh ⟨n, hn⟩
  rw [iI_nI] at h2
  apply Int32.toInt_inj.mp
  rw [pk_shr _ _ n h2, iI_toInt ha, Int.shiftRight_eq_div_pow, iI_toInt]
  · simp
  · simp only [Int.toNat_natCast]
    have hp : (0 : Int) < 2 ^ n := Int.pow_pos (by decide)
    constructor
    · apply Int.le_ediv_of_mul_le hp
      have h1 : (1 : Int) ≤ 2 ^ n := hp
      have : (-2147483648 : Int) * 2 ^ n ≤ -2147483648 * 1 := Int.mul_le_mul_of_nonpos_left (by decide) h1
      omega
    · apply Int.ediv_lt_of_lt_mul hp
      have h1 : (1 : Int) ≤ 2 ^ n := hp
      have : (2147483648 : Int) * 1 ≤ 2147483648 * 2 ^ n := Int.mul_le_mul_of_nonneg_left h1 (by decide)
      omega
theorem lI_sh : ∀ k : Fin 64, (((nI k.val).toInt64 &&& 63).toBitVec.smod 64).toNat = k.val := by decide +kernel
theorem lI_shr {a k : Int} (ha : -9223372036854775808 ≤ a ∧ a < 9223372036854775808) (hk : 0 ≤ k ∧ k < 64) : lI a >>> ((iI k).toInt64 &&& 63) = lI (a / (2 ^ k.toNat)) := by
  obtain ⟨n, rfl⟩ := Int.eq_ofNat_of_zero_le hk.1
  have hn : n < 64 := by omega
  have h2 := lI_sh ⟨n, hn⟩
  rw [iI_nI] at h2
  have h3 : (lI a >>> ((iI (n : Int)).toInt64 &&& 63)).toInt = a >>> n := by
    show ((lI a).toBitVec.sshiftRight (((iI (n : Int)).toInt64 &&& 63).toBitVec.smod 64).toNat).toInt = _
    rw [h2, BitVec.toInt_sshiftRight]
    show (lI a).toInt >>> n = _
    rw [lI_toInt ha]
  apply Int64.toInt_inj.mp
  rw [h3, Int.shiftRight_eq_div_pow, lI_toInt]
  · simp
  · simp only [Int.toNat_natCast]
    have hp : (0 : Int) < 2 ^ n := Int.pow_pos (by decide)
    constructor
    · apply Int.le_ediv_of_mul_le hp
      have h1 : (1 : Int) ≤ 2 ^ n := hp
      have : (-9223372036854775808 : Int) * 2 ^ n ≤ -9223372036854775808 * 1 := Int.mul_le_mul_of_nonpos_left (by decide) h1
      omega
    · apply Int.ediv_lt_of_lt_mul hp
      have h1 : (1 : Int) ≤ 2 ^ n := hp
      have : (9223372036854775808 : Int) * 1 ≤ 9223372036854775808 * 2 ^ n := Int.mul_le_mul_of_nonneg_left h1 (by decide)
      omega
theorem lI_shl8 (z : Int) : lI z <<< ((iI 8).toInt64 &&& 63) = lI (z * 256) := by
  apply Int64.toBitVec_inj.mp
  show (BitVec.ofInt 64 z) <<< ((((iI 8).toInt64 &&& 63).toBitVec.smod 64).toNat) = BitVec.ofInt 64 (z * 256)
  have h : (((iI 8).toInt64 &&& 63).toBitVec.smod 64).toNat = 8 := by decide +kernel
  rw [h, BitVec.shiftLeft_eq_mul_twoPow, BitVec.ofInt_mul]
  rfl
theorem lI_or8 (z : Int) {b : Int} (hb : 0 ≤ b ∧ b < 256) : lI (z * 256) ||| lI b = lI (z * 256 + b) := by
  apply Int64.toBitVec_inj.mp
  show BitVec.ofInt 64 (z * 256) ||| BitVec.ofInt 64 b = BitVec.ofInt 64 (z * 256 + b)
  rw [BitVec.ofInt_add]
  symm
  apply BitVec.add_eq_or_of_and_eq_zero
  have h1 : BitVec.ofInt 64 (z * 256) = BitVec.ofInt 64 z <<< 8 := by
    rw [BitVec.shiftLeft_eq_mul_twoPow, BitVec.ofInt_mul]; rfl
  rw [h1]
  apply BitVec.eq_of_getLsbD_eq
  intro i hi
  rw [BitVec.getLsbD_and, BitVec.getLsbD_shiftLeft]
  simp only [BitVec.getLsbD_zero]
  by_cases h8 : i < 8
  · simp [h8]
  · have h9 : (BitVec.ofInt 64 b).getLsbD i = false := by
      obtain ⟨n, rfl⟩ := Int.eq_ofNat_of_zero_le hb.1
      rw [BitVec.ofInt_natCast, BitVec.getLsbD_ofNat]
      have hn : n < 2 ^ 8 := by omega
      have hp : 2 ^ 8 ≤ 2 ^ i := Nat.pow_le_pow_right (by decide) (by omega)
      rw [Nat.testBit_lt_two_pow (Nat.lt_of_lt_of_le hn hp)]
      simp
    rw [h9]
    simp
theorem lI_i2l {z : Int} (h : -2147483648 ≤ z ∧ z < 2147483648) : (iI z).toInt64 = lI z := by
  have h1 : Int32.minValue.toInt = -2147483648 := by decide
  have h2 : Int32.maxValue.toInt = 2147483647 := by decide
  exact Int32.toInt64_ofInt (by omega) (by omega)
theorem iI_l2i (z : Int) : (lI z).toInt32 = iI z := Int64.toInt32_ofInt
theorem bI_and (z : Int) : bI z &&& iI 255 = iI (z % 256) := by
  rw [← iI_and255, iI_255]
  exact bp_b (iI z)
theorem bI_nar (z : Int) : vp_nar .byte (bI z) = bI z := pk_vb (iI z)
theorem bI_fit (z : Int) : fits .byte (.int (bI z)) = true := pk_fb (iI z)
