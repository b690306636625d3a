theorem lI_shl7 (z : Int) : lI z <<< ((iI 7).toInt64 &&& 63) = lI (z * 128) := by
  apply Int64.toBitVec_inj.mp
  show (BitVec.ofInt 64 z) <<< ((((iI 7).toInt64 &&& 63).toBitVec.smod 64).toNat) = BitVec.ofInt 64 (z * 128)
  have h : (((iI 7).toInt64 &&& 63).toBitVec.smod 64).toNat = 7 := by decide +kernel
  rw [h, BitVec.shiftLeft_eq_mul_twoPow, BitVec.ofInt_mul]
  rfl
theorem lI_shl32 (z : Int) : lI z <<< ((iI 32).toInt64 &&& 63) = lI (z * 4294967296) := by
  apply Int64.toBitVec_inj.mp
  show (BitVec.ofInt 64 z) <<< ((((iI 32).toInt64 &&& 63).toBitVec.smod 64).toNat) = BitVec.ofInt 64 (z * 4294967296)
  have h : (((iI 32).toInt64 &&& 63).toBitVec.smod 64).toNat = 32 := by decide +kernel
  rw [h, BitVec.shiftLeft_eq_mul_twoPow, BitVec.ofInt_mul]
  rfl
theorem lI_or7 (z : Int) {b : Int} (hb : 0 ≤ b ∧ b < 128) : lI (z * 128) ||| lI b = lI (z * 128 + b) := by
  apply Int64.toBitVec_inj.mp
  show BitVec.ofInt 64 (z * 128) ||| BitVec.ofInt 64 b = BitVec.ofInt 64 (z * 128 + b)
  rw [BitVec.ofInt_add]
  symm
  apply BitVec.add_eq_or_of_and_eq_zero
  have h1 : BitVec.ofInt 64 (z * 128) = BitVec.ofInt 64 z <<< 7 := by
    rw [BitVec.shiftLeft_eq_mul_twoPow, BitVec.ofInt_mul]; rfl
  rw [h1]
  apply BitVec.eq_of_getLsbD_eq
  intro i hi
  rw [BitVec.getLsbD_and, BitVec.getLsbD_shiftLeft]
  simp only [BitVec.getLsbD_zero]
  by_cases h8 : i < 7
  · simp [h8]
  · have h9 : (BitVec.ofInt 64 b).getLsbD i = false := by
      obtain ⟨n, rfl⟩ := Int.eq_ofNat_of_zero_le hb.1
      rw [BitVec.ofInt_natCast, BitVec.getLsbD_ofNat]
      have hn : n < 2 ^ 7 := by omega
      have hp : 2 ^ 7 ≤ 2 ^ i := Nat.pow_le_pow_right (by decide) (by omega)
      rw [Nat.testBit_lt_two_pow (Nat.lt_of_lt_of_le hn hp)]
      simp
    rw [h9]
    simp
theorem lI_or32 (z : Int) {b : Int} (hb : 0 ≤ b ∧ b < 4294967296) : lI (z * 4294967296) ||| lI b = lI (z * 4294967296 + b) := by
  apply Int64.toBitVec_inj.mp
  show BitVec.ofInt 64 (z * 4294967296) ||| BitVec.ofInt 64 b = BitVec.ofInt 64 (z * 4294967296 + b)
  rw [BitVec.ofInt_add]
  symm
  apply BitVec.add_eq_or_of_and_eq_zero
  have h1 : BitVec.ofInt 64 (z * 4294967296) = BitVec.ofInt 64 z <<< 32 := by
    rw [BitVec.shiftLeft_eq_mul_twoPow, BitVec.ofInt_mul]; rfl
  rw [h1]
  apply BitVec.eq_of_getLsbD_eq
  intro i hi
  rw [BitVec.getLsbD_and, BitVec.getLsbD_shiftLeft]
  simp only [BitVec.getLsbD_zero]
  by_cases h8 : i < 32
  · simp [h8]
  · have h9 : (BitVec.ofInt 64 b).getLsbD i = false := by
      obtain ⟨n, rfl⟩ := Int.eq_ofNat_of_zero_le hb.1
      rw [BitVec.ofInt_natCast, BitVec.getLsbD_ofNat]
      have hn : n < 2 ^ 32 := by omega
      have hp : 2 ^ 32 ≤ 2 ^ i := Nat.pow_le_pow_right (by decide) (by omega)
      rw [Nat.testBit_lt_two_pow (Nat.lt_of_lt_of_le hn hp)]
      simp
    rw [h9]
    simp
theorem iI_or5 (z : Int) {b : Int} (hb : 0 ≤ b ∧ b < 32) : iI (z * 32) ||| iI b = iI (z * 32 + b) := by
  apply Int32.toBitVec_inj.mp
  show BitVec.ofInt 32 (z * 32) ||| BitVec.ofInt 32 b = BitVec.ofInt 32 (z * 32 + b)
  rw [BitVec.ofInt_add]
  symm
  apply BitVec.add_eq_or_of_and_eq_zero
  have h1 : BitVec.ofInt 32 (z * 32) = BitVec.ofInt 32 z <<< 5 := by
    rw [BitVec.shiftLeft_eq_mul_twoPow, BitVec.ofInt_mul]; rfl
  rw [h1]
  apply BitVec.eq_of_getLsbD_eq
  intro i hi
  rw [BitVec.getLsbD_and, BitVec.getLsbD_shiftLeft]
  simp only [BitVec.getLsbD_zero]
  by_cases h8 : i < 5
  · simp [h8]
  · have h9 : (BitVec.ofInt 32 b).getLsbD i = false := by
      obtain ⟨n, rfl⟩ := Int.eq_ofNat_of_zero_le hb.1
      rw [BitVec.ofInt_natCast, BitVec.getLsbD_ofNat]
      have hn : n < 2 ^ 5 := by omega
      have hp : 2 ^ 5 ≤ 2 ^ i := Nat.pow_le_pow_right (by decide) (by omega)
      rw [Nat.testBit_lt_two_pow (Nat.lt_of_lt_of_le hn hp)]
      simp
    rw [h9]
    simp
theorem iI_or6 (z : Int) {b : Int} (hb : 0 ≤ b ∧ b < 64) : iI (z * 64) ||| iI b = iI (z * 64 + b) := by
  apply Int32.toBitVec_inj.mp
  show BitVec.ofInt 32 (z * 64) ||| BitVec.ofInt 32 b = BitVec.ofInt 32 (z * 64 + b)
  rw [BitVec.ofInt_add]
  symm
  apply BitVec.add_eq_or_of_and_eq_zero
  have h1 : BitVec.ofInt 32 (z * 64) = BitVec.ofInt 32 z <<< 6 := by
    rw [BitVec.shiftLeft_eq_mul_twoPow, BitVec.ofInt_mul]; rfl
  rw [h1]
  apply BitVec.eq_of_getLsbD_eq
  intro i hi
  rw [BitVec.getLsbD_and, BitVec.getLsbD_shiftLeft]
  simp only [BitVec.getLsbD_zero]
  by_cases h8 : i < 6
  · simp [h8]
  · have h9 : (BitVec.ofInt 32 b).getLsbD i = false := by
      obtain ⟨n, rfl⟩ := Int.eq_ofNat_of_zero_le hb.1
      rw [BitVec.ofInt_natCast, BitVec.getLsbD_ofNat]
      have hn : n < 2 ^ 6 := by omega
      have hp : 2 ^ 6 ≤ 2 ^ i := Nat.pow_le_pow_right (by decide) (by omega)
      rw [Nat.testBit_lt_two_pow (Nat.lt_of_lt_of_le hn hp)]
      simp
    rw [h9]
    simp
theorem iI_or7 (z : Int) {b : Int} (hb : 0 ≤ b ∧ b < 128) : iI (z * 128) ||| iI b = iI (z * 128 + b) := by
  apply Int32.toBitVec_inj.mp
  show BitVec.ofInt 32 (z * 128) ||| BitVec.ofInt 32 b = BitVec.ofInt 32 (z * 128 + b)
  rw [BitVec.ofInt_add]
  symm
  apply BitVec.add_eq_or_of_and_eq_zero
  have h1 : BitVec.ofInt 32 (z * 128) = BitVec.ofInt 32 z <<< 7 := by
    rw [BitVec.shiftLeft_eq_mul_twoPow, BitVec.ofInt_mul]; rfl
  rw [h1]
  apply BitVec.eq_of_getLsbD_eq
  intro i hi
  rw [BitVec.getLsbD_and, BitVec.getLsbD_shiftLeft]
  simp only [BitVec.getLsbD_zero]
  by_cases h8 : i < 7
  · simp [h8]
  · have h9 : (BitVec.ofInt 32 b).getLsbD i = false := by
      obtain ⟨n, rfl⟩ := Int.eq_ofNat_of_zero_le hb.1
      rw [BitVec.ofInt_natCast, BitVec.getLsbD_ofNat]
      have hn : n < 2 ^ 7 := by omega
      have hp : 2 ^ 7 ≤ 2 ^ i := Nat.pow_le_pow_right (by decide) (by omega)
      rw [Nat.testBit_lt_two_pow (Nat.lt_of_lt_of_le hn hp)]
      simp
    rw [h9]
    simp
theorem lI_and32 (z : Int) : lI z &&& lI 4294967295 = lI (z % 4294967296) := by
  apply Int64.toBitVec_inj.mp
  show BitVec.ofInt 64 z &&& BitVec.ofInt 64 4294967295 = BitVec.ofInt 64 (z % 4294967296)
  apply BitVec.eq_of_toNat_eq
  rw [BitVec.toNat_and, BitVec.toNat_ofInt, BitVec.toNat_ofInt, BitVec.toNat_ofInt]
  have h : (4294967295 % ((2 ^ 64 : Nat) : Int)).toNat = 2 ^ 32 - 1 := by decide
  rw [h, Nat.and_two_pow_sub_one_eq_mod]
  omega
theorem iI_shl6 (z : Int) : iI z <<< (iI 6 &&& 31) = iI (z * 64) := by
  apply Int32.toBitVec_inj.mp
  show (BitVec.ofInt 32 z) <<< (((iI 6 &&& 31).toBitVec.smod 32).toNat) = BitVec.ofInt 32 (z * 64)
  have h : ((iI 6 &&& 31).toBitVec.smod 32).toNat = 6 := by decide +kernel
  rw [h, BitVec.shiftLeft_eq_mul_twoPow, BitVec.ofInt_mul]
  rfl
theorem iI_rem4n : ∀ n : Fin 32, nI n.val - nI n.val / nI 4 * nI 4 = nI (n.val % 4) := by decide +kernel
theorem iI_rem4 {z : Int} (h : 0 ≤ z ∧ z < 32) : iI z - iI z / iI 4 * iI 4 = iI (z % 4) := by
  obtain ⟨n, rfl⟩ := Int.eq_ofNat_of_zero_le h.1
  have hn : n < 32 := by omega
  have h2 := iI_rem4n ⟨n, hn⟩
  rw [iI_nI, iI_nI, iI_nI] at h2
  exact h2
theorem bI_sbn : ∀ n : Fin 256, (nI n.val).toInt8.toInt32 = if n.val < 128 then nI n.val else nI n.val - nI 256 := by decide +kernel
theorem bI_sb {z : Int} (h : 0 ≤ z ∧ z < 256) : bI z = if z < 128 then iI z else iI (z - 256) := by
  obtain ⟨n, rfl⟩ := Int.eq_ofNat_of_zero_le h.1
  have hn : n < 256 := by omega
  have h2 := bI_sbn ⟨n, hn⟩
  rw [iI_nI, iI_nI, iI_sub] at h2
  unfold bI
  rw [h2]
  by_cases h3 : n < 128
  · rw [if_pos h3, if_pos (by omega)]
  · rw [if_neg h3, if_neg (by omega)]
    rfl
theorem bI_mod (z : Int) : bI z = bI (z % 256) := by
  unfold bI
  congr 1
  apply Int8.toBitVec_inj.mp
  show ((BitVec.ofInt 32 z).signExtend 8) = ((BitVec.ofInt 32 (z % 256)).signExtend 8)
  rw [BitVec.signExtend_eq_setWidth_of_le _ (by decide), BitVec.signExtend_eq_setWidth_of_le _ (by decide)]
  apply BitVec.eq_of_toNat_eq
  rw [BitVec.toNat_setWidth, BitVec.toNat_setWidth, BitVec.toNat_ofInt, BitVec.toNat_ofInt]
  omega
theorem lI_upd (f : Nat → Int) (k : Nat) (x : Int) : vp_updL (fun j => lI (f j)) k (lI x) = fun j => lI (vf_upd f k x j) := by
  funext j
  unfold vp_updL vf_upd
  split <;> rfl
theorem lI_min {x y : Int} (hz : -9223372036854775808 ≤ x ∧ x < 9223372036854775808) (hy : -9223372036854775808 ≤ y ∧ y < 9223372036854775808) : (if lI y < lI x then lI y else lI x) = lI (min x y) := by
  simp only [lI_lt hy hz]
  split <;> congr 1 <;> omega
section LI2
variable {p : Program} {l : Launch} {e : Env} {R : Room} {s : State} {m : MethodId} {args : Array Value} {below : List Frame} {meth : Method} {c : Code} {H : Heap} {locs : List Loc} {cells slots : Nat} {Q : State → Prop}
variable {cc : ByteArray} {pc : Nat} {ls : Array Slot} {rest : List Value} {D : va_G} {cl : List vw_C} {A : Nat → Prop} {a : Nat} {tys : List (ClassId × FieldType)} {ws : va_W} {H0 : Heap}
theorem li_lshl7 (hx : p.tables.exec = Jvm.exec) (hb : c.code = cc) {x : Int} (hdg : decode cc pc = .ok (.lshl, 1)) (k : W p l e R s m args below meth c H locs cells slots Q (F0 m (pc + 1) ls (.long (lI (x * 128)) :: rest))) : W p l e R s m args below meth c H locs cells slots Q (F0 m pc ls (.int (iI 7) :: .long (lI x) :: rest)) :=
  lv_lshl hx hb hdg (lI_shl7 x) k
theorem li_lor7 (hx : p.tables.exec = Jvm.exec) (hb : c.code = cc) {x y : Int} (hy : 0 ≤ y ∧ y < 128) (hdg : decode cc pc = .ok (.lor, 1)) (k : W p l e R s m args below meth c H locs cells slots Q (F0 m (pc + 1) ls (.long (lI (x * 128 + y)) :: rest))) : W p l e R s m args below meth c H locs cells slots Q (F0 m pc ls (.long (lI y) :: .long (lI (x * 128)) :: rest)) :=
  lv_lor hx hb hdg (by rw [lI_or7 x hy]; exact k)
theorem li_lshl32 (hx : p.tables.exec = Jvm.exec) (hb : c.code = cc) {x : Int} (hdg : decode cc pc = .ok (.lshl, 1)) (k : W p l e R s m args below meth c H locs cells slots Q (F0 m (pc + 1) ls (.long (lI (x * 4294967296)) :: rest))) : W p l e R s m args below meth c H locs cells slots Q (F0 m pc ls (.int (iI 32) :: .long (lI x) :: rest)) :=
  lv_lshl hx hb hdg (lI_shl32 x) k
theorem li_lor32 (hx : p.tables.exec = Jvm.exec) (hb : c.code = cc) {x y : Int} (hy : 0 ≤ y ∧ y < 4294967296) (hdg : decode cc pc = .ok (.lor, 1)) (k : W p l e R s m args below meth c H locs cells slots Q (F0 m (pc + 1) ls (.long (lI (x * 4294967296 + y)) :: rest))) : W p l e R s m args below meth c H locs cells slots Q (F0 m pc ls (.long (lI y) :: .long (lI (x * 4294967296)) :: rest)) :=
  lv_lor hx hb hdg (by rw [lI_or32 x hy]; exact k)
theorem li_land32 (hx : p.tables.exec = Jvm.exec) (hb : c.code = cc) {x : Int} (hdg : decode cc pc = .ok (.land, 1)) (k : W p l e R s m args below meth c H locs cells slots Q (F0 m (pc + 1) ls (.long (lI (x % 4294967296)) :: rest))) : W p l e R s m args below meth c H locs cells slots Q (F0 m pc ls (.long (lI 4294967295) :: .long (lI x) :: rest)) :=
  lv_land hx hb hdg (by rw [lI_and32]; exact k)
theorem li_ishl6 (hx : p.tables.exec = Jvm.exec) (hb : c.code = cc) {x : Int} (hdg : decode cc pc = .ok (.ishl, 1)) (k : W p l e R s m args below meth c H locs cells slots Q (F0 m (pc + 1) ls (.int (iI (x * 64)) :: rest))) : W p l e R s m args below meth c H locs cells slots Q (F0 m pc ls (.int (iI 6) :: .int (iI x) :: rest)) :=
  lv_ishl hx hb hdg (by rw [iI_shl6]; exact k)
theorem li_ior5 (hx : p.tables.exec = Jvm.exec) (hb : c.code = cc) {x y z : Int} (hz : x = z * 32) (hy : 0 ≤ y ∧ y < 32) (hdg : decode cc pc = .ok (.ior, 1)) (k : W p l e R s m args below meth c H locs cells slots Q (F0 m (pc + 1) ls (.int (iI (x + y)) :: rest))) : W p l e R s m args below meth c H locs cells slots Q (F0 m pc ls (.int (iI y) :: .int (iI x) :: rest)) :=
  lv_ior hx hb hdg (by rw [hz, iI_or5 z hy, ← hz]; exact k)
theorem li_ior6 (hx : p.tables.exec = Jvm.exec) (hb : c.code = cc) {x y z : Int} (hz : x = z * 64) (hy : 0 ≤ y ∧ y < 64) (hdg : decode cc pc = .ok (.ior, 1)) (k : W p l e R s m args below meth c H locs cells slots Q (F0 m (pc + 1) ls (.int (iI (x + y)) :: rest))) : W p l e R s m args below meth c H locs cells slots Q (F0 m pc ls (.int (iI y) :: .int (iI x) :: rest)) :=
  lv_ior hx hb hdg (by rw [hz, iI_or6 z hy, ← hz]; exact k)
theorem li_ior7 (hx : p.tables.exec = Jvm.exec) (hb : c.code = cc) {x y z : Int} (hz : y = z * 128) (hy : 0 ≤ x ∧ x < 128) (hdg : decode cc pc = .ok (.ior, 1)) (k : W p l e R s m args below meth c H locs cells slots Q (F0 m (pc + 1) ls (.int (iI (x + y)) :: rest))) : W p l e R s m args below meth c H locs cells slots Q (F0 m pc ls (.int (iI y) :: .int (iI x) :: rest)) :=
  lv_ior hx hb hdg (by rw [Int32.or_comm, hz, iI_or7 z hy, ← hz, Int.add_comm]; exact k)
theorem li_irem4 (hx : p.tables.exec = Jvm.exec) (hb : c.code = cc) {x : Int} (hz : 0 ≤ x ∧ x < 32) (hdg : decode cc pc = .ok (.irem, 1)) (k : W p l e R s m args below meth c H locs cells slots Q (F0 m (pc + 1) ls (.int (iI (x % 4)) :: rest))) : W p l e R s m args below meth c H locs cells slots Q (F0 m pc ls (.int (iI 4) :: .int (iI x) :: rest)) :=
  lv_irem hx hb hdg (by decide +kernel) (by rw [iI_rem4 hz]; exact k)
theorem li_bnm {x : Int} (h : 0 ≤ x ∧ x < 256) (k : ∀ z : Int, (x < 128 ∧ z = x ∨ 128 ≤ x ∧ z = x - 256) → W p l e R s m args below meth c H locs cells slots Q (F0 m pc ls (.int (iI z) :: rest))) : W p l e R s m args below meth c H locs cells slots Q (F0 m pc ls (.int (bI x) :: rest)) := by
  rw [bI_sb h]
  by_cases h2 : x < 128
  · rw [if_pos h2]; exact k x (Or.inl ⟨h2, rfl⟩)
  · rw [if_neg h2]; exact k (x - 256) (Or.inr ⟨by omega, rfl⟩)
theorem li_bmod {x : Int} (k : W p l e R s m args below meth c H locs cells slots Q (F0 m pc ls (.int (bI (x % 256)) :: rest))) : W p l e R s m args below meth c H locs cells slots Q (F0 m pc ls (.int (bI x) :: rest)) := by
  rw [bI_mod]; exact k
theorem li_reb {x y : Int} (h : x = y) (k : W p l e R s m args below meth c H locs cells slots Q (F0 m pc ls (.int (bI y) :: rest))) : W p l e R s m args below meth c H locs cells slots Q (F0 m pc ls (.int (bI x) :: rest)) := by
  rw [h]; exact k
theorem li_rel {x y : Int} (h : x = y) (k : W p l e R s m args below meth c H locs cells slots Q (F0 m pc ls (.long (lI y) :: rest))) : W p l e R s m args below meth c H locs cells slots Q (F0 m pc ls (.long (lI x) :: rest)) := by
  rw [h]; exact k
theorem li_lald (hx : p.tables.exec = Jvm.exec) (hb : c.code = cc) (hK : va_K D cl tys s) (hP : va_P D cl ws H) (q0 t0 : Nat) {cA : ClassId} {n : Nat} {f : Nat → Int} (ha : ws[q0]? = some (a, .inl (cA, n, .inr (.inl (fun j => lI (f j)))))) (ht : tys[t0]? = some (cA, .long)) {z : Int} (hz : 0 ≤ z ∧ z < n) (hn : n < 2147483648) (hdg : decode cc pc = .ok (.laload, 1))
    (k : W p l e R s m args below meth c H locs cells slots Q (F0 m (pc + 1) ls (.long (lI (f z.toNat)) :: rest))) : W p l e R s m args below meth c H locs cells slots Q (F0 m pc ls (.int (iI z) :: .ref a :: rest)) :=
  va_lald hx hb hK hP q0 t0 ha ht (iI_in hz hn) hdg (by rw [iI_clamp (by omega)]; exact k)
theorem li_last (hx : p.tables.exec = Jvm.exec) (hb : c.code = cc) (hK : va_K D cl tys s) (hP : va_P D cl ws H) (hD : va_D A ws) (hS : va_S A H0 H locs) (q0 t0 : Nat) {cA : ClassId} {n : Nat} {f : Nat → Int} (ha : ws[q0]? = some (a, .inl (cA, n, .inr (.inl (fun j => lI (f j)))))) (ht : tys[t0]? = some (cA, .long)) {z x : Int} (hz : 0 ≤ z ∧ z < n) (hn : n < 2147483648) (hdg : decode cc pc = .ok (.lastore, 1))
    (kk : ∀ (H1 : Heap) (locs1 : List Loc), va_P D cl (ws.set q0 (a, .inl (cA, n, .inr (.inl (fun j => lI (vf_upd f z.toNat x j)))))) H1 → va_D A (ws.set q0 (a, .inl (cA, n, .inr (.inl (fun j => lI (vf_upd f z.toNat x j)))))) → va_S A H0 H1 locs1 → W p l e R s m args below meth c H1 locs1 cells slots Q (F0 m (pc + 1) ls rest)) : W p l e R s m args below meth c H locs cells slots Q (F0 m pc ls (.long (lI x) :: .int (iI z) :: .ref a :: rest)) :=
  va_last hx hb hK hP hD hS q0 t0 ha ht (iI_in hz hn) hdg (fun H1 locs1 h1 h2 h3 => by rw [iI_clamp (by omega), lI_upd] at h1 h2; exact kk H1 locs1 h1 h2 h3)
theorem li_mminl (hx : p.tables.exec = Jvm.exec) (hb : c.code = cc) (hml : c.maxLocals = ls.size) {own : String} {index : Nat} (hown : s.vm.findClass own = some m.cls) (hlink : (Cond.methodLink own index Lib.MathLoose.min_long.x).before args s = true) (hstat : (Cond.static Lib.MathLoose.min_long.x).before args s = true) (hini : (Cond.initialized "java/lang/Math").before args s = true) (hcode : (Cond.code Lib.MathLoose.min_long.x Lib.MathLoose.min_long.code 4 (some .long)).before args s = true)
    (hframes : 1 ≤ R.frames) (hlocals : (rest.map fun v => v.category).sum + 15 ≤ R.locals) (hc : cells ≤ R.cells) (hs : slots ≤ R.slots) {x y : Int} (hz : -9223372036854775808 ≤ x ∧ x < 9223372036854775808) (hy : -9223372036854775808 ≤ y ∧ y < 9223372036854775808) (hdg : decode cc pc = .ok (.invokestatic index, 3))
    (k : W p l e R s m args below meth c H locs cells slots Q (F0 m (pc + 3) ls (.long (lI (min x y)) :: rest))) : W p l e R s m args below meth c H locs cells slots Q (F0 m pc ls (.long (lI y) :: .long (lI x) :: rest)) :=
  va_mmin_long hx hb hml hown hlink hstat hini hcode hframes hlocals hc hs hdg (by rw [lI_min hz hy]; exact k)
theorem li_lsame (hx : p.tables.exec = Jvm.exec) (hb : c.code = cc) {x y off : Int} {tgt : Nat} (hxy : x = y) (hd1 : decode cc pc = .ok (.lcmp, 1)) (hdg : decode cc (pc + 1) = .ok (.ifCond .eq off, 3)) (ht : ((pc + 1 : Nat) : Int) + off = (tgt : Int))
    (kt : W p l e R s m args below meth c H locs cells slots Q (F0 m tgt ls rest)) : W p l e R s m args below meth c H locs cells slots Q (F0 m pc ls (.long (lI y) :: .long (lI x) :: rest)) := by
  subst hxy
  exact W.lcmp hx hb hd1 (lv_if_eq hx hb hdg ht (fun _ => kt) (fun h => absurd (by unfold lg_cmp; simp [Int64.lt_irrefl]) h))
theorem li_tabIn (hx : p.tables.exec = Jvm.exec) (hb : c.code = cc) {dflt lo hi off : Int} {offs : Array Int} {len : Nat} {x : Int} {tgt : Nat} (hz : -2147483648 ≤ x ∧ x < 2147483648) (hdg : decode cc pc = .ok (.tableswitch dflt lo hi offs, len)) (v : Int) (hv : x = v) (h1 : ¬ v < lo) (h2 : ¬ hi < v) (ho : offs[(v - lo).toNat]? = some off) (ht : (pc : Int) + off = (tgt : Int))
    (k : W p l e R s m args below meth c H locs cells slots Q (F0 m tgt ls rest)) : W p l e R s m args below meth c H locs cells slots Q (F0 m pc ls (.int (iI x) :: rest)) := by
  subst hv
  exact lv_tableIn hx hb hdg (by rw [iI_toInt hz]; exact h1) (by rw [iI_toInt hz]; exact h2) (by rw [iI_toInt hz]; exact ho) ht k
theorem li_tabOut (hx : p.tables.exec = Jvm.exec) (hb : c.code = cc) {dflt lo hi : Int} {offs : Array Int} {len : Nat} {x : Int} {tgt : Nat} (hz : -2147483648 ≤ x ∧ x < 2147483648) (hdg : decode cc pc = .ok (.tableswitch dflt lo hi offs, len)) (h : x < lo ∨ hi < x) (ht : (pc : Int) + dflt = (tgt : Int))
    (k : W p l e R s m args below meth c H locs cells slots Q (F0 m tgt ls rest)) : W p l e R s m args below meth c H locs cells slots Q (F0 m pc ls (.int (iI x) :: rest)) :=
  lv_tableOut hx hb hdg (by rw [iI_toInt hz]; exact h) ht k
end LI2
