theorem iI_0 : iI 0 = 0 := by decide +kernel
theorem iI_ok0 : -2147483648 ≤ (0 : Int) ∧ (0 : Int) < 2147483648 := by decide
theorem iI_upd (f : Nat → Int) (k : Nat) (x : Int) : upd (fun j => iI (f j)) k (iI x) = fun j => iI (vf_upd f k x j) := by
  funext j
  unfold upd vf_upd
  split <;> rfl
theorem bI_upd (f : Nat → Int) (k : Nat) (x : Int) : upd (fun j => bI (f j)) k (vp_nar .byte (bI x)) = fun j => bI (vf_upd f k x j) := by
  rw [bI_nar]
  funext j
  unfold upd vf_upd
  split <;> rfl
theorem bI_cpy (f g : Nat → Int) (a b n : Nat) : va_cpy (fun j => bI (f j)) (fun j => bI (g j)) a b n = fun j => bI (va_cpy f g a b n j) := by
  funext j
  unfold va_cpy
  split <;> rfl
theorem iI_cpy (f g : Nat → Int) (a b n : Nat) : va_cpy (fun j => iI (f j)) (fun j => iI (g j)) a b n = fun j => iI (va_cpy f g a b n j) := by
  funext j
  unfold va_cpy
  split <;> rfl
theorem iI_min {x y : Int} (hz : -2147483648 ≤ x ∧ x < 2147483648) (hy : -2147483648 ≤ y ∧ y < 2147483648) : (if iI y < iI x then iI y else iI x) = iI (min x y) := by
  simp only [iI_lt hy hz]
  split <;> congr 1 <;> omega
theorem iI_max {x y : Int} (hz : -2147483648 ≤ x ∧ x < 2147483648) (hy : -2147483648 ≤ y ∧ y < 2147483648) : (if iI x < iI y then iI y else iI x) = iI (max x y) := by
  simp only [iI_lt hz hy]
  split <;> congr 1 <;> omega
theorem lc_e {x y : Int} (hz : -9223372036854775808 ≤ x ∧ x < 9223372036854775808) (hy : -9223372036854775808 ≤ y ∧ y < 9223372036854775808) : lg_cmp (lI x) (lI y) = if y < x then 1 else if x = y then 0 else -1 := by
  unfold lg_cmp
  simp only [gt_iff_lt, lI_lt hy hz, lI_eq hz hy]
theorem lc_le {x y : Int} (hz : -9223372036854775808 ≤ x ∧ x < 9223372036854775808) (hy : -9223372036854775808 ≤ y ∧ y < 9223372036854775808) : lg_cmp (lI x) (lI y) ≤ 0 ↔ x ≤ y := by
  rw [lc_e hz hy]
  split
  · constructor <;> intro h <;> first | omega | exact absurd h (by decide) | decide
  · split
    · constructor <;> intro h <;> first | omega | exact absurd h (by decide) | decide
    · constructor <;> intro h <;> first | omega | exact absurd h (by decide) | decide
theorem lc_lt {x y : Int} (hz : -9223372036854775808 ≤ x ∧ x < 9223372036854775808) (hy : -9223372036854775808 ≤ y ∧ y < 9223372036854775808) : lg_cmp (lI x) (lI y) < 0 ↔ x < y := by
  rw [lc_e hz hy]
  split
  · constructor <;> intro h <;> first | omega | exact absurd h (by decide) | decide
  · split
    · constructor <;> intro h <;> first | omega | exact absurd h (by decide) | decide
    · constructor <;> intro h <;> first | omega | exact absurd h (by decide) | decide
theorem lc_ge {x y : Int} (hz : -9223372036854775808 ≤ x ∧ x < 9223372036854775808) (hy : -9223372036854775808 ≤ y ∧ y < 9223372036854775808) : 0 ≤ lg_cmp (lI x) (lI y) ↔ y ≤ x := by
  rw [lc_e hz hy]
  split
  · constructor <;> intro h <;> first | omega | exact absurd h (by decide) | decide
  · split
    · constructor <;> intro h <;> first | omega | exact absurd h (by decide) | decide
    · constructor <;> intro h <;> first | omega | exact absurd h (by decide) | decide
theorem lc_gt {x y : Int} (hz : -9223372036854775808 ≤ x ∧ x < 9223372036854775808) (hy : -9223372036854775808 ≤ y ∧ y < 9223372036854775808) : 0 < lg_cmp (lI x) (lI y) ↔ y < x := by
  rw [lc_e hz hy]
  split
  · constructor <;> intro h <;> first | omega | exact absurd h (by decide) | decide
  · split
    · constructor <;> intro h <;> first | omega | exact absurd h (by decide) | decide
    · constructor <;> intro h <;> first | omega | exact absurd h (by decide) | decide
theorem lc_eq {x y : Int} (hz : -9223372036854775808 ≤ x ∧ x < 9223372036854775808) (hy : -9223372036854775808 ≤ y ∧ y < 9223372036854775808) : lg_cmp (lI x) (lI y) = 0 ↔ x = y := by
  rw [lc_e hz hy]
  split
  · constructor <;> intro h <;> first | omega | exact absurd h (by decide) | decide
  · split
    · constructor <;> intro h <;> first | omega | exact absurd h (by decide) | decide
    · constructor <;> intro h <;> first | omega | exact absurd h (by decide) | decide
theorem zb_n {x : Int} (h : x = 0 ∨ x = 1) : narrow .boolean (.int (iI x)) = .int (iI x) := by
  rcases h with rfl | rfl <;> decide +kernel
theorem zb_f {x : Int} (h : x = 0 ∨ x = 1) : fits .boolean (.int (iI x)) = true := by
  rcases h with rfl | rfl <;> decide +kernel
section LI
variable {p : Program} {l : Launch} {e : Env} {R : Room} {s : State} {m : MethodId} {args : Array Value} {below : List Frame} {meth : Method} {c : Code} {H : Heap} {locs : List Loc} {cells slots : Nat} {Q : State → Prop}
variable {cc : ByteArray} {pc : Nat} {ls : Array Slot} {rest : List Value} {D : va_G} {cl : List vw_C} {A : Nat → Prop} {a : Nat} {tys : List (ClassId × FieldType)} {ws : va_W} {H0 : Heap}
theorem li_iadd (hx : p.tables.exec = Jvm.exec) (hb : c.code = cc) {x y : Int} (hdg : decode cc pc = .ok (.iadd, 1))
    (k : W p l e R s m args below meth c H locs cells slots Q (F0 m (pc + 1) ls (.int (iI (x + y)) :: rest))) : W p l e R s m args below meth c H locs cells slots Q (F0 m pc ls (.int (iI y) :: .int (iI x) :: rest)) :=
  lv_iadd hx hb hdg (by rw [iI_add]; exact k)
theorem li_isub (hx : p.tables.exec = Jvm.exec) (hb : c.code = cc) {x y : Int} (hdg : decode cc pc = .ok (.isub, 1))
    (k : W p l e R s m args below meth c H locs cells slots Q (F0 m (pc + 1) ls (.int (iI (x - y)) :: rest))) : W p l e R s m args below meth c H locs cells slots Q (F0 m pc ls (.int (iI y) :: .int (iI x) :: rest)) :=
  lv_isub hx hb hdg (by rw [iI_sub]; exact k)
theorem li_imul (hx : p.tables.exec = Jvm.exec) (hb : c.code = cc) {x y : Int} (hdg : decode cc pc = .ok (.imul, 1))
    (k : W p l e R s m args below meth c H locs cells slots Q (F0 m (pc + 1) ls (.int (iI (x * y)) :: rest))) : W p l e R s m args below meth c H locs cells slots Q (F0 m pc ls (.int (iI y) :: .int (iI x) :: rest)) :=
  lv_imul hx hb hdg (by rw [iI_mul]; exact k)
theorem li_ladd (hx : p.tables.exec = Jvm.exec) (hb : c.code = cc) {x y : Int} (hdg : decode cc pc = .ok (.ladd, 1))
    (k : W p l e R s m args below meth c H locs cells slots Q (F0 m (pc + 1) ls (.long (lI (x + y)) :: rest))) : W p l e R s m args below meth c H locs cells slots Q (F0 m pc ls (.long (lI y) :: .long (lI x) :: rest)) :=
  lv_ladd hx hb hdg (by rw [lI_add]; exact k)
theorem li_lsub (hx : p.tables.exec = Jvm.exec) (hb : c.code = cc) {x y : Int} (hdg : decode cc pc = .ok (.lsub, 1))
    (k : W p l e R s m args below meth c H locs cells slots Q (F0 m (pc + 1) ls (.long (lI (x - y)) :: rest))) : W p l e R s m args below meth c H locs cells slots Q (F0 m pc ls (.long (lI y) :: .long (lI x) :: rest)) :=
  lv_lsub hx hb hdg (by rw [lI_sub]; exact k)
theorem li_lmul (hx : p.tables.exec = Jvm.exec) (hb : c.code = cc) {x y : Int} (hdg : decode cc pc = .ok (.lmul, 1))
    (k : W p l e R s m args below meth c H locs cells slots Q (F0 m (pc + 1) ls (.long (lI (x * y)) :: rest))) : W p l e R s m args below meth c H locs cells slots Q (F0 m pc ls (.long (lI y) :: .long (lI x) :: rest)) :=
  lv_lmul hx hb hdg (by rw [lI_mul]; exact k)
theorem li_ineg (hx : p.tables.exec = Jvm.exec) (hb : c.code = cc) {x : Int} (hdg : decode cc pc = .ok (.ineg, 1))
    (k : W p l e R s m args below meth c H locs cells slots Q (F0 m (pc + 1) ls (.int (iI (-x)) :: rest))) : W p l e R s m args below meth c H locs cells slots Q (F0 m pc ls (.int (iI x) :: rest)) :=
  lv_ineg hx hb hdg (by rw [iI_neg]; exact k)
theorem li_iand255 (hx : p.tables.exec = Jvm.exec) (hb : c.code = cc) {x : Int} (hdg : decode cc pc = .ok (.iand, 1))
    (k : W p l e R s m args below meth c H locs cells slots Q (F0 m (pc + 1) ls (.int (iI (x % 256)) :: rest))) : W p l e R s m args below meth c H locs cells slots Q (F0 m pc ls (.int (iI 255) :: .int (iI x) :: rest)) :=
  lv_iand hx hb hdg (by rw [iI_and255]; exact k)
theorem li_iand127 (hx : p.tables.exec = Jvm.exec) (hb : c.code = cc) {x : Int} (hdg : decode cc pc = .ok (.iand, 1))
    (k : W p l e R s m args below meth c H locs cells slots Q (F0 m (pc + 1) ls (.int (iI (x % 128)) :: rest))) : W p l e R s m args below meth c H locs cells slots Q (F0 m pc ls (.int (iI 127) :: .int (iI x) :: rest)) :=
  lv_iand hx hb hdg (by rw [iI_and127]; exact k)
theorem li_iand31 (hx : p.tables.exec = Jvm.exec) (hb : c.code = cc) {x : Int} (hdg : decode cc pc = .ok (.iand, 1))
    (k : W p l e R s m args below meth c H locs cells slots Q (F0 m (pc + 1) ls (.int (iI (x % 32)) :: rest))) : W p l e R s m args below meth c H locs cells slots Q (F0 m pc ls (.int (iI 31) :: .int (iI x) :: rest)) :=
  lv_iand hx hb hdg (by rw [iI_and31]; exact k)
theorem li_iand15 (hx : p.tables.exec = Jvm.exec) (hb : c.code = cc) {x : Int} (hdg : decode cc pc = .ok (.iand, 1))
    (k : W p l e R s m args below meth c H locs cells slots Q (F0 m (pc + 1) ls (.int (iI (x % 16)) :: rest))) : W p l e R s m args below meth c H locs cells slots Q (F0 m pc ls (.int (iI 15) :: .int (iI x) :: rest)) :=
  lv_iand hx hb hdg (by rw [iI_and15]; exact k)
theorem li_iand32 (hx : p.tables.exec = Jvm.exec) (hb : c.code = cc) {x : Int} (hz : 0 ≤ x ∧ x < 256) (hdg : decode cc pc = .ok (.iand, 1))
    (k : W p l e R s m args below meth c H locs cells slots Q (F0 m (pc + 1) ls (.int (iI (x / 32 % 2 * 32)) :: rest))) : W p l e R s m args below meth c H locs cells slots Q (F0 m pc ls (.int (iI 32) :: .int (iI x) :: rest)) :=
  lv_iand hx hb hdg (by rw [iI_and32 hz]; exact k)
theorem li_bandb (hx : p.tables.exec = Jvm.exec) (hb : c.code = cc) {x : Int} (hdg : decode cc pc = .ok (.iand, 1))
    (k : W p l e R s m args below meth c H locs cells slots Q (F0 m (pc + 1) ls (.int (iI (x % 256)) :: rest))) : W p l e R s m args below meth c H locs cells slots Q (F0 m pc ls (.int (iI 255) :: .int (bI x) :: rest)) :=
  lv_iand hx hb hdg (by rw [bI_and]; exact k)
theorem li_ishr (hx : p.tables.exec = Jvm.exec) (hb : c.code = cc) {x y : Int} (hz : -2147483648 ≤ x ∧ x < 2147483648) (hy : 0 ≤ y ∧ y < 32) (hdg : decode cc pc = .ok (.ishr, 1))
    (k : W p l e R s m args below meth c H locs cells slots Q (F0 m (pc + 1) ls (.int (iI (x / 2 ^ y.toNat)) :: rest))) : W p l e R s m args below meth c H locs cells slots Q (F0 m pc ls (.int (iI y) :: .int (iI x) :: rest)) :=
  lv_ishr hx hb hdg (by rw [iI_shr hz hy]; exact k)
theorem li_ishrK (hx : p.tables.exec = Jvm.exec) (hb : c.code = cc) {x y : Int} (P : Int) (hP : (2 : Int) ^ y.toNat = P) (hz : -2147483648 ≤ x ∧ x < 2147483648) (hy : 0 ≤ y ∧ y < 32) (hdg : decode cc pc = .ok (.ishr, 1))
    (k : W p l e R s m args below meth c H locs cells slots Q (F0 m (pc + 1) ls (.int (iI (x / P)) :: rest))) : W p l e R s m args below meth c H locs cells slots Q (F0 m pc ls (.int (iI y) :: .int (iI x) :: rest)) :=
  li_ishr hx hb hz hy hdg (by rw [hP]; exact k)
theorem li_i2l (hx : p.tables.exec = Jvm.exec) (hb : c.code = cc) {x : Int} (hz : -2147483648 ≤ x ∧ x < 2147483648) (hdg : decode cc pc = .ok (.i2l, 1))
    (k : W p l e R s m args below meth c H locs cells slots Q (F0 m (pc + 1) ls (.long (lI x) :: rest))) : W p l e R s m args below meth c H locs cells slots Q (F0 m pc ls (.int (iI x) :: rest)) :=
  lv_i2l hx hb hdg (lI_i2l hz) k
theorem li_l2i (hx : p.tables.exec = Jvm.exec) (hb : c.code = cc) {x : Int} (hdg : decode cc pc = .ok (.l2i, 1))
    (k : W p l e R s m args below meth c H locs cells slots Q (F0 m (pc + 1) ls (.int (iI x) :: rest))) : W p l e R s m args below meth c H locs cells slots Q (F0 m pc ls (.long (lI x) :: rest)) :=
  lv_l2i hx hb hdg (iI_l2i x) k
theorem li_i2b (hx : p.tables.exec = Jvm.exec) (hb : c.code = cc) {x : Int} (hdg : decode cc pc = .ok (.i2b, 1))
    (k : W p l e R s m args below meth c H locs cells slots Q (F0 m (pc + 1) ls (.int (bI x) :: rest))) : W p l e R s m args below meth c H locs cells slots Q (F0 m pc ls (.int (iI x) :: rest)) :=
  lv_i2b hx hb hdg rfl k
theorem li_lshr (hx : p.tables.exec = Jvm.exec) (hb : c.code = cc) {x y : Int} (hz : -9223372036854775808 ≤ x ∧ x < 9223372036854775808) (hy : 0 ≤ y ∧ y < 64) (hdg : decode cc pc = .ok (.lshr, 1))
    (k : W p l e R s m args below meth c H locs cells slots Q (F0 m (pc + 1) ls (.long (lI (x / 2 ^ y.toNat)) :: rest))) : W p l e R s m args below meth c H locs cells slots Q (F0 m pc ls (.int (iI y) :: .long (lI x) :: rest)) :=
  lv_lshr hx hb hdg (lI_shr hz hy) k
theorem li_lshl8 (hx : p.tables.exec = Jvm.exec) (hb : c.code = cc) {x : Int} (hdg : decode cc pc = .ok (.lshl, 1))
    (k : W p l e R s m args below meth c H locs cells slots Q (F0 m (pc + 1) ls (.long (lI (x * 256)) :: rest))) : W p l e R s m args below meth c H locs cells slots Q (F0 m pc ls (.int (iI 8) :: .long (lI x) :: rest)) :=
  lv_lshl hx hb hdg (lI_shl8 x) k
theorem li_lor8 (hx : p.tables.exec = Jvm.exec) (hb : c.code = cc) {x y : Int} (hy : 0 ≤ y ∧ y < 256) (hdg : decode cc pc = .ok (.lor, 1))
    (k : W p l e R s m args below meth c H locs cells slots Q (F0 m (pc + 1) ls (.long (lI (x * 256 + y)) :: rest))) : W p l e R s m args below meth c H locs cells slots Q (F0 m pc ls (.long (lI y) :: .long (lI (x * 256)) :: rest)) :=
  lv_lor hx hb hdg (by rw [lI_or8 x hy]; exact k)
theorem li_nm {x : Int} (k : ∀ z : Int, z = x → W p l e R s m args below meth c H locs cells slots Q (F0 m pc ls (.int (iI z) :: rest))) : W p l e R s m args below meth c H locs cells slots Q (F0 m pc ls (.int (iI x) :: rest)) := k x rfl
theorem li_nml {x : Int} (k : ∀ z : Int, z = x → W p l e R s m args below meth c H locs cells slots Q (F0 m pc ls (.long (lI z) :: rest))) : W p l e R s m args below meth c H locs cells slots Q (F0 m pc ls (.long (lI x) :: rest)) := k x rfl
theorem li_re {x y : Int} (h : x = y) (k : W p l e R s m args below meth c H locs cells slots Q (F0 m pc ls (.int (iI y) :: rest))) : W p l e R s m args below meth c H locs cells slots Q (F0 m pc ls (.int (iI x) :: rest)) := by rw [h]; exact k
theorem li_icmp_eq (hx : p.tables.exec = Jvm.exec) (hb : c.code = cc) {x y off : Int} {tgt : Nat} (hz : -2147483648 ≤ x ∧ x < 2147483648) (hy : -2147483648 ≤ y ∧ y < 2147483648) (hdg : decode cc pc = .ok (.if_icmp .eq off, 3)) (ht : (pc : Int) + off = (tgt : Int))
    (kt : x = y → W p l e R s m args below meth c H locs cells slots Q (F0 m tgt ls rest)) (kf : ¬ x = y → W p l e R s m args below meth c H locs cells slots Q (F0 m (pc + 3) ls rest)) : W p l e R s m args below meth c H locs cells slots Q (F0 m pc ls (.int (iI y) :: .int (iI x) :: rest)) :=
  lv_icmp_eq hx hb hdg ht (fun h => kt ((iI_eq hz hy).mp h)) (fun h => kf (fun q => h ((iI_eq hz hy).mpr q)))
theorem li_if_eq (hx : p.tables.exec = Jvm.exec) (hb : c.code = cc) {x off : Int} {tgt : Nat} (hz : -2147483648 ≤ x ∧ x < 2147483648) (hdg : decode cc pc = .ok (.ifCond .eq off, 3)) (ht : (pc : Int) + off = (tgt : Int))
    (kt : x = 0 → W p l e R s m args below meth c H locs cells slots Q (F0 m tgt ls rest)) (kf : ¬ x = 0 → W p l e R s m args below meth c H locs cells slots Q (F0 m (pc + 3) ls rest)) : W p l e R s m args below meth c H locs cells slots Q (F0 m pc ls (.int (iI x) :: rest)) := by
  refine lv_if_eq hx hb hdg ht (fun h => ?_) (fun h => ?_)
  · rw [← iI_0] at h; exact (fun h => kt ((iI_eq hz iI_ok0).mp h)) h
  · rw [← iI_0] at h; exact (fun h => kf (fun q => h ((iI_eq hz iI_ok0).mpr q))) h
theorem li_icmp_ne (hx : p.tables.exec = Jvm.exec) (hb : c.code = cc) {x y off : Int} {tgt : Nat} (hz : -2147483648 ≤ x ∧ x < 2147483648) (hy : -2147483648 ≤ y ∧ y < 2147483648) (hdg : decode cc pc = .ok (.if_icmp .ne off, 3)) (ht : (pc : Int) + off = (tgt : Int))
    (kt : ¬ x = y → W p l e R s m args below meth c H locs cells slots Q (F0 m tgt ls rest)) (kf : x = y → W p l e R s m args below meth c H locs cells slots Q (F0 m (pc + 3) ls rest)) : W p l e R s m args below meth c H locs cells slots Q (F0 m pc ls (.int (iI y) :: .int (iI x) :: rest)) :=
  lv_icmp_ne hx hb hdg ht (fun h => kt (fun q => h ((iI_eq hz hy).mpr q))) (fun h => kf ((iI_eq hz hy).mp h))
theorem li_if_ne (hx : p.tables.exec = Jvm.exec) (hb : c.code = cc) {x off : Int} {tgt : Nat} (hz : -2147483648 ≤ x ∧ x < 2147483648) (hdg : decode cc pc = .ok (.ifCond .ne off, 3)) (ht : (pc : Int) + off = (tgt : Int))
    (kt : ¬ x = 0 → W p l e R s m args below meth c H locs cells slots Q (F0 m tgt ls rest)) (kf : x = 0 → W p l e R s m args below meth c H locs cells slots Q (F0 m (pc + 3) ls rest)) : W p l e R s m args below meth c H locs cells slots Q (F0 m pc ls (.int (iI x) :: rest)) := by
  refine lv_if_ne hx hb hdg ht (fun h => ?_) (fun h => ?_)
  · rw [← iI_0] at h; exact (fun h => kt (fun q => h ((iI_eq hz iI_ok0).mpr q))) h
  · rw [← iI_0] at h; exact (fun h => kf ((iI_eq hz iI_ok0).mp h)) h
theorem li_icmp_lt (hx : p.tables.exec = Jvm.exec) (hb : c.code = cc) {x y off : Int} {tgt : Nat} (hz : -2147483648 ≤ x ∧ x < 2147483648) (hy : -2147483648 ≤ y ∧ y < 2147483648) (hdg : decode cc pc = .ok (.if_icmp .lt off, 3)) (ht : (pc : Int) + off = (tgt : Int))
    (kt : x < y → W p l e R s m args below meth c H locs cells slots Q (F0 m tgt ls rest)) (kf : y ≤ x → W p l e R s m args below meth c H locs cells slots Q (F0 m (pc + 3) ls rest)) : W p l e R s m args below meth c H locs cells slots Q (F0 m pc ls (.int (iI y) :: .int (iI x) :: rest)) :=
  lv_icmp_lt hx hb hdg ht (fun h => kt ((iI_lt hz hy).mp h)) (fun h => kf (Int.not_lt.mp (fun q => h ((iI_lt hz hy).mpr q))))
theorem li_if_lt (hx : p.tables.exec = Jvm.exec) (hb : c.code = cc) {x off : Int} {tgt : Nat} (hz : -2147483648 ≤ x ∧ x < 2147483648) (hdg : decode cc pc = .ok (.ifCond .lt off, 3)) (ht : (pc : Int) + off = (tgt : Int))
    (kt : x < 0 → W p l e R s m args below meth c H locs cells slots Q (F0 m tgt ls rest)) (kf : 0 ≤ x → W p l e R s m args below meth c H locs cells slots Q (F0 m (pc + 3) ls rest)) : W p l e R s m args below meth c H locs cells slots Q (F0 m pc ls (.int (iI x) :: rest)) := by
  refine lv_if_lt hx hb hdg ht (fun h => ?_) (fun h => ?_)
  · rw [← iI_0] at h; exact (fun h => kt ((iI_lt hz iI_ok0).mp h)) h
  · rw [← iI_0] at h; exact (fun h => kf (Int.not_lt.mp (fun q => h ((iI_lt hz iI_ok0).mpr q)))) h
theorem li_icmp_ge (hx : p.tables.exec = Jvm.exec) (hb : c.code = cc) {x y off : Int} {tgt : Nat} (hz : -2147483648 ≤ x ∧ x < 2147483648) (hy : -2147483648 ≤ y ∧ y < 2147483648) (hdg : decode cc pc = .ok (.if_icmp .ge off, 3)) (ht : (pc : Int) + off = (tgt : Int))
    (kt : y ≤ x → W p l e R s m args below meth c H locs cells slots Q (F0 m tgt ls rest)) (kf : x < y → W p l e R s m args below meth c H locs cells slots Q (F0 m (pc + 3) ls rest)) : W p l e R s m args below meth c H locs cells slots Q (F0 m pc ls (.int (iI y) :: .int (iI x) :: rest)) :=
  lv_icmp_ge hx hb hdg ht (fun h => kt ((iI_le hy hz).mp h)) (fun h => kf (Int.not_le.mp (fun q => h ((iI_le hy hz).mpr q))))
theorem li_if_ge (hx : p.tables.exec = Jvm.exec) (hb : c.code = cc) {x off : Int} {tgt : Nat} (hz : -2147483648 ≤ x ∧ x < 2147483648) (hdg : decode cc pc = .ok (.ifCond .ge off, 3)) (ht : (pc : Int) + off = (tgt : Int))
    (kt : 0 ≤ x → W p l e R s m args below meth c H locs cells slots Q (F0 m tgt ls rest)) (kf : x < 0 → W p l e R s m args below meth c H locs cells slots Q (F0 m (pc + 3) ls rest)) : W p l e R s m args below meth c H locs cells slots Q (F0 m pc ls (.int (iI x) :: rest)) := by
  refine lv_if_ge hx hb hdg ht (fun h => ?_) (fun h => ?_)
  · rw [← iI_0] at h; exact (fun h => kt ((iI_le iI_ok0 hz).mp h)) h
  · rw [← iI_0] at h; exact (fun h => kf (Int.not_le.mp (fun q => h ((iI_le iI_ok0 hz).mpr q)))) h
theorem li_icmp_gt (hx : p.tables.exec = Jvm.exec) (hb : c.code = cc) {x y off : Int} {tgt : Nat} (hz : -2147483648 ≤ x ∧ x < 2147483648) (hy : -2147483648 ≤ y ∧ y < 2147483648) (hdg : decode cc pc = .ok (.if_icmp .gt off, 3)) (ht : (pc : Int) + off = (tgt : Int))
    (kt : y < x → W p l e R s m args below meth c H locs cells slots Q (F0 m tgt ls rest)) (kf : x ≤ y → W p l e R s m args below meth c H locs cells slots Q (F0 m (pc + 3) ls rest)) : W p l e R s m args below meth c H locs cells slots Q (F0 m pc ls (.int (iI y) :: .int (iI x) :: rest)) :=
  lv_icmp_gt hx hb hdg ht (fun h => kt ((iI_lt hy hz).mp h)) (fun h => kf (Int.not_lt.mp (fun q => h ((iI_lt hy hz).mpr q))))
theorem li_if_gt (hx : p.tables.exec = Jvm.exec) (hb : c.code = cc) {x off : Int} {tgt : Nat} (hz : -2147483648 ≤ x ∧ x < 2147483648) (hdg : decode cc pc = .ok (.ifCond .gt off, 3)) (ht : (pc : Int) + off = (tgt : Int))
    (kt : 0 < x → W p l e R s m args below meth c H locs cells slots Q (F0 m tgt ls rest)) (kf : x ≤ 0 → W p l e R s m args below meth c H locs cells slots Q (F0 m (pc + 3) ls rest)) : W p l e R s m args below meth c H locs cells slots Q (F0 m pc ls (.int (iI x) :: rest)) := by
  refine lv_if_gt hx hb hdg ht (fun h => ?_) (fun h => ?_)
  · rw [← iI_0] at h; exact (fun h => kt ((iI_lt iI_ok0 hz).mp h)) h
  · rw [← iI_0] at h; exact (fun h => kf (Int.not_lt.mp (fun q => h ((iI_lt iI_ok0 hz).mpr q)))) h
theorem li_icmp_le (hx : p.tables.exec = Jvm.exec) (hb : c.code = cc) {x y off : Int} {tgt : Nat} (hz : -2147483648 ≤ x ∧ x < 2147483648) (hy : -2147483648 ≤ y ∧ y < 2147483648) (hdg : decode cc pc = .ok (.if_icmp .le off, 3)) (ht : (pc : Int) + off = (tgt : Int))
    (kt : x ≤ y → W p l e R s m args below meth c H locs cells slots Q (F0 m tgt ls rest)) (kf : y < x → W p l e R s m args below meth c H locs cells slots Q (F0 m (pc + 3) ls rest)) : W p l e R s m args below meth c H locs cells slots Q (F0 m pc ls (.int (iI y) :: .int (iI x) :: rest)) :=
  lv_icmp_le hx hb hdg ht (fun h => kt ((iI_le hz hy).mp h)) (fun h => kf (Int.not_le.mp (fun q => h ((iI_le hz hy).mpr q))))
theorem li_if_le (hx : p.tables.exec = Jvm.exec) (hb : c.code = cc) {x off : Int} {tgt : Nat} (hz : -2147483648 ≤ x ∧ x < 2147483648) (hdg : decode cc pc = .ok (.ifCond .le off, 3)) (ht : (pc : Int) + off = (tgt : Int))
    (kt : x ≤ 0 → W p l e R s m args below meth c H locs cells slots Q (F0 m tgt ls rest)) (kf : 0 < x → W p l e R s m args below meth c H locs cells slots Q (F0 m (pc + 3) ls rest)) : W p l e R s m args below meth c H locs cells slots Q (F0 m pc ls (.int (iI x) :: rest)) := by
  refine lv_if_le hx hb hdg ht (fun h => ?_) (fun h => ?_)
  · rw [← iI_0] at h; exact (fun h => kt ((iI_le hz iI_ok0).mp h)) h
  · rw [← iI_0] at h; exact (fun h => kf (Int.not_le.mp (fun q => h ((iI_le hz iI_ok0).mpr q)))) h
theorem li_lcmp_eq (hx : p.tables.exec = Jvm.exec) (hb : c.code = cc) {x y off : Int} {tgt : Nat} (hz : -9223372036854775808 ≤ x ∧ x < 9223372036854775808) (hy : -9223372036854775808 ≤ y ∧ y < 9223372036854775808) (hd1 : decode cc pc = .ok (.lcmp, 1)) (hdg : decode cc (pc + 1) = .ok (.ifCond .eq off, 3)) (ht : ((pc + 1 : Nat) : Int) + off = (tgt : Int))
    (kt : x = y → W p l e R s m args below meth c H locs cells slots Q (F0 m tgt ls rest)) (kf : ¬ x = y → W p l e R s m args below meth c H locs cells slots Q (F0 m (pc + 4) ls rest)) : W p l e R s m args below meth c H locs cells slots Q (F0 m pc ls (.long (lI y) :: .long (lI x) :: rest)) :=
  W.lcmp hx hb hd1 (lv_if_eq hx hb hdg ht (fun h => kt ((lc_eq hz hy).mp h)) (fun h => kf (fun q => h ((lc_eq hz hy).mpr q))))
theorem li_lcmp_ne (hx : p.tables.exec = Jvm.exec) (hb : c.code = cc) {x y off : Int} {tgt : Nat} (hz : -9223372036854775808 ≤ x ∧ x < 9223372036854775808) (hy : -9223372036854775808 ≤ y ∧ y < 9223372036854775808) (hd1 : decode cc pc = .ok (.lcmp, 1)) (hdg : decode cc (pc + 1) = .ok (.ifCond .ne off, 3)) (ht : ((pc + 1 : Nat) : Int) + off = (tgt : Int))
    (kt : ¬ x = y → W p l e R s m args below meth c H locs cells slots Q (F0 m tgt ls rest)) (kf : x = y → W p l e R s m args below meth c H locs cells slots Q (F0 m (pc + 4) ls rest)) : W p l e R s m args below meth c H locs cells slots Q (F0 m pc ls (.long (lI y) :: .long (lI x) :: rest)) :=
  W.lcmp hx hb hd1 (lv_if_ne hx hb hdg ht (fun h => kt (fun q => h ((lc_eq hz hy).mpr q))) (fun h => kf ((lc_eq hz hy).mp h)))
theorem li_lcmp_lt (hx : p.tables.exec = Jvm.exec) (hb : c.code = cc) {x y off : Int} {tgt : Nat} (hz : -9223372036854775808 ≤ x ∧ x < 9223372036854775808) (hy : -9223372036854775808 ≤ y ∧ y < 9223372036854775808) (hd1 : decode cc pc = .ok (.lcmp, 1)) (hdg : decode cc (pc + 1) = .ok (.ifCond .lt off, 3)) (ht : ((pc + 1 : Nat) : Int) + off = (tgt : Int))
    (kt : x < y → W p l e R s m args below meth c H locs cells slots Q (F0 m tgt ls rest)) (kf : y ≤ x → W p l e R s m args below meth c H locs cells slots Q (F0 m (pc + 4) ls rest)) : W p l e R s m args below meth c H locs cells slots Q (F0 m pc ls (.long (lI y) :: .long (lI x) :: rest)) :=
  W.lcmp hx hb hd1 (lv_if_lt hx hb hdg ht (fun h => kt ((lc_lt hz hy).mp h)) (fun h => kf (Int.not_lt.mp (fun q => h ((lc_lt hz hy).mpr q)))))
theorem li_lcmp_ge (hx : p.tables.exec = Jvm.exec) (hb : c.code = cc) {x y off : Int} {tgt : Nat} (hz : -9223372036854775808 ≤ x ∧ x < 9223372036854775808) (hy : -9223372036854775808 ≤ y ∧ y < 9223372036854775808) (hd1 : decode cc pc = .ok (.lcmp, 1)) (hdg : decode cc (pc + 1) = .ok (.ifCond .ge off, 3)) (ht : ((pc + 1 : Nat) : Int) + off = (tgt : Int))
    (kt : y ≤ x → W p l e R s m args below meth c H locs cells slots Q (F0 m tgt ls rest)) (kf : x < y → W p l e R s m args below meth c H locs cells slots Q (F0 m (pc + 4) ls rest)) : W p l e R s m args below meth c H locs cells slots Q (F0 m pc ls (.long (lI y) :: .long (lI x) :: rest)) :=
  W.lcmp hx hb hd1 (lv_if_ge hx hb hdg ht (fun h => kt ((lc_ge hz hy).mp h)) (fun h => kf (Int.not_le.mp (fun q => h ((lc_ge hz hy).mpr q)))))
theorem li_lcmp_gt (hx : p.tables.exec = Jvm.exec) (hb : c.code = cc) {x y off : Int} {tgt : Nat} (hz : -9223372036854775808 ≤ x ∧ x < 9223372036854775808) (hy : -9223372036854775808 ≤ y ∧ y < 9223372036854775808) (hd1 : decode cc pc = .ok (.lcmp, 1)) (hdg : decode cc (pc + 1) = .ok (.ifCond .gt off, 3)) (ht : ((pc + 1 : Nat) : Int) + off = (tgt : Int))
    (kt : y < x → W p l e R s m args below meth c H locs cells slots Q (F0 m tgt ls rest)) (kf : x ≤ y → W p l e R s m args below meth c H locs cells slots Q (F0 m (pc + 4) ls rest)) : W p l e R s m args below meth c H locs cells slots Q (F0 m pc ls (.long (lI y) :: .long (lI x) :: rest)) :=
  W.lcmp hx hb hd1 (lv_if_gt hx hb hdg ht (fun h => kt ((lc_gt hz hy).mp h)) (fun h => kf (Int.not_lt.mp (fun q => h ((lc_gt hz hy).mpr q)))))
theorem li_lcmp_le (hx : p.tables.exec = Jvm.exec) (hb : c.code = cc) {x y off : Int} {tgt : Nat} (hz : -9223372036854775808 ≤ x ∧ x < 9223372036854775808) (hy : -9223372036854775808 ≤ y ∧ y < 9223372036854775808) (hd1 : decode cc pc = .ok (.lcmp, 1)) (hdg : decode cc (pc + 1) = .ok (.ifCond .le off, 3)) (ht : ((pc + 1 : Nat) : Int) + off = (tgt : Int))
    (kt : x ≤ y → W p l e R s m args below meth c H locs cells slots Q (F0 m tgt ls rest)) (kf : y < x → W p l e R s m args below meth c H locs cells slots Q (F0 m (pc + 4) ls rest)) : W p l e R s m args below meth c H locs cells slots Q (F0 m pc ls (.long (lI y) :: .long (lI x) :: rest)) :=
  W.lcmp hx hb hd1 (lv_if_le hx hb hdg ht (fun h => kt ((lc_le hz hy).mp h)) (fun h => kf (Int.not_le.mp (fun q => h ((lc_le hz hy).mpr q)))))
theorem li_alen (hx : p.tables.exec = Jvm.exec) (hb : c.code = cc) (hK : va_K D cl tys s) (hP : va_P D cl ws H) (q0 t0 : Nat) {cA : ClassId} {n : Nat} {z : (Nat → Int32) ⊕ (Nat → Int64) ⊕ (Nat → UInt32) ⊕ (Nat → UInt64) ⊕ (Nat → Option Nat)} (ha : ws[q0]? = some (a, .inl (cA, n, z))) {ty : FieldType} (ht : tys[t0]? = some (cA, ty)) (hdg : decode cc pc = .ok (.arraylength, 1))
    (k : W p l e R s m args below meth c H locs cells slots Q (F0 m (pc + 1) ls (.int (iI (n : Int)) :: rest))) : W p l e R s m args below meth c H locs cells slots Q (F0 m pc ls (.ref a :: rest)) :=
  va_alen hx hb hK hP q0 t0 ha ht (v := iI (n : Int)) (iI_nI n) hdg k
theorem li_bald (hx : p.tables.exec = Jvm.exec) (hb : c.code = cc) (hK : va_K D cl tys s) (hP : va_P D cl ws H) (q0 t0 : Nat) {cA : ClassId} {n : Nat} {f : Nat → Int} (ha : ws[q0]? = some (a, .inl (cA, n, .inl (fun j => bI (f j))))) (ht : tys[t0]? = some (cA, .byte)) {z : Int} (hz : 0 ≤ z ∧ z < n) (hn : n < 2147483648) (hdg : decode cc pc = .ok (.baload, 1))
    (k : W p l e R s m args below meth c H locs cells slots Q (F0 m (pc + 1) ls (.int (bI (f z.toNat)) :: rest))) : W p l e R s m args below meth c H locs cells slots Q (F0 m pc ls (.int (iI z) :: .ref a :: rest)) :=
  va_bald hx hb hK hP q0 t0 ha ht (iI_in hz hn) hdg (by rw [iI_clamp (by omega)]; exact k)
theorem li_iald (hx : p.tables.exec = Jvm.exec) (hb : c.code = cc) (hK : va_K D cl tys s) (hP : va_P D cl ws H) (q0 t0 : Nat) {cA : ClassId} {n : Nat} {f : Nat → Int} (ha : ws[q0]? = some (a, .inl (cA, n, .inl (fun j => iI (f j))))) (ht : tys[t0]? = some (cA, .int)) {z : Int} (hz : 0 ≤ z ∧ z < n) (hn : n < 2147483648) (hdg : decode cc pc = .ok (.iaload, 1))
    (k : W p l e R s m args below meth c H locs cells slots Q (F0 m (pc + 1) ls (.int (iI (f z.toNat)) :: rest))) : W p l e R s m args below meth c H locs cells slots Q (F0 m pc ls (.int (iI z) :: .ref a :: rest)) :=
  va_iald hx hb hK hP q0 t0 ha ht (iI_in hz hn) hdg (by rw [iI_clamp (by omega)]; exact k)
theorem li_bast (hx : p.tables.exec = Jvm.exec) (hb : c.code = cc) (hK : va_K D cl tys s) (hP : va_P D cl ws H) (hD : va_D A ws) (hS : va_S A H0 H locs) (q0 t0 : Nat) {cA : ClassId} {n : Nat} {f : Nat → Int} (ha : ws[q0]? = some (a, .inl (cA, n, .inl (fun j => bI (f j))))) (ht : tys[t0]? = some (cA, .byte)) {z x : Int} (hz : 0 ≤ z ∧ z < n) (hn : n < 2147483648) (hdg : decode cc pc = .ok (.bastore, 1))
    (kk : ∀ (H1 : Heap) (locs1 : List Loc), va_P D cl (ws.set q0 (a, .inl (cA, n, .inl (fun j => bI (vf_upd f z.toNat x j))))) H1 → va_D A (ws.set q0 (a, .inl (cA, n, .inl (fun j => bI (vf_upd f z.toNat x j))))) → va_S A H0 H1 locs1 → W p l e R s m args below meth c H1 locs1 cells slots Q (F0 m (pc + 1) ls rest)) : W p l e R s m args below meth c H locs cells slots Q (F0 m pc ls (.int (bI x) :: .int (iI z) :: .ref a :: rest)) :=
  va_bast hx hb hK hP hD hS q0 t0 ha ht (iI_in hz hn) hdg (fun H1 locs1 h1 h2 h3 => by rw [iI_clamp (by omega), bI_upd] at h1 h2; exact kk H1 locs1 h1 h2 h3)
theorem li_iast (hx : p.tables.exec = Jvm.exec) (hb : c.code = cc) (hK : va_K D cl tys s) (hP : va_P D cl ws H) (hD : va_D A ws) (hS : va_S A H0 H locs) (q0 t0 : Nat) {cA : ClassId} {n : Nat} {f : Nat → Int} (ha : ws[q0]? = some (a, .inl (cA, n, .inl (fun j => iI (f j))))) (ht : tys[t0]? = some (cA, .int)) {z x : Int} (hz : 0 ≤ z ∧ z < n) (hn : n < 2147483648) (hdg : decode cc pc = .ok (.iastore, 1))
    (kk : ∀ (H1 : Heap) (locs1 : List Loc), va_P D cl (ws.set q0 (a, .inl (cA, n, .inl (fun j => iI (vf_upd f z.toNat x j))))) H1 → va_D A (ws.set q0 (a, .inl (cA, n, .inl (fun j => iI (vf_upd f z.toNat x j))))) → va_S A H0 H1 locs1 → W p l e R s m args below meth c H1 locs1 cells slots Q (F0 m (pc + 1) ls rest)) : W p l e R s m args below meth c H locs cells slots Q (F0 m pc ls (.int (iI x) :: .int (iI z) :: .ref a :: rest)) :=
  va_iast hx hb hK hP hD hS q0 t0 ha ht (iI_in hz hn) hdg (fun H1 locs1 h1 h2 h3 => by rw [iI_clamp (by omega), iI_upd] at h1 h2; exact kk H1 locs1 h1 h2 h3)
theorem li_mmin (hx : p.tables.exec = Jvm.exec) (hb : c.code = cc) (hml : c.maxLocals = ls.size) {own : String} {index : Nat} (hown : s.vm.findClass own = some m.cls) (hlink : (Cond.methodLink own index Lib.Math.min.name).before args s = true) (hstat : (Cond.static Lib.Math.min.name).before args s = true) (hini : (Cond.initialized "java/lang/Math").before args s = true) (hcode : (Cond.code Lib.Math.min.name Lib.Math.min.code 2 (some .int)).before args s = true)
    (hframes : 1 ≤ R.frames) (hlocals : (rest.map fun v => v.category).sum + 13 ≤ R.locals) (hc : cells ≤ R.cells) (hs : slots ≤ R.slots) {x y : Int} (hz : -2147483648 ≤ x ∧ x < 2147483648) (hy : -2147483648 ≤ y ∧ y < 2147483648) (hdg : decode cc pc = .ok (.invokestatic index, 3))
    (k : W p l e R s m args below meth c H locs cells slots Q (F0 m (pc + 3) ls (.int (iI (min x y)) :: rest))) : W p l e R s m args below meth c H locs cells slots Q (F0 m pc ls (.int (iI y) :: .int (iI x) :: rest)) :=
  va_mmin hx hb hml hown hlink hstat hini hcode hframes hlocals hc hs hdg (by rw [iI_min hz hy]; exact k)
theorem li_mmax (hx : p.tables.exec = Jvm.exec) (hb : c.code = cc) (hml : c.maxLocals = ls.size) {own : String} {index : Nat} (hown : s.vm.findClass own = some m.cls) (hlink : (Cond.methodLink own index Lib.Math.max.name).before args s = true) (hstat : (Cond.static Lib.Math.max.name).before args s = true) (hini : (Cond.initialized "java/lang/Math").before args s = true) (hcode : (Cond.code Lib.Math.max.name Lib.Math.max.code 2 (some .int)).before args s = true)
    (hframes : 1 ≤ R.frames) (hlocals : (rest.map fun v => v.category).sum + 13 ≤ R.locals) (hc : cells ≤ R.cells) (hs : slots ≤ R.slots) {x y : Int} (hz : -2147483648 ≤ x ∧ x < 2147483648) (hy : -2147483648 ≤ y ∧ y < 2147483648) (hdg : decode cc pc = .ok (.invokestatic index, 3))
    (k : W p l e R s m args below meth c H locs cells slots Q (F0 m (pc + 3) ls (.int (iI (max x y)) :: rest))) : W p l e R s m args below meth c H locs cells slots Q (F0 m pc ls (.int (iI y) :: .int (iI x) :: rest)) :=
  va_mmax hx hb hml hown hlink hstat hini hcode hframes hlocals hc hs hdg (by rw [iI_max hz hy]; exact k)
theorem li_copyb (hx : p.tables.exec = Jvm.exec) (hb : c.code = cc) (hml : c.maxLocals = ls.size) {own : String} {index : Nat} (hown : s.vm.findClass own = some m.cls) (hlink : (Cond.methodLink own index arraycopyName).before args s = true) (hnat : (Cond.native arraycopyName).before args s = true) (hstat : (Cond.static arraycopyName).before args s = true) (hini : (Cond.initialized "java/lang/System").before args s = true)
    (hK : va_K D cl tys s) (hP : va_P D cl ws H) (hD : va_D A ws) (hS : va_S A H0 H locs) (q0 q1 t0 t1 : Nat) {a0 : Nat} {c0 c1 : ClassId} {n0 n1 : Nat} {f g : Nat → Int} (ha0 : ws[q0]? = some (a0, .inl (c0, n0, .inl (fun j => bI (f j))))) (ha1 : ws[q1]? = some (a, .inl (c1, n1, .inl (fun j => bI (g j))))) (ht0 : tys[t0]? = some (c0, .byte)) (ht1 : tys[t1]? = some (c1, .byte))
    {sp dp n : Int} (h1 : 0 ≤ sp ∧ 0 ≤ n ∧ sp + n ≤ n0) (h2 : 0 ≤ dp ∧ dp + n ≤ n1) (hn0 : n0 < 2147483648) (hn1 : n1 < 2147483648)
    (hframes : 1 ≤ R.frames) (hlocals : (rest.map fun v => v.category).sum + (nativeFrameWords "java/lang/System" "arraycopy" 5 + 11) ≤ R.locals) (hdg : decode cc pc = .ok (.invokestatic index, 3))
    (kk : ∀ (H1 : Heap) (locs1 : List Loc), va_P D cl (ws.set q1 (a, .inl (c1, n1, .inl (fun j => bI (va_cpy f g sp.toNat dp.toNat n.toNat j))))) H1 → va_D A (ws.set q1 (a, .inl (c1, n1, .inl (fun j => bI (va_cpy f g sp.toNat dp.toNat n.toNat j))))) → va_S A H0 H1 locs1 → W p l e R s m args below meth c H1 locs1 cells slots Q (F0 m (pc + 3) ls rest)) : W p l e R s m args below meth c H locs cells slots Q (F0 m pc ls (.int (iI n) :: .int (iI dp) :: .ref a :: .int (iI sp) :: .ref a0 :: rest)) := by
  have e1 : (iI sp).toNatClampNeg = sp.toNat := iI_clamp (by omega)
  have e2 : (iI dp).toNatClampNeg = dp.toNat := iI_clamp (by omega)
  have e3 : (iI n).toNatClampNeg = n.toNat := iI_clamp (by omega)
  have nn : ∀ z : Int, 0 ≤ z ∧ z < 2147483648 → ¬ iI z < 0 := fun z hz => by rw [← iI_0, iI_lt (by omega) (by omega)]; omega
  refine va_copyi hx hb hml hown hlink hnat hstat hini hK hP hD hS q0 q1 t0 t1 ha0 ha1 ht0 ht1 rfl (nn sp (by omega)) (nn dp (by omega)) (nn n (by omega)) (by rw [e1, e3]; omega) (by rw [e2, e3]; omega) (fun i hi => bI_fit _) hframes hlocals hdg (fun H1 locs1 p1 p2 p3 => ?_)
  rw [e1, e2, e3, bI_cpy] at p1 p2
  exact kk H1 locs1 p1 p2 p3
theorem li_copyi (hx : p.tables.exec = Jvm.exec) (hb : c.code = cc) (hml : c.maxLocals = ls.size) {own : String} {index : Nat} (hown : s.vm.findClass own = some m.cls) (hlink : (Cond.methodLink own index arraycopyName).before args s = true) (hnat : (Cond.native arraycopyName).before args s = true) (hstat : (Cond.static arraycopyName).before args s = true) (hini : (Cond.initialized "java/lang/System").before args s = true)
    (hK : va_K D cl tys s) (hP : va_P D cl ws H) (hD : va_D A ws) (hS : va_S A H0 H locs) (q0 q1 t0 t1 : Nat) {a0 : Nat} {c0 c1 : ClassId} {n0 n1 : Nat} {f g : Nat → Int} (ha0 : ws[q0]? = some (a0, .inl (c0, n0, .inl (fun j => iI (f j))))) (ha1 : ws[q1]? = some (a, .inl (c1, n1, .inl (fun j => iI (g j))))) (ht0 : tys[t0]? = some (c0, .int)) (ht1 : tys[t1]? = some (c1, .int))
    {sp dp n : Int} (h1 : 0 ≤ sp ∧ 0 ≤ n ∧ sp + n ≤ n0) (h2 : 0 ≤ dp ∧ dp + n ≤ n1) (hn0 : n0 < 2147483648) (hn1 : n1 < 2147483648)
    (hframes : 1 ≤ R.frames) (hlocals : (rest.map fun v => v.category).sum + (nativeFrameWords "java/lang/System" "arraycopy" 5 + 11) ≤ R.locals) (hdg : decode cc pc = .ok (.invokestatic index, 3))
    (kk : ∀ (H1 : Heap) (locs1 : List Loc), va_P D cl (ws.set q1 (a, .inl (c1, n1, .inl (fun j => iI (va_cpy f g sp.toNat dp.toNat n.toNat j))))) H1 → va_D A (ws.set q1 (a, .inl (c1, n1, .inl (fun j => iI (va_cpy f g sp.toNat dp.toNat n.toNat j))))) → va_S A H0 H1 locs1 → W p l e R s m args below meth c H1 locs1 cells slots Q (F0 m (pc + 3) ls rest)) : W p l e R s m args below meth c H locs cells slots Q (F0 m pc ls (.int (iI n) :: .int (iI dp) :: .ref a :: .int (iI sp) :: .ref a0 :: rest)) := by
  have e1 : (iI sp).toNatClampNeg = sp.toNat := iI_clamp (by omega)
  have e2 : (iI dp).toNatClampNeg = dp.toNat := iI_clamp (by omega)
  have e3 : (iI n).toNatClampNeg = n.toNat := iI_clamp (by omega)
  have nn : ∀ z : Int, 0 ≤ z ∧ z < 2147483648 → ¬ iI z < 0 := fun z hz => by rw [← iI_0, iI_lt (by omega) (by omega)]; omega
  refine va_copyi hx hb hml hown hlink hnat hstat hini hK hP hD hS q0 q1 t0 t1 ha0 ha1 ht0 ht1 rfl (nn sp (by omega)) (nn dp (by omega)) (nn n (by omega)) (by rw [e1, e3]; omega) (by rw [e2, e3]; omega) (fun i hi => rfl) hframes hlocals hdg (fun H1 locs1 p1 p2 p3 => ?_)
  rw [e1, e2, e3, iI_cpy] at p1 p2
  exact kk H1 locs1 p1 p2 p3
end LI
