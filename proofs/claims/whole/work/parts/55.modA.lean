set_option maxHeartbeats 4000000 in
set_option maxRecDepth 100000 in
theorem c_M_new (l : Launch) (dC : Nat → ClassId) (dI : Nat → Nat → Nat) (sz : Nat) (mm : Nat) : mv_Met l yX4_init wsX4_init ({ frames := 1, cells := 4, slots := 40992, locals := 60 }) (va_Pc [.ref mm] (fun U => U.heap.size = sz ∧ va_P (dC, dI) vwCl [(mm, .inr (4, [.int (iI 0), .null, .int (iI 0), .null, .int (iI 0), .null, .null, .int (iI 0), .int (iI 0), .int (iI 0)]))] U.heap ∧ va_K (dC, dI) vwCl [] U ∧ va_D (fun _ => True) [(mm, .inr (4, [.int (iI 0), .null, .int (iI 0), .null, .int (iI 0), .null, .null, .int (iI 0), .int (iI 0), .int (iI 0)]))])) (mv_Q (fun (v : Option Value) (u : Nat × ClassId × Nat × ClassId × Nat × ClassId × Nat × ClassId) (k n : Nat) => match u with | (ta', cT', ka', cK', da', cD', ya', cY') => v = none ∧ k = 4 ∧ n = 40992) (fun (u : Nat × ClassId × Nat × ClassId × Nat × ClassId × Nat × ClassId) (tS : State) => match u with | (ta', cT', ka', cK', da', cD', ya', cY') => va_P (dC, dI) vwCl [(mm, .inr (4, [.int (iI 0), .ref ta', .int (iI 0), .ref ka', .int (iI 0), .ref da', .ref ya', .int (iI 0), .int (iI 0), .int (iI 0)])), (ta', .inl (cT', 4096, .inl (fun j => bI ((fun _ => (0 : Int)) j)))), (ka', .inl (cK', 4096, .inl (fun j => bI ((fun _ => (0 : Int)) j)))), (da', .inl (cD', 16400, .inl (fun j => iI ((fun _ => (0 : Int)) j)))), (ya', .inl (cY', 16400, .inl (fun j => iI ((fun _ => (0 : Int)) j))))] tS.heap ∧ va_K (dC, dI) vwCl [(cT', .byte), (cK', .byte), (cD', .int), (cY', .int)] tS ∧ va_D (va_A [(mm, .inr (4, [.int (iI 0), .null, .int (iI 0), .null, .int (iI 0), .null, .null, .int (iI 0), .int (iI 0), .int (iI 0)]))] sz) [(mm, .inr (4, [.int (iI 0), .ref ta', .int (iI 0), .ref ka', .int (iI 0), .ref da', .ref ya', .int (iI 0), .int (iI 0), .int (iI 0)])), (ta', .inl (cT', 4096, .inl (fun j => bI ((fun _ => (0 : Int)) j)))), (ka', .inl (cK', 4096, .inl (fun j => bI ((fun _ => (0 : Int)) j)))), (da', .inl (cD', 16400, .inl (fun j => iI ((fun _ => (0 : Int)) j)))), (ya', .inl (cY', 16400, .inl (fun j => iI ((fun _ => (0 : Int)) j))))]) (va_A [(mm, .inr (4, [.int (iI 0), .null, .int (iI 0), .null, .int (iI 0), .null, .null, .int (iI 0), .int (iI 0), .int (iI 0)]))] sz)) (va_A [(mm, .inr (4, [.int (iI 0), .null, .int (iI 0), .null, .int (iI 0), .null, .null, .int (iI 0), .int (iI 0), .int (iI 0)]))] sz) := by
  refine mv_ofW (cc := cX4_init) (maxL := 1) (ret := none) (by decide) rfl ?_
  intro p e s m args below meth c s₁ B hml hv
  obtain ⟨rfl, hsz, hP, hK, hD0⟩ := hv
  have hx := B.exec
  have hb := B.bytes
  have hr := B.returns
  have hT : ∀ w ∈ wT, w.before _ s = true := fun w h => atoms_spec (ws := wsX4_init) B.pre w (List.mem_cons_of_mem _ h)
  have hown : s.vm.findClass RX4 = some m.cls := findClass_of_methodNamed B.named
  have hlocks := B.notSynchronized
  have hin : meth.name = "<init>" := (name_of_methodNamed B.named B.method).1
  subst hsz
  have hD := hD0.self (sz := s.heap.size)
  generalize hAe : va_A [(mm, .inr (4, [.int (iI 0), .null, .int (iI 0), .null, .int (iI 0), .null, .null, .int (iI 0), .int (iI 0), .int (iI 0)]))] s.heap.size = A at hD ⊢
  have hA : ∀ q : Nat, s.heap.size ≤ q → A q := fun q h => by rw [← hAe]; exact Or.inr h
  have hS : va_S A s.heap s.heap [] := va_S.rf
  have hP : va_P (dC, dI) vwCl [(mm, .inr (4, [.int (iI 0), .null, .int (iI 0), .null, .int (iI 0), .null, .null, .int (iI 0), .int (iI 0), .int (iI 0)]))] s.heap := hP
  have hl := lv_entry ([.ref mm]) (n := 1) (Nat.le_of_ble_eq_true rfl)
  rw [lg_entry_eq]
  generalize (lg_sl ([.ref mm]) ++ List.replicate (1 - (lg_sl ([.ref mm])).length) Slot.unset).toArray = ls at hl ⊢
  have hl : lv_has ls 1 [(0, .ref mm)] := hl
  refine lv_aload_n hx hb dX4_init_0 rfl (lv_at hl 0 rfl) ?_
  refine W.objInit hx hb hown (hT _ wd516) (hT _ wd48) (hT _ wd49) rfl (by rw [hml]; exact hl.1) rfl dX4_init_1 (Nat.le_of_ble_eq_true rfl) (Nat.le_of_ble_eq_true rfl) ?_
  refine W.eq (g2 := F0 m 4 ls []) rfl ?_
  refine lv_aload_n hx hb dX4_init_4 rfl (lv_at hl 0 rfl) ?_
  refine lv_sipush (v := iI 4096) hx hb dX4_init_5 (by decide +kernel) ?_
  refine va_newa (atype := .byte) (ty := .byte) (N' := 4096) (a0 := (4096, .inl (fun j => bI ((fun _ => (0 : Int)) j)))) hx hb (hT _ wd63) rfl hK hP hD hS hA (fun cA => rfl) (by rw [← iI_0, iI_lt (by omega) (by omega)]; omega) (by rw [iI_clamp (by omega)]; try omega) (by show _ * _ ≤ _; simp only [componentBytes]; omega) (by show 0 + 1 ≤ 4; omega) (by show 0 + 4096 ≤ 40992; omega) dX4_init_8 (fun q1 cA2 H hK hP hD hS => ?_)
  have hP : va_P (dC, dI) vwCl [(mm, .inr (4, [.int (iI 0), .null, .int (iI 0), .null, .int (iI 0), .null, .null, .int (iI 0), .int (iI 0), .int (iI 0)])), (q1, .inl (cA2, 4096, .inl (fun j => bI ((fun _ => (0 : Int)) j))))] H := hP
  have hD : va_D A [(mm, .inr (4, [.int (iI 0), .null, .int (iI 0), .null, .int (iI 0), .null, .null, .int (iI 0), .int (iI 0), .int (iI 0)])), (q1, .inl (cA2, 4096, .inl (fun j => bI ((fun _ => (0 : Int)) j))))] := hD
  have hK : va_K (dC, dI) vwCl [(cA2, .byte)] s := hK
  refine va_putF (D := (dC, dI)) (ci := 4) (v := .ref q1) (ty := .array .byte) (C := RX4) (T := TX4) (N := 10) hx hb hT inX4 tyX4 tyX4_ok nX4 hown hK hP hD hS 0 rfl rfl 1 (by decide) (hT _ wd518) (fun _ h9 => h9) rfl hin rfl (by decide +kernel) rfl rfl (Nat.le_of_ble_eq_true rfl) dX4_init_10 (fun H locs hP hD hS => ?_)
  have hP : va_P (dC, dI) vwCl [(mm, .inr (4, [.int (iI 0), .ref q1, .int (iI 0), .null, .int (iI 0), .null, .null, .int (iI 0), .int (iI 0), .int (iI 0)])), (q1, .inl (cA2, 4096, .inl (fun j => bI ((fun _ => (0 : Int)) j))))] H := hP
  have hD : va_D A [(mm, .inr (4, [.int (iI 0), .ref q1, .int (iI 0), .null, .int (iI 0), .null, .null, .int (iI 0), .int (iI 0), .int (iI 0)])), (q1, .inl (cA2, 4096, .inl (fun j => bI ((fun _ => (0 : Int)) j))))] := hD
  refine lv_aload_n hx hb dX4_init_13 rfl (lv_at hl 0 rfl) ?_
  refine lv_sipush (v := iI 4096) hx hb dX4_init_14 (by decide +kernel) ?_
  refine va_newa (atype := .byte) (ty := .byte) (N' := 4096) (a0 := (4096, .inl (fun j => bI ((fun _ => (0 : Int)) j)))) hx hb (hT _ wd63) rfl hK hP hD hS hA (fun cA => rfl) (by rw [← iI_0, iI_lt (by omega) (by omega)]; omega) (by rw [iI_clamp (by omega)]; try omega) (by show _ * _ ≤ _; simp only [componentBytes]; omega) (by show 0 + 1 + 1 ≤ 4; omega) (by show 0 + 4096 + 4096 ≤ 40992; omega) dX4_init_17 (fun q3 cA4 H hK hP hD hS => ?_)
  have hP : va_P (dC, dI) vwCl [(mm, .inr (4, [.int (iI 0), .ref q1, .int (iI 0), .null, .int (iI 0), .null, .null, .int (iI 0), .int (iI 0), .int (iI 0)])), (q1, .inl (cA2, 4096, .inl (fun j => bI ((fun _ => (0 : Int)) j)))), (q3, .inl (cA4, 4096, .inl (fun j => bI ((fun _ => (0 : Int)) j))))] H := hP
  have hD : va_D A [(mm, .inr (4, [.int (iI 0), .ref q1, .int (iI 0), .null, .int (iI 0), .null, .null, .int (iI 0), .int (iI 0), .int (iI 0)])), (q1, .inl (cA2, 4096, .inl (fun j => bI ((fun _ => (0 : Int)) j)))), (q3, .inl (cA4, 4096, .inl (fun j => bI ((fun _ => (0 : Int)) j))))] := hD
  have hK : va_K (dC, dI) vwCl [(cA2, .byte), (cA4, .byte)] s := hK
  refine va_putF (D := (dC, dI)) (ci := 4) (v := .ref q3) (ty := .array .byte) (C := RX4) (T := TX4) (N := 10) hx hb hT inX4 tyX4 tyX4_ok nX4 hown hK hP hD hS 0 rfl rfl 3 (by decide) (hT _ wd520) (fun _ h9 => h9) rfl hin rfl (by decide +kernel) rfl rfl (Nat.le_of_ble_eq_true rfl) dX4_init_19 (fun H locs hP hD hS => ?_)
  have hP : va_P (dC, dI) vwCl [(mm, .inr (4, [.int (iI 0), .ref q1, .int (iI 0), .ref q3, .int (iI 0), .null, .null, .int (iI 0), .int (iI 0), .int (iI 0)])), (q1, .inl (cA2, 4096, .inl (fun j => bI ((fun _ => (0 : Int)) j)))), (q3, .inl (cA4, 4096, .inl (fun j => bI ((fun _ => (0 : Int)) j))))] H := hP
  have hD : va_D A [(mm, .inr (4, [.int (iI 0), .ref q1, .int (iI 0), .ref q3, .int (iI 0), .null, .null, .int (iI 0), .int (iI 0), .int (iI 0)])), (q1, .inl (cA2, 4096, .inl (fun j => bI ((fun _ => (0 : Int)) j)))), (q3, .inl (cA4, 4096, .inl (fun j => bI ((fun _ => (0 : Int)) j))))] := hD
  refine lv_aload_n hx hb dX4_init_22 rfl (lv_at hl 0 rfl) ?_
  refine lv_sipush (v := iI 16400) hx hb dX4_init_23 (by decide +kernel) ?_
  refine va_newa (atype := .int) (ty := .int) (N' := 16400) (a0 := (16400, .inl (fun j => iI ((fun _ => (0 : Int)) j)))) hx hb (hT _ wd119) rfl hK hP hD hS hA (fun cA => rfl) (by rw [← iI_0, iI_lt (by omega) (by omega)]; omega) (by rw [iI_clamp (by omega)]; try omega) (by show _ * _ ≤ _; simp only [componentBytes]; omega) (by show 0 + 1 + 1 + 1 ≤ 4; omega) (by show 0 + 4096 + 4096 + 16400 ≤ 40992; omega) dX4_init_26 (fun q5 cA6 H hK hP hD hS => ?_)
  have hP : va_P (dC, dI) vwCl [(mm, .inr (4, [.int (iI 0), .ref q1, .int (iI 0), .ref q3, .int (iI 0), .null, .null, .int (iI 0), .int (iI 0), .int (iI 0)])), (q1, .inl (cA2, 4096, .inl (fun j => bI ((fun _ => (0 : Int)) j)))), (q3, .inl (cA4, 4096, .inl (fun j => bI ((fun _ => (0 : Int)) j)))), (q5, .inl (cA6, 16400, .inl (fun j => iI ((fun _ => (0 : Int)) j))))] H := hP
  have hD : va_D A [(mm, .inr (4, [.int (iI 0), .ref q1, .int (iI 0), .ref q3, .int (iI 0), .null, .null, .int (iI 0), .int (iI 0), .int (iI 0)])), (q1, .inl (cA2, 4096, .inl (fun j => bI ((fun _ => (0 : Int)) j)))), (q3, .inl (cA4, 4096, .inl (fun j => bI ((fun _ => (0 : Int)) j)))), (q5, .inl (cA6, 16400, .inl (fun j => iI ((fun _ => (0 : Int)) j))))] := hD
  have hK : va_K (dC, dI) vwCl [(cA2, .byte), (cA4, .byte), (cA6, .int)] s := hK
  refine va_putF (D := (dC, dI)) (ci := 4) (v := .ref q5) (ty := .array .int) (C := RX4) (T := TX4) (N := 10) hx hb hT inX4 tyX4 tyX4_ok nX4 hown hK hP hD hS 0 rfl rfl 5 (by decide) (hT _ wd522) (fun _ h9 => h9) rfl hin rfl (by decide +kernel) rfl rfl (Nat.le_of_ble_eq_true rfl) dX4_init_28 (fun H locs hP hD hS => ?_)
  have hP : va_P (dC, dI) vwCl [(mm, .inr (4, [.int (iI 0), .ref q1, .int (iI 0), .ref q3, .int (iI 0), .ref q5, .null, .int (iI 0), .int (iI 0), .int (iI 0)])), (q1, .inl (cA2, 4096, .inl (fun j => bI ((fun _ => (0 : Int)) j)))), (q3, .inl (cA4, 4096, .inl (fun j => bI ((fun _ => (0 : Int)) j)))), (q5, .inl (cA6, 16400, .inl (fun j => iI ((fun _ => (0 : Int)) j))))] H := hP
  have hD : va_D A [(mm, .inr (4, [.int (iI 0), .ref q1, .int (iI 0), .ref q3, .int (iI 0), .ref q5, .null, .int (iI 0), .int (iI 0), .int (iI 0)])), (q1, .inl (cA2, 4096, .inl (fun j => bI ((fun _ => (0 : Int)) j)))), (q3, .inl (cA4, 4096, .inl (fun j => bI ((fun _ => (0 : Int)) j)))), (q5, .inl (cA6, 16400, .inl (fun j => iI ((fun _ => (0 : Int)) j))))] := hD
  refine lv_aload_n hx hb dX4_init_31 rfl (lv_at hl 0 rfl) ?_
  refine lv_sipush (v := iI 16400) hx hb dX4_init_32 (by decide +kernel) ?_
  refine va_newa (atype := .int) (ty := .int) (N' := 16400) (a0 := (16400, .inl (fun j => iI ((fun _ => (0 : Int)) j)))) hx hb (hT _ wd119) rfl hK hP hD hS hA (fun cA => rfl) (by rw [← iI_0, iI_lt (by omega) (by omega)]; omega) (by rw [iI_clamp (by omega)]; try omega) (by show _ * _ ≤ _; simp only [componentBytes]; omega) (by show 0 + 1 + 1 + 1 + 1 ≤ 4; omega) (by show 0 + 4096 + 4096 + 16400 + 16400 ≤ 40992; omega) dX4_init_35 (fun q7 cA8 H hK hP hD hS => ?_)
  have hP : va_P (dC, dI) vwCl [(mm, .inr (4, [.int (iI 0), .ref q1, .int (iI 0), .ref q3, .int (iI 0), .ref q5, .null, .int (iI 0), .int (iI 0), .int (iI 0)])), (q1, .inl (cA2, 4096, .inl (fun j => bI ((fun _ => (0 : Int)) j)))), (q3, .inl (cA4, 4096, .inl (fun j => bI ((fun _ => (0 : Int)) j)))), (q5, .inl (cA6, 16400, .inl (fun j => iI ((fun _ => (0 : Int)) j)))), (q7, .inl (cA8, 16400, .inl (fun j => iI ((fun _ => (0 : Int)) j))))] H := hP
  have hD : va_D A [(mm, .inr (4, [.int (iI 0), .ref q1, .int (iI 0), .ref q3, .int (iI 0), .ref q5, .null, .int (iI 0), .int (iI 0), .int (iI 0)])), (q1, .inl (cA2, 4096, .inl (fun j => bI ((fun _ => (0 : Int)) j)))), (q3, .inl (cA4, 4096, .inl (fun j => bI ((fun _ => (0 : Int)) j)))), (q5, .inl (cA6, 16400, .inl (fun j => iI ((fun _ => (0 : Int)) j)))), (q7, .inl (cA8, 16400, .inl (fun j => iI ((fun _ => (0 : Int)) j))))] := hD
  have hK : va_K (dC, dI) vwCl [(cA2, .byte), (cA4, .byte), (cA6, .int), (cA8, .int)] s := hK
  refine va_putF (D := (dC, dI)) (ci := 4) (v := .ref q7) (ty := .array .int) (C := RX4) (T := TX4) (N := 10) hx hb hT inX4 tyX4 tyX4_ok nX4 hown hK hP hD hS 0 rfl rfl 6 (by decide) (hT _ wd523) (fun _ h9 => h9) rfl hin rfl (by decide +kernel) rfl rfl (Nat.le_of_ble_eq_true rfl) dX4_init_37 (fun H locs hP hD hS => ?_)
  have hP : va_P (dC, dI) vwCl [(mm, .inr (4, [.int (iI 0), .ref q1, .int (iI 0), .ref q3, .int (iI 0), .ref q5, .ref q7, .int (iI 0), .int (iI 0), .int (iI 0)])), (q1, .inl (cA2, 4096, .inl (fun j => bI ((fun _ => (0 : Int)) j)))), (q3, .inl (cA4, 4096, .inl (fun j => bI ((fun _ => (0 : Int)) j)))), (q5, .inl (cA6, 16400, .inl (fun j => iI ((fun _ => (0 : Int)) j)))), (q7, .inl (cA8, 16400, .inl (fun j => iI ((fun _ => (0 : Int)) j))))] H := hP
  have hD : va_D A [(mm, .inr (4, [.int (iI 0), .ref q1, .int (iI 0), .ref q3, .int (iI 0), .ref q5, .ref q7, .int (iI 0), .int (iI 0), .int (iI 0)])), (q1, .inl (cA2, 4096, .inl (fun j => bI ((fun _ => (0 : Int)) j)))), (q3, .inl (cA4, 4096, .inl (fun j => bI ((fun _ => (0 : Int)) j)))), (q5, .inl (cA6, 16400, .inl (fun j => iI ((fun _ => (0 : Int)) j)))), (q7, .inl (cA8, 16400, .inl (fun j => iI ((fun _ => (0 : Int)) j))))] := hD
  have hP9 := hP.sub (ws' := [(mm, .inr (4, [.int (iI 0), .ref q1, .int (iI 0), .ref q3, .int (iI 0), .ref q5, .ref q7, .int (iI 0), .int (iI 0), .int (iI 0)])), (q1, .inl (cA2, 4096, .inl (fun j => bI ((fun _ => (0 : Int)) j)))), (q3, .inl (cA4, 4096, .inl (fun j => bI ((fun _ => (0 : Int)) j)))), (q5, .inl (cA6, 16400, .inl (fun j => iI ((fun _ => (0 : Int)) j)))), (q7, .inl (cA8, 16400, .inl (fun j => iI ((fun _ => (0 : Int)) j))))]) [0, 1, 2, 3, 4] rfl
  have hD9 := hD.sub (ws' := [(mm, .inr (4, [.int (iI 0), .ref q1, .int (iI 0), .ref q3, .int (iI 0), .ref q5, .ref q7, .int (iI 0), .int (iI 0), .int (iI 0)])), (q1, .inl (cA2, 4096, .inl (fun j => bI ((fun _ => (0 : Int)) j)))), (q3, .inl (cA4, 4096, .inl (fun j => bI ((fun _ => (0 : Int)) j)))), (q5, .inl (cA6, 16400, .inl (fun j => iI ((fun _ => (0 : Int)) j)))), (q7, .inl (cA8, 16400, .inl (fun j => iI ((fun _ => (0 : Int)) j))))]) [0, 1, 2, 3, 4] (by decide) rfl
  have hK9 := hK.sub (tys' := [(cA2, .byte), (cA4, .byte), (cA6, .int), (cA8, .int)]) [0, 1, 2, 3] rfl
  exact mv_vret hx hb hr hlocks (fun tS ht hW => ⟨⟨_, (q1, cA2, q3, cA4, q5, cA6, q7, cA8), rfl, ⟨rfl, rfl, rfl⟩, by rw [ht]; exact hP9, va_K.moved hW.alike hK9, hD9⟩, hS.F ht⟩) hS.2.2 dX4_init_40
set_option maxHeartbeats 4000000 in
set_option maxRecDepth 100000 in
theorem c_M_thrown (l : Launch) (dC : Nat → ClassId) (dI : Nat → Nat → Nat) (sz : Nat) (mm : Nat) (fl : Int) (ta : Nat) (tz : Int) (ka : Nat) (nn : Int) (da : Nat) (ya : Nat) (pt : Int) (md : Int) (sx : Int) : mv_Met l yX4_thrown wsX4_thrown ({ frames := 0, cells := 0, slots := 0, locals := 0 }) (va_Pc [.ref mm] (fun U => U.heap.size = sz ∧ va_P (dC, dI) vwCl [(mm, .inr (4, [.int (iI fl), .ref ta, .int (iI tz), .ref ka, .int (iI nn), .ref da, .ref ya, .int (iI pt), .int (iI md), .int (iI sx)]))] U.heap ∧ va_K (dC, dI) vwCl [] U ∧ va_D (fun _ => True) [(mm, .inr (4, [.int (iI fl), .ref ta, .int (iI tz), .ref ka, .int (iI nn), .ref da, .ref ya, .int (iI pt), .int (iI md), .int (iI sx)]))])) (mv_Q (fun (v : Option Value) (_ : Unit) (k n : Nat) => v = some (.int (iI fl)) ∧ k = 0 ∧ n = 0) (fun (_ : Unit) (tS : State) => va_P (dC, dI) vwCl [(mm, .inr (4, [.int (iI fl), .ref ta, .int (iI tz), .ref ka, .int (iI nn), .ref da, .ref ya, .int (iI pt), .int (iI md), .int (iI sx)]))] tS.heap ∧ va_K (dC, dI) vwCl [] tS ∧ va_D (va_A [(mm, .inr (4, [.int (iI fl), .ref ta, .int (iI tz), .ref ka, .int (iI nn), .ref da, .ref ya, .int (iI pt), .int (iI md), .int (iI sx)]))] sz) [(mm, .inr (4, [.int (iI fl), .ref ta, .int (iI tz), .ref ka, .int (iI nn), .ref da, .ref ya, .int (iI pt), .int (iI md), .int (iI sx)]))]) (va_A [(mm, .inr (4, [.int (iI fl), .ref ta, .int (iI tz), .ref ka, .int (iI nn), .ref da, .ref ya, .int (iI pt), .int (iI md), .int (iI sx)]))] sz)) (va_A [(mm, .inr (4, [.int (iI fl), .ref ta, .int (iI tz), .ref ka, .int (iI nn), .ref da, .ref ya, .int (iI pt), .int (iI md), .int (iI sx)]))] sz) := by
  refine mv_ofW (cc := cX4_thrown) (maxL := 1) (ret := (some .int)) (by decide) rfl ?_
  intro p e s m args below meth c s₁ B hml hv
  obtain ⟨rfl, hsz, hP, hK, hD0⟩ := hv
  have hx := B.exec
  have hb := B.bytes
  have hr := B.returns
  have hT : ∀ w ∈ wT, w.before _ s = true := fun w h => atoms_spec (ws := wsX4_thrown) B.pre w (List.mem_cons_of_mem _ h)
  have hown : s.vm.findClass RX4 = some m.cls := findClass_of_methodNamed B.named
  have hlocks := B.notSynchronized
  subst hsz
  have hD := hD0.self (sz := s.heap.size)
  generalize hAe : va_A [(mm, .inr (4, [.int (iI fl), .ref ta, .int (iI tz), .ref ka, .int (iI nn), .ref da, .ref ya, .int (iI pt), .int (iI md), .int (iI sx)]))] s.heap.size = A at hD ⊢
  have hA : ∀ q : Nat, s.heap.size ≤ q → A q := fun q h => by rw [← hAe]; exact Or.inr h
  have hS : va_S A s.heap s.heap [] := va_S.rf
  have hP : va_P (dC, dI) vwCl [(mm, .inr (4, [.int (iI fl), .ref ta, .int (iI tz), .ref ka, .int (iI nn), .ref da, .ref ya, .int (iI pt), .int (iI md), .int (iI sx)]))] s.heap := hP
  have hl := lv_entry ([.ref mm]) (n := 1) (Nat.le_of_ble_eq_true rfl)
  rw [lg_entry_eq]
  generalize (lg_sl ([.ref mm]) ++ List.replicate (1 - (lg_sl ([.ref mm])).length) Slot.unset).toArray = ls at hl ⊢
  have hl : lv_has ls 1 [(0, .ref mm)] := hl
  refine lv_aload_n hx hb dX4_thrown_0 rfl (lv_at hl 0 rfl) ?_
  refine va_get (D := (dC, dI)) (ci := 4) (v := .int (iI fl)) (C := RX4) (T := TX4) (N := 10) hx hb hT inX4 hown hK hP 0 rfl rfl 0 (by decide) (hT _ wd517) (fun _ h9 => h9) rfl dX4_thrown_1 ?_
  have hP9 := hP.sub (ws' := [(mm, .inr (4, [.int (iI fl), .ref ta, .int (iI tz), .ref ka, .int (iI nn), .ref da, .ref ya, .int (iI pt), .int (iI md), .int (iI sx)]))]) [0] rfl
  have hD9 := hD.sub (ws' := [(mm, .inr (4, [.int (iI fl), .ref ta, .int (iI tz), .ref ka, .int (iI nn), .ref da, .ref ya, .int (iI pt), .int (iI md), .int (iI sx)]))]) [0] (by decide) rfl
  have hK9 := hK.sub (tys' := []) [] rfl
  exact mv_iret hx hb hr hlocks (fun tS ht hW => ⟨⟨_, (), rfl, ⟨rfl, rfl, rfl⟩, by rw [ht]; exact hP9, va_K.moved hW.alike hK9, hD9⟩, hS.F ht⟩) hS.2.2 dX4_thrown_4
set_option maxHeartbeats 4000000 in
set_option maxRecDepth 100000 in
theorem c_M_fail (l : Launch) (dC : Nat → ClassId) (dI : Nat → Nat → Nat) (sz : Nat) (mm : Nat) (fl : Int) (ta : Nat) (tz : Int) (ka : Nat) (nn : Int) (da : Nat) (ya : Nat) (pt : Int) (md : Int) (sx : Int) (i : Int) : mv_Met l yX4_fail wsX4_fail ({ frames := 0, cells := 0, slots := 0, locals := 0 }) (va_Pc [.ref mm, .int (iI i)] (fun U => U.heap.size = sz ∧ va_P (dC, dI) vwCl [(mm, .inr (4, [.int (iI fl), .ref ta, .int (iI tz), .ref ka, .int (iI nn), .ref da, .ref ya, .int (iI pt), .int (iI md), .int (iI sx)]))] U.heap ∧ va_K (dC, dI) vwCl [] U ∧ va_D (fun _ => True) [(mm, .inr (4, [.int (iI fl), .ref ta, .int (iI tz), .ref ka, .int (iI nn), .ref da, .ref ya, .int (iI pt), .int (iI md), .int (iI sx)]))])) (mv_Q (fun (v : Option Value) (_ : Unit) (k n : Nat) => v = some (.int (iI 0)) ∧ k = 0 ∧ n = 0) (fun (_ : Unit) (tS : State) => va_P (dC, dI) vwCl [(mm, .inr (4, [.int (iI i), .ref ta, .int (iI tz), .ref ka, .int (iI nn), .ref da, .ref ya, .int (iI pt), .int (iI md), .int (iI sx)]))] tS.heap ∧ va_K (dC, dI) vwCl [] tS ∧ va_D (va_A [(mm, .inr (4, [.int (iI fl), .ref ta, .int (iI tz), .ref ka, .int (iI nn), .ref da, .ref ya, .int (iI pt), .int (iI md), .int (iI sx)]))] sz) [(mm, .inr (4, [.int (iI i), .ref ta, .int (iI tz), .ref ka, .int (iI nn), .ref da, .ref ya, .int (iI pt), .int (iI md), .int (iI sx)]))]) (va_A [(mm, .inr (4, [.int (iI fl), .ref ta, .int (iI tz), .ref ka, .int (iI nn), .ref da, .ref ya, .int (iI pt), .int (iI md), .int (iI sx)]))] sz)) (va_A [(mm, .inr (4, [.int (iI fl), .ref ta, .int (iI tz), .ref ka, .int (iI nn), .ref da, .ref ya, .int (iI pt), .int (iI md), .int (iI sx)]))] sz) := by
  refine mv_ofW (cc := cX4_fail) (maxL := 2) (ret := (some .int)) (by decide) rfl ?_
  intro p e s m args below meth c s₁ B hml hv
  obtain ⟨rfl, hsz, hP, hK, hD0⟩ := hv
  have hx := B.exec
  have hb := B.bytes
  have hr := B.returns
  have hT : ∀ w ∈ wT, w.before _ s = true := fun w h => atoms_spec (ws := wsX4_fail) B.pre w (List.mem_cons_of_mem _ h)
  have hown : s.vm.findClass RX4 = some m.cls := findClass_of_methodNamed B.named
  have hlocks := B.notSynchronized
  subst hsz
  have hD := hD0.self (sz := s.heap.size)
  generalize hAe : va_A [(mm, .inr (4, [.int (iI fl), .ref ta, .int (iI tz), .ref ka, .int (iI nn), .ref da, .ref ya, .int (iI pt), .int (iI md), .int (iI sx)]))] s.heap.size = A at hD ⊢
  have hA : ∀ q : Nat, s.heap.size ≤ q → A q := fun q h => by rw [← hAe]; exact Or.inr h
  have hS : va_S A s.heap s.heap [] := va_S.rf
  have hP : va_P (dC, dI) vwCl [(mm, .inr (4, [.int (iI fl), .ref ta, .int (iI tz), .ref ka, .int (iI nn), .ref da, .ref ya, .int (iI pt), .int (iI md), .int (iI sx)]))] s.heap := hP
  have hl := lv_entry ([.ref mm, .int (iI i)]) (n := 2) (Nat.le_of_ble_eq_true rfl)
  rw [lg_entry_eq]
  generalize (lg_sl ([.ref mm, .int (iI i)]) ++ List.replicate (2 - (lg_sl ([.ref mm, .int (iI i)])).length) Slot.unset).toArray = ls at hl ⊢
  have hl : lv_has ls 2 [(0, .ref mm), (1, .int (iI i))] := hl
  refine lv_aload_n hx hb dX4_fail_0 rfl (lv_at hl 0 rfl) ?_
  refine lv_iload_n hx hb dX4_fail_1 rfl (lv_at hl 1 rfl) ?_
  refine va_put (D := (dC, dI)) (ci := 4) (v := .int (iI i)) (ty := .int) (C := RX4) (T := TX4) (N := 10) hx hb hT inX4 tyX4 tyX4_ok nX4 hown hK hP hD hS 0 rfl rfl 0 (by decide) (hT _ wd517) (fun _ h9 => h9) rfl (by decide +kernel) rfl rfl (Nat.le_of_ble_eq_true rfl) dX4_fail_2 (fun H locs hP hD hS => ?_)
  have hP : va_P (dC, dI) vwCl [(mm, .inr (4, [.int (iI i), .ref ta, .int (iI tz), .ref ka, .int (iI nn), .ref da, .ref ya, .int (iI pt), .int (iI md), .int (iI sx)]))] H := hP
  have hD : va_D A [(mm, .inr (4, [.int (iI i), .ref ta, .int (iI tz), .ref ka, .int (iI nn), .ref da, .ref ya, .int (iI pt), .int (iI md), .int (iI sx)]))] := hD
  refine lv_iconst (v := iI 0) hx hb dX4_fail_5 rfl ?_
  have hP9 := hP.sub (ws' := [(mm, .inr (4, [.int (iI i), .ref ta, .int (iI tz), .ref ka, .int (iI nn), .ref da, .ref ya, .int (iI pt), .int (iI md), .int (iI sx)]))]) [0] rfl
  have hD9 := hD.sub (ws' := [(mm, .inr (4, [.int (iI i), .ref ta, .int (iI tz), .ref ka, .int (iI nn), .ref da, .ref ya, .int (iI pt), .int (iI md), .int (iI sx)]))]) [0] (by decide) rfl
  have hK9 := hK.sub (tys' := []) [] rfl
  exact mv_iret hx hb hr hlocks (fun tS ht hW => ⟨⟨_, (), rfl, ⟨rfl, rfl, rfl⟩, by rw [ht]; exact hP9, va_K.moved hW.alike hK9, hD9⟩, hS.F ht⟩) hS.2.2 dX4_fail_6
set_option maxHeartbeats 4000000 in
set_option maxRecDepth 100000 in
theorem c_M_out (l : Launch) (dC : Nat → ClassId) (dI : Nat → Nat → Nat) (sz : Nat) (mm : Nat) (fl : Int) (ta : Nat) (tz : Int) (ka : Nat) (nn : Int) (da : Nat) (ya : Nat) (pt : Int) (md : Int) (sx : Int) (a : Int) (hnn : 0 ≤ nn ∧ nn ≤ 2048) (ha : -2147483648 ≤ a ∧ a < 2147483648) : mv_Met l yX4_out wsX4_out ({ frames := 0, cells := 0, slots := 0, locals := 0 }) (va_Pc [.ref mm, .int (iI a)] (fun U => U.heap.size = sz ∧ va_P (dC, dI) vwCl [(mm, .inr (4, [.int (iI fl), .ref ta, .int (iI tz), .ref ka, .int (iI nn), .ref da, .ref ya, .int (iI pt), .int (iI md), .int (iI sx)]))] U.heap ∧ va_K (dC, dI) vwCl [] U ∧ va_D (fun _ => True) [(mm, .inr (4, [.int (iI fl), .ref ta, .int (iI tz), .ref ka, .int (iI nn), .ref da, .ref ya, .int (iI pt), .int (iI md), .int (iI sx)]))])) (mv_Q (fun (v : Option Value) (u : Int) (k n : Nat) => match u with | (q') => v = some (.int (iI q')) ∧ (q' = 1 ∧ (a < 0 ∨ nn ≤ a) ∨ q' = 0 ∧ 0 ≤ a ∧ a < nn) ∧ k = 0 ∧ n = 0) (fun (u : Int) (tS : State) => match u with | (q') => va_P (dC, dI) vwCl [(mm, .inr (4, [.int (iI fl), .ref ta, .int (iI tz), .ref ka, .int (iI nn), .ref da, .ref ya, .int (iI pt), .int (iI md), .int (iI sx)]))] tS.heap ∧ va_K (dC, dI) vwCl [] tS ∧ va_D (va_A [(mm, .inr (4, [.int (iI fl), .ref ta, .int (iI tz), .ref ka, .int (iI nn), .ref da, .ref ya, .int (iI pt), .int (iI md), .int (iI sx)]))] sz) [(mm, .inr (4, [.int (iI fl), .ref ta, .int (iI tz), .ref ka, .int (iI nn), .ref da, .ref ya, .int (iI pt), .int (iI md), .int (iI sx)]))]) (va_A [(mm, .inr (4, [.int (iI fl), .ref ta, .int (iI tz), .ref ka, .int (iI nn), .ref da, .ref ya, .int (iI pt), .int (iI md), .int (iI sx)]))] sz)) (va_A [(mm, .inr (4, [.int (iI fl), .ref ta, .int (iI tz), .ref ka, .int (iI nn), .ref da, .ref ya, .int (iI pt), .int (iI md), .int (iI sx)]))] sz) := by
  refine mv_ofW (cc := cX4_out) (maxL := 2) (ret := (some .boolean)) (by decide) rfl ?_
  intro p e s m args below meth c s₁ B hml hv
  obtain ⟨rfl, hsz, hP, hK, hD0⟩ := hv
  have hx := B.exec
  have hb := B.bytes
  have hr := B.returns
  have hT : ∀ w ∈ wT, w.before _ s = true := fun w h => atoms_spec (ws := wsX4_out) B.pre w (List.mem_cons_of_mem _ h)
  have hown : s.vm.findClass RX4 = some m.cls := findClass_of_methodNamed B.named
  have hlocks := B.notSynchronized
  subst hsz
  have hD := hD0.self (sz := s.heap.size)
  generalize hAe : va_A [(mm, .inr (4, [.int (iI fl), .ref ta, .int (iI tz), .ref ka, .int (iI nn), .ref da, .ref ya, .int (iI pt), .int (iI md), .int (iI sx)]))] s.heap.size = A at hD ⊢
  have hA : ∀ q : Nat, s.heap.size ≤ q → A q := fun q h => by rw [← hAe]; exact Or.inr h
  have hS : va_S A s.heap s.heap [] := va_S.rf
  have hP : va_P (dC, dI) vwCl [(mm, .inr (4, [.int (iI fl), .ref ta, .int (iI tz), .ref ka, .int (iI nn), .ref da, .ref ya, .int (iI pt), .int (iI md), .int (iI sx)]))] s.heap := hP
  have hl := lv_entry ([.ref mm, .int (iI a)]) (n := 2) (Nat.le_of_ble_eq_true rfl)
  rw [lg_entry_eq]
  generalize (lg_sl ([.ref mm, .int (iI a)]) ++ List.replicate (2 - (lg_sl ([.ref mm, .int (iI a)])).length) Slot.unset).toArray = ls at hl ⊢
  have hl : lv_has ls 2 [(0, .ref mm), (1, .int (iI a))] := hl
  refine lv_iload_n hx hb dX4_out_0 rfl (lv_at hl 1 rfl) ?_
  refine li_if_lt (tgt := 12) hx hb (by omega) dX4_out_1 (by decide) (fun c1 => ?_) (fun c1 => ?_)
  · skip
    refine lv_iconst (v := iI 1) hx hb dX4_out_12 rfl ?_
    refine lv_goto (tgt := 17) hx hb dX4_out_13 (by decide) ?_
    have hP9 := hP.sub (ws' := [(mm, .inr (4, [.int (iI fl), .ref ta, .int (iI tz), .ref ka, .int (iI nn), .ref da, .ref ya, .int (iI pt), .int (iI md), .int (iI sx)]))]) [0] rfl
    have hD9 := hD.sub (ws' := [(mm, .inr (4, [.int (iI fl), .ref ta, .int (iI tz), .ref ka, .int (iI nn), .ref da, .ref ya, .int (iI pt), .int (iI md), .int (iI sx)]))]) [0] (by decide) rfl
    have hK9 := hK.sub (tys' := []) [] rfl
    exact mv_zret hx hb hr (zb_n (by omega)) hlocks (fun tS ht hW => ⟨⟨_, (1), rfl, ⟨rfl, by omega, rfl, rfl⟩, by rw [ht]; exact hP9, va_K.moved hW.alike hK9, hD9⟩, hS.F ht⟩) hS.2.2 dX4_out_17
  · skip
    refine lv_iload_n hx hb dX4_out_4 rfl (lv_at hl 1 rfl) ?_
    refine lv_aload_n hx hb dX4_out_5 rfl (lv_at hl 0 rfl) ?_
    refine va_get (D := (dC, dI)) (ci := 4) (v := .int (iI nn)) (C := RX4) (T := TX4) (N := 10) hx hb hT inX4 hown hK hP 0 rfl rfl 4 (by decide) (hT _ wd521) (fun _ h9 => h9) rfl dX4_out_6 ?_
    refine li_icmp_lt (tgt := 16) hx hb (by omega) (by omega) dX4_out_9 (by decide) (fun c2 => ?_) (fun c2 => ?_)
    · skip
      refine lv_iconst (v := iI 0) hx hb dX4_out_16 rfl ?_
      have hP9 := hP.sub (ws' := [(mm, .inr (4, [.int (iI fl), .ref ta, .int (iI tz), .ref ka, .int (iI nn), .ref da, .ref ya, .int (iI pt), .int (iI md), .int (iI sx)]))]) [0] rfl
      have hD9 := hD.sub (ws' := [(mm, .inr (4, [.int (iI fl), .ref ta, .int (iI tz), .ref ka, .int (iI nn), .ref da, .ref ya, .int (iI pt), .int (iI md), .int (iI sx)]))]) [0] (by decide) rfl
      have hK9 := hK.sub (tys' := []) [] rfl
      exact mv_zret hx hb hr (zb_n (by omega)) hlocks (fun tS ht hW => ⟨⟨_, (0), rfl, ⟨rfl, by omega, rfl, rfl⟩, by rw [ht]; exact hP9, va_K.moved hW.alike hK9, hD9⟩, hS.F ht⟩) hS.2.2 dX4_out_17
    · skip
      refine lv_iconst (v := iI 1) hx hb dX4_out_12 rfl ?_
      refine lv_goto (tgt := 17) hx hb dX4_out_13 (by decide) ?_
      have hP9 := hP.sub (ws' := [(mm, .inr (4, [.int (iI fl), .ref ta, .int (iI tz), .ref ka, .int (iI nn), .ref da, .ref ya, .int (iI pt), .int (iI md), .int (iI sx)]))]) [0] rfl
      have hD9 := hD.sub (ws' := [(mm, .inr (4, [.int (iI fl), .ref ta, .int (iI tz), .ref ka, .int (iI nn), .ref da, .ref ya, .int (iI pt), .int (iI md), .int (iI sx)]))]) [0] (by decide) rfl
      have hK9 := hK.sub (tys' := []) [] rfl
      exact mv_zret hx hb hr (zb_n (by omega)) hlocks (fun tS ht hW => ⟨⟨_, (1), rfl, ⟨rfl, by omega, rfl, rfl⟩, by rw [ht]; exact hP9, va_K.moved hW.alike hK9, hD9⟩, hS.F ht⟩) hS.2.2 dX4_out_17
set_option maxHeartbeats 4000000 in
set_option maxRecDepth 100000 in
theorem c_M_end (l : Launch) (dC : Nat → ClassId) (dI : Nat → Nat → Nat) (sz : Nat) (mm : Nat) (fl : Int) (ta : Nat) (tz : Int) (ka : Nat) (nn : Int) (da : Nat) (ya : Nat) (pt : Int) (md : Int) (sx : Int) (i : Int) (htz : 0 ≤ tz ∧ tz ≤ 4096) (hi : -2147483648 ≤ i ∧ i < 2147483648) : mv_Met l yX4_end wsX4_end ({ frames := 2, cells := 0, slots := 0, locals := 60 }) (va_Pc [.ref mm, .int (iI i)] (fun U => U.heap.size = sz ∧ va_P (dC, dI) vwCl [(mm, .inr (4, [.int (iI fl), .ref ta, .int (iI tz), .ref ka, .int (iI nn), .ref da, .ref ya, .int (iI pt), .int (iI md), .int (iI sx)]))] U.heap ∧ va_K (dC, dI) vwCl [] U ∧ va_D (fun _ => True) [(mm, .inr (4, [.int (iI fl), .ref ta, .int (iI tz), .ref ka, .int (iI nn), .ref da, .ref ya, .int (iI pt), .int (iI md), .int (iI sx)]))])) (mv_Q (fun (v : Option Value) (u : Int × Int × Int) (k n : Nat) => match u with | (fl', tz', q') => v = some (.int (iI q')) ∧ ((fl' = 0 ∧ (0 ≤ i ∧ i ≤ tz ∧ tz' = i ∧ q' = i)) ∨ (fl' = 1 ∧ ((i < 0 ∨ tz < i) ∧ tz' = tz))) ∧ k = 0 ∧ n = 0) (fun (u : Int × Int × Int) (tS : State) => match u with | (fl', tz', q') => va_P (dC, dI) vwCl [(mm, .inr (4, [.int (iI fl'), .ref ta, .int (iI tz'), .ref ka, .int (iI nn), .ref da, .ref ya, .int (iI pt), .int (iI md), .int (iI sx)]))] tS.heap ∧ va_K (dC, dI) vwCl [] tS ∧ va_D (va_A [(mm, .inr (4, [.int (iI fl), .ref ta, .int (iI tz), .ref ka, .int (iI nn), .ref da, .ref ya, .int (iI pt), .int (iI md), .int (iI sx)]))] sz) [(mm, .inr (4, [.int (iI fl'), .ref ta, .int (iI tz'), .ref ka, .int (iI nn), .ref da, .ref ya, .int (iI pt), .int (iI md), .int (iI sx)]))]) (va_A [(mm, .inr (4, [.int (iI fl), .ref ta, .int (iI tz), .ref ka, .int (iI nn), .ref da, .ref ya, .int (iI pt), .int (iI md), .int (iI sx)]))] sz)) (va_A [(mm, .inr (4, [.int (iI fl), .ref ta, .int (iI tz), .ref ka, .int (iI nn), .ref da, .ref ya, .int (iI pt), .int (iI md), .int (iI sx)]))] sz) := by
  refine mv_ofW (cc := cX4_end) (maxL := 2) (ret := (some .int)) (by decide) rfl ?_
  intro p e s m args below meth c s₁ B hml hv
  obtain ⟨rfl, hsz, hP, hK, hD0⟩ := hv
  have hx := B.exec
  have hb := B.bytes
  have hr := B.returns
  have hT : ∀ w ∈ wT, w.before _ s = true := fun w h => atoms_spec (ws := wsX4_end) B.pre w (List.mem_cons_of_mem _ h)
  have hown : s.vm.findClass RX4 = some m.cls := findClass_of_methodNamed B.named
  have hlocks := B.notSynchronized
  subst hsz
  have hD := hD0.self (sz := s.heap.size)
  generalize hAe : va_A [(mm, .inr (4, [.int (iI fl), .ref ta, .int (iI tz), .ref ka, .int (iI nn), .ref da, .ref ya, .int (iI pt), .int (iI md), .int (iI sx)]))] s.heap.size = A at hD ⊢
  have hA : ∀ q : Nat, s.heap.size ≤ q → A q := fun q h => by rw [← hAe]; exact Or.inr h
  have hS : va_S A s.heap s.heap [] := va_S.rf
  have hP : va_P (dC, dI) vwCl [(mm, .inr (4, [.int (iI fl), .ref ta, .int (iI tz), .ref ka, .int (iI nn), .ref da, .ref ya, .int (iI pt), .int (iI md), .int (iI sx)]))] s.heap := hP
  have hl := lv_entry ([.ref mm, .int (iI i)]) (n := 2) (Nat.le_of_ble_eq_true rfl)
  rw [lg_entry_eq]
  generalize (lg_sl ([.ref mm, .int (iI i)]) ++ List.replicate (2 - (lg_sl ([.ref mm, .int (iI i)])).length) Slot.unset).toArray = ls at hl ⊢
  have hl : lv_has ls 2 [(0, .ref mm), (1, .int (iI i))] := hl
  refine lv_aload_n hx hb dX4_end_0 rfl (lv_at hl 0 rfl) ?_
  refine lv_iconst (v := iI 0) hx hb dX4_end_1 rfl ?_
  refine va_put (D := (dC, dI)) (ci := 4) (v := .int (iI 0)) (ty := .int) (C := RX4) (T := TX4) (N := 10) hx hb hT inX4 tyX4 tyX4_ok nX4 hown hK hP hD hS 0 rfl rfl 0 (by decide) (hT _ wd517) (fun _ h9 => h9) rfl (by decide +kernel) rfl rfl (Nat.le_of_ble_eq_true rfl) dX4_end_2 (fun H locs hP hD hS => ?_)
  have hP : va_P (dC, dI) vwCl [(mm, .inr (4, [.int (iI 0), .ref ta, .int (iI tz), .ref ka, .int (iI nn), .ref da, .ref ya, .int (iI pt), .int (iI md), .int (iI sx)]))] H := hP
  have hD : va_D A [(mm, .inr (4, [.int (iI 0), .ref ta, .int (iI tz), .ref ka, .int (iI nn), .ref da, .ref ya, .int (iI pt), .int (iI md), .int (iI sx)]))] := hD
  refine lv_iload_n hx hb dX4_end_5 rfl (lv_at hl 1 rfl) ?_
  refine li_if_lt (tgt := 17) hx hb (by omega) dX4_end_6 (by decide) (fun c1 => ?_) (fun c1 => ?_)
  · skip
    refine lv_aload_n hx hb dX4_end_17 rfl (lv_at hl 0 rfl) ?_
    refine lv_iconst (v := iI 1) hx hb dX4_end_18 rfl ?_
    have hPc := hP.sub (ws' := [(mm, .inr (4, [.int (iI 0), .ref ta, .int (iI tz), .ref ka, .int (iI nn), .ref da, .ref ya, .int (iI pt), .int (iI md), .int (iI sx)]))]) [0] rfl
    have hDc := hD.sub (ws' := [(mm, .inr (4, [.int (iI 0), .ref ta, .int (iI tz), .ref ka, .int (iI nn), .ref da, .ref ya, .int (iI pt), .int (iI md), .int (iI sx)]))]) [0] (by decide) rfl
    have hKc := hK.sub (tys' := []) [] rfl
    have hFc := va_free (wc := [(mm, .inr (4, [.int (iI 0), .ref ta, .int (iI tz), .ref ka, .int (iI nn), .ref da, .ref ya, .int (iI pt), .int (iI md), .int (iI sx)]))]) hD hS hA [0] rfl
    refine mv_call (mv_runV (As := [.int (iI 1)]) (rest := []) ⟨hx, hb, hml, hown, hT⟩ (c_M_fail l dC dI H.size mm 0 ta tz ka nn da ya pt md sx 1 ) (cwV 1 hT (gV wd556 wd558 wd16 wd30 wd559) rfl rfl rfl (by decide +kernel) ⟨show 0 + 1 ≤ 2 from by omega, show 8 + (2 + 11) + 0 ≤ 60 from by omega⟩) ⟨fun a U g mk q => by obtain ⟨q0, q1, qP, qK, qD⟩ := q; exact ⟨q0, q1, qP, va_K.moved (u := U) (U := U.calling g mk a) (Vm.Alike.refl U.vm) qK, qD⟩, va_recv hKc hPc (ci := 4) (q0 := 0) rfl rfl, fun U hU hW => ⟨rfl, by rw [hU], by rw [hU]; exact hPc, va_K.moved hW.alike hKc, hDc.weaken (fun _ _ _ _ => trivial)⟩⟩ rfl rfl hl.1 rfl (lv_room (Nat.le_of_ble_eq_true rfl)) dX4_end_19 ⟨show 0 + 0 ≤ 0 from by omega, show 0 + 0 ≤ 0 from by omega⟩) hS (fun q _ h => hFc q h) hFc (fun v4 u k2 n3 tS H1 locs ht hvm hw hB hz1 hk1 hS => ?_)
    obtain ⟨hP1, hK1, hD1⟩ := hB
    rw [ht] at hP1
    have hK1 := va_K.moved hvm.symm hK1
    try dsimp only at hw
    obtain ⟨hP, hD⟩ := va_join (wr := []) (w1 := [(mm, .inr (4, [.int (iI 1), .ref ta, .int (iI tz), .ref ka, .int (iI nn), .ref da, .ref ya, .int (iI pt), .int (iI md), .int (iI sx)]))]) hP hD [0] [] rfl rfl (by decide) (by decide) hk1 hFc hP1 hD1
    have hK := (hK.sub (tys' := []) [] rfl).app hK1
    generalize H1 = H at hP hS ⊢
    have hP : va_P (dC, dI) vwCl [(mm, .inr (4, [.int (iI 1), .ref ta, .int (iI tz), .ref ka, .int (iI nn), .ref da, .ref ya, .int (iI pt), .int (iI md), .int (iI sx)]))] H := hP
    have hD : va_D A [(mm, .inr (4, [.int (iI 1), .ref ta, .int (iI tz), .ref ka, .int (iI nn), .ref da, .ref ya, .int (iI pt), .int (iI md), .int (iI sx)]))] := hD
    have hK : va_K (dC, dI) vwCl [] s := hK
    obtain ⟨rfl, rfl, rfl⟩ := hw
    refine W.eq (g2 := F0 m 22 ls [.int (iI 0)]) rfl ?_
    have hP9 := hP.sub (ws' := [(mm, .inr (4, [.int (iI 1), .ref ta, .int (iI tz), .ref ka, .int (iI nn), .ref da, .ref ya, .int (iI pt), .int (iI md), .int (iI sx)]))]) [0] rfl
    have hD9 := hD.sub (ws' := [(mm, .inr (4, [.int (iI 1), .ref ta, .int (iI tz), .ref ka, .int (iI nn), .ref da, .ref ya, .int (iI pt), .int (iI md), .int (iI sx)]))]) [0] (by decide) rfl
    have hK9 := hK.sub (tys' := []) [] rfl
    exact mv_iret hx hb hr hlocks (fun tS ht hW => ⟨⟨_, (1, tz, 0), rfl, ⟨rfl, Or.inr (⟨rfl, ⟨by omega, rfl⟩⟩), by omega, by omega⟩, by rw [ht]; exact hP9, va_K.moved hW.alike hK9, hD9⟩, hS.F ht⟩) hS.2.2 dX4_end_22
  · skip
    refine lv_iload_n hx hb dX4_end_9 rfl (lv_at hl 1 rfl) ?_
    refine lv_aload_n hx hb dX4_end_10 rfl (lv_at hl 0 rfl) ?_
    refine va_get (D := (dC, dI)) (ci := 4) (v := .int (iI tz)) (C := RX4) (T := TX4) (N := 10) hx hb hT inX4 hown hK hP 0 rfl rfl 2 (by decide) (hT _ wd519) (fun _ h9 => h9) rfl dX4_end_11 ?_
    refine li_icmp_le (tgt := 23) hx hb (by omega) (by omega) dX4_end_14 (by decide) (fun c5 => ?_) (fun c5 => ?_)
    · skip
      refine lv_aload_n hx hb dX4_end_23 rfl (lv_at hl 0 rfl) ?_
      refine lv_iload_n hx hb dX4_end_24 rfl (lv_at hl 1 rfl) ?_
      refine va_put (D := (dC, dI)) (ci := 4) (v := .int (iI i)) (ty := .int) (C := RX4) (T := TX4) (N := 10) hx hb hT inX4 tyX4 tyX4_ok nX4 hown hK hP hD hS 0 rfl rfl 2 (by decide) (hT _ wd519) (fun _ h9 => h9) rfl (by decide +kernel) rfl rfl (Nat.le_of_ble_eq_true rfl) dX4_end_25 (fun H locs hP hD hS => ?_)
      have hP : va_P (dC, dI) vwCl [(mm, .inr (4, [.int (iI 0), .ref ta, .int (iI i), .ref ka, .int (iI nn), .ref da, .ref ya, .int (iI pt), .int (iI md), .int (iI sx)]))] H := hP
      have hD : va_D A [(mm, .inr (4, [.int (iI 0), .ref ta, .int (iI i), .ref ka, .int (iI nn), .ref da, .ref ya, .int (iI pt), .int (iI md), .int (iI sx)]))] := hD
      refine lv_iload_n hx hb dX4_end_28 rfl (lv_at hl 1 rfl) ?_
      have hP9 := hP.sub (ws' := [(mm, .inr (4, [.int (iI 0), .ref ta, .int (iI i), .ref ka, .int (iI nn), .ref da, .ref ya, .int (iI pt), .int (iI md), .int (iI sx)]))]) [0] rfl
      have hD9 := hD.sub (ws' := [(mm, .inr (4, [.int (iI 0), .ref ta, .int (iI i), .ref ka, .int (iI nn), .ref da, .ref ya, .int (iI pt), .int (iI md), .int (iI sx)]))]) [0] (by decide) rfl
      have hK9 := hK.sub (tys' := []) [] rfl
      exact mv_iret hx hb hr hlocks (fun tS ht hW => ⟨⟨_, (0, i, i), rfl, ⟨rfl, Or.inl ⟨rfl, ⟨by omega, by omega, rfl, rfl⟩⟩, by omega, by omega⟩, by rw [ht]; exact hP9, va_K.moved hW.alike hK9, hD9⟩, hS.F ht⟩) hS.2.2 dX4_end_29
    · skip
      refine lv_aload_n hx hb dX4_end_17 rfl (lv_at hl 0 rfl) ?_
      refine lv_iconst (v := iI 1) hx hb dX4_end_18 rfl ?_
      have hPc := hP.sub (ws' := [(mm, .inr (4, [.int (iI 0), .ref ta, .int (iI tz), .ref ka, .int (iI nn), .ref da, .ref ya, .int (iI pt), .int (iI md), .int (iI sx)]))]) [0] rfl
      have hDc := hD.sub (ws' := [(mm, .inr (4, [.int (iI 0), .ref ta, .int (iI tz), .ref ka, .int (iI nn), .ref da, .ref ya, .int (iI pt), .int (iI md), .int (iI sx)]))]) [0] (by decide) rfl
      have hKc := hK.sub (tys' := []) [] rfl
      have hFc := va_free (wc := [(mm, .inr (4, [.int (iI 0), .ref ta, .int (iI tz), .ref ka, .int (iI nn), .ref da, .ref ya, .int (iI pt), .int (iI md), .int (iI sx)]))]) hD hS hA [0] rfl
      refine mv_call (mv_runV (As := [.int (iI 1)]) (rest := []) ⟨hx, hb, hml, hown, hT⟩ (c_M_fail l dC dI H.size mm 0 ta tz ka nn da ya pt md sx 1 ) (cwV 1 hT (gV wd556 wd558 wd16 wd30 wd559) rfl rfl rfl (by decide +kernel) ⟨show 0 + 1 ≤ 2 from by omega, show 8 + (2 + 11) + 0 ≤ 60 from by omega⟩) ⟨fun a U g mk q => by obtain ⟨q0, q1, qP, qK, qD⟩ := q; exact ⟨q0, q1, qP, va_K.moved (u := U) (U := U.calling g mk a) (Vm.Alike.refl U.vm) qK, qD⟩, va_recv hKc hPc (ci := 4) (q0 := 0) rfl rfl, fun U hU hW => ⟨rfl, by rw [hU], by rw [hU]; exact hPc, va_K.moved hW.alike hKc, hDc.weaken (fun _ _ _ _ => trivial)⟩⟩ rfl rfl hl.1 rfl (lv_room (Nat.le_of_ble_eq_true rfl)) dX4_end_19 ⟨show 0 + 0 ≤ 0 from by omega, show 0 + 0 ≤ 0 from by omega⟩) hS (fun q _ h => hFc q h) hFc (fun v8 u k6 n7 tS H1 locs ht hvm hw hB hz1 hk1 hS => ?_)
      obtain ⟨hP1, hK1, hD1⟩ := hB
      rw [ht] at hP1
      have hK1 := va_K.moved hvm.symm hK1
      try dsimp only at hw
      obtain ⟨hP, hD⟩ := va_join (wr := []) (w1 := [(mm, .inr (4, [.int (iI 1), .ref ta, .int (iI tz), .ref ka, .int (iI nn), .ref da, .ref ya, .int (iI pt), .int (iI md), .int (iI sx)]))]) hP hD [0] [] rfl rfl (by decide) (by decide) hk1 hFc hP1 hD1
      have hK := (hK.sub (tys' := []) [] rfl).app hK1
      generalize H1 = H at hP hS ⊢
      have hP : va_P (dC, dI) vwCl [(mm, .inr (4, [.int (iI 1), .ref ta, .int (iI tz), .ref ka, .int (iI nn), .ref da, .ref ya, .int (iI pt), .int (iI md), .int (iI sx)]))] H := hP
      have hD : va_D A [(mm, .inr (4, [.int (iI 1), .ref ta, .int (iI tz), .ref ka, .int (iI nn), .ref da, .ref ya, .int (iI pt), .int (iI md), .int (iI sx)]))] := hD
      have hK : va_K (dC, dI) vwCl [] s := hK
      obtain ⟨rfl, rfl, rfl⟩ := hw
      refine W.eq (g2 := F0 m 22 ls [.int (iI 0)]) rfl ?_
      have hP9 := hP.sub (ws' := [(mm, .inr (4, [.int (iI 1), .ref ta, .int (iI tz), .ref ka, .int (iI nn), .ref da, .ref ya, .int (iI pt), .int (iI md), .int (iI sx)]))]) [0] rfl
      have hD9 := hD.sub (ws' := [(mm, .inr (4, [.int (iI 1), .ref ta, .int (iI tz), .ref ka, .int (iI nn), .ref da, .ref ya, .int (iI pt), .int (iI md), .int (iI sx)]))]) [0] (by decide) rfl
      have hK9 := hK.sub (tys' := []) [] rfl
      exact mv_iret hx hb hr hlocks (fun tS ht hW => ⟨⟨_, (1, tz, 0), rfl, ⟨rfl, Or.inr (⟨rfl, ⟨by omega, rfl⟩⟩), by omega, by omega⟩, by rw [ht]; exact hP9, va_K.moved hW.alike hK9, hD9⟩, hS.F ht⟩) hS.2.2 dX4_end_22
set_option maxHeartbeats 4000000 in
set_option maxRecDepth 100000 in
theorem c_M_count (l : Launch) (dC : Nat → ClassId) (dI : Nat → Nat → Nat) (sz : Nat) (mm : Nat) (fl : Int) (ta : Nat) (tz : Int) (ka : Nat) (nn : Int) (da : Nat) (ya : Nat) (pt : Int) (md : Int) (sx : Int) (i : Int) (htz : 0 ≤ tz ∧ tz ≤ 4096) (hnn : 0 ≤ nn ∧ nn ≤ 2048) (hi : -2147483648 ≤ i ∧ i < 2147483648) : mv_Met l yX4_count wsX4_count ({ frames := 2, cells := 0, slots := 0, locals := 60 }) (va_Pc [.ref mm, .int (iI i)] (fun U => U.heap.size = sz ∧ va_P (dC, dI) vwCl [(mm, .inr (4, [.int (iI fl), .ref ta, .int (iI tz), .ref ka, .int (iI nn), .ref da, .ref ya, .int (iI pt), .int (iI md), .int (iI sx)]))] U.heap ∧ va_K (dC, dI) vwCl [] U ∧ va_D (fun _ => True) [(mm, .inr (4, [.int (iI fl), .ref ta, .int (iI tz), .ref ka, .int (iI nn), .ref da, .ref ya, .int (iI pt), .int (iI md), .int (iI sx)]))])) (mv_Q (fun (v : Option Value) (u : Int × Int) (k n : Nat) => match u with | (fl', q') => v = some (.int (iI q')) ∧ ((fl' = 0 ∧ ((i = 0 ∨ i = 1) ∧ q' = if i = 0 then tz else nn)) ∨ (fl' = 1 ∧ (¬ i = 0 ∧ ¬ i = 1))) ∧ k = 0 ∧ n = 0) (fun (u : Int × Int) (tS : State) => match u with | (fl', q') => va_P (dC, dI) vwCl [(mm, .inr (4, [.int (iI fl'), .ref ta, .int (iI tz), .ref ka, .int (iI nn), .ref da, .ref ya, .int (iI pt), .int (iI md), .int (iI sx)]))] tS.heap ∧ va_K (dC, dI) vwCl [] tS ∧ va_D (va_A [(mm, .inr (4, [.int (iI fl), .ref ta, .int (iI tz), .ref ka, .int (iI nn), .ref da, .ref ya, .int (iI pt), .int (iI md), .int (iI sx)]))] sz) [(mm, .inr (4, [.int (iI fl'), .ref ta, .int (iI tz), .ref ka, .int (iI nn), .ref da, .ref ya, .int (iI pt), .int (iI md), .int (iI sx)]))]) (va_A [(mm, .inr (4, [.int (iI fl), .ref ta, .int (iI tz), .ref ka, .int (iI nn), .ref da, .ref ya, .int (iI pt), .int (iI md), .int (iI sx)]))] sz)) (va_A [(mm, .inr (4, [.int (iI fl), .ref ta, .int (iI tz), .ref ka, .int (iI nn), .ref da, .ref ya, .int (iI pt), .int (iI md), .int (iI sx)]))] sz) := by
  refine mv_ofW (cc := cX4_count) (maxL := 2) (ret := (some .int)) (by decide) rfl ?_
  intro p e s m args below meth c s₁ B hml hv
  obtain ⟨rfl, hsz, hP, hK, hD0⟩ := hv
  have hx := B.exec
  have hb := B.bytes
  have hr := B.returns
  have hT : ∀ w ∈ wT, w.before _ s = true := fun w h => atoms_spec (ws := wsX4_count) B.pre w (List.mem_cons_of_mem _ h)
  have hown : s.vm.findClass RX4 = some m.cls := findClass_of_methodNamed B.named
  have hlocks := B.notSynchronized
  subst hsz
  have hD := hD0.self (sz := s.heap.size)
  generalize hAe : va_A [(mm, .inr (4, [.int (iI fl), .ref ta, .int (iI tz), .ref ka, .int (iI nn), .ref da, .ref ya, .int (iI pt), .int (iI md), .int (iI sx)]))] s.heap.size = A at hD ⊢
  have hA : ∀ q : Nat, s.heap.size ≤ q → A q := fun q h => by rw [← hAe]; exact Or.inr h
  have hS : va_S A s.heap s.heap [] := va_S.rf
  have hP : va_P (dC, dI) vwCl [(mm, .inr (4, [.int (iI fl), .ref ta, .int (iI tz), .ref ka, .int (iI nn), .ref da, .ref ya, .int (iI pt), .int (iI md), .int (iI sx)]))] s.heap := hP
  have hl := lv_entry ([.ref mm, .int (iI i)]) (n := 2) (Nat.le_of_ble_eq_true rfl)
  rw [lg_entry_eq]
  generalize (lg_sl ([.ref mm, .int (iI i)]) ++ List.replicate (2 - (lg_sl ([.ref mm, .int (iI i)])).length) Slot.unset).toArray = ls at hl ⊢
  have hl : lv_has ls 2 [(0, .ref mm), (1, .int (iI i))] := hl
  refine lv_aload_n hx hb dX4_count_0 rfl (lv_at hl 0 rfl) ?_
  refine lv_iconst (v := iI 0) hx hb dX4_count_1 rfl ?_
  refine va_put (D := (dC, dI)) (ci := 4) (v := .int (iI 0)) (ty := .int) (C := RX4) (T := TX4) (N := 10) hx hb hT inX4 tyX4 tyX4_ok nX4 hown hK hP hD hS 0 rfl rfl 0 (by decide) (hT _ wd517) (fun _ h9 => h9) rfl (by decide +kernel) rfl rfl (Nat.le_of_ble_eq_true rfl) dX4_count_2 (fun H locs hP hD hS => ?_)
  have hP : va_P (dC, dI) vwCl [(mm, .inr (4, [.int (iI 0), .ref ta, .int (iI tz), .ref ka, .int (iI nn), .ref da, .ref ya, .int (iI pt), .int (iI md), .int (iI sx)]))] H := hP
  have hD : va_D A [(mm, .inr (4, [.int (iI 0), .ref ta, .int (iI tz), .ref ka, .int (iI nn), .ref da, .ref ya, .int (iI pt), .int (iI md), .int (iI sx)]))] := hD
  refine lv_iload_n hx hb dX4_count_5 rfl (lv_at hl 1 rfl) ?_
  refine li_if_ne (tgt := 16) hx hb (by omega) dX4_count_6 (by decide) (fun c1 => ?_) (fun c1 => ?_)
  · skip
    refine lv_iload_n hx hb dX4_count_16 rfl (lv_at hl 1 rfl) ?_
    refine lv_iconst (v := iI 1) hx hb dX4_count_17 rfl ?_
    refine li_icmp_ne (tgt := 28) hx hb (by omega) (by omega) dX4_count_18 (by decide) (fun c2 => ?_) (fun c2 => ?_)
    · skip
      refine lv_aload_n hx hb dX4_count_28 rfl (lv_at hl 0 rfl) ?_
      refine lv_iconst (v := iI 1) hx hb dX4_count_29 rfl ?_
      have hPc := hP.sub (ws' := [(mm, .inr (4, [.int (iI 0), .ref ta, .int (iI tz), .ref ka, .int (iI nn), .ref da, .ref ya, .int (iI pt), .int (iI md), .int (iI sx)]))]) [0] rfl
      have hDc := hD.sub (ws' := [(mm, .inr (4, [.int (iI 0), .ref ta, .int (iI tz), .ref ka, .int (iI nn), .ref da, .ref ya, .int (iI pt), .int (iI md), .int (iI sx)]))]) [0] (by decide) rfl
      have hKc := hK.sub (tys' := []) [] rfl
      have hFc := va_free (wc := [(mm, .inr (4, [.int (iI 0), .ref ta, .int (iI tz), .ref ka, .int (iI nn), .ref da, .ref ya, .int (iI pt), .int (iI md), .int (iI sx)]))]) hD hS hA [0] rfl
      refine mv_call (mv_runV (As := [.int (iI 1)]) (rest := []) ⟨hx, hb, hml, hown, hT⟩ (c_M_fail l dC dI H.size mm 0 ta tz ka nn da ya pt md sx 1 ) (cwV 1 hT (gV wd556 wd558 wd16 wd30 wd559) rfl rfl rfl (by decide +kernel) ⟨show 0 + 1 ≤ 2 from by omega, show 8 + (2 + 11) + 0 ≤ 60 from by omega⟩) ⟨fun a U g mk q => by obtain ⟨q0, q1, qP, qK, qD⟩ := q; exact ⟨q0, q1, qP, va_K.moved (u := U) (U := U.calling g mk a) (Vm.Alike.refl U.vm) qK, qD⟩, va_recv hKc hPc (ci := 4) (q0 := 0) rfl rfl, fun U hU hW => ⟨rfl, by rw [hU], by rw [hU]; exact hPc, va_K.moved hW.alike hKc, hDc.weaken (fun _ _ _ _ => trivial)⟩⟩ rfl rfl hl.1 rfl (lv_room (Nat.le_of_ble_eq_true rfl)) dX4_count_30 ⟨show 0 + 0 ≤ 0 from by omega, show 0 + 0 ≤ 0 from by omega⟩) hS (fun q _ h => hFc q h) hFc (fun v5 u k3 n4 tS H1 locs ht hvm hw hB hz1 hk1 hS => ?_)
      obtain ⟨hP1, hK1, hD1⟩ := hB
      rw [ht] at hP1
      have hK1 := va_K.moved hvm.symm hK1
      try dsimp only at hw
      obtain ⟨hP, hD⟩ := va_join (wr := []) (w1 := [(mm, .inr (4, [.int (iI 1), .ref ta, .int (iI tz), .ref ka, .int (iI nn), .ref da, .ref ya, .int (iI pt), .int (iI md), .int (iI sx)]))]) hP hD [0] [] rfl rfl (by decide) (by decide) hk1 hFc hP1 hD1
      have hK := (hK.sub (tys' := []) [] rfl).app hK1
      generalize H1 = H at hP hS ⊢
      have hP : va_P (dC, dI) vwCl [(mm, .inr (4, [.int (iI 1), .ref ta, .int (iI tz), .ref ka, .int (iI nn), .ref da, .ref ya, .int (iI pt), .int (iI md), .int (iI sx)]))] H := hP
      have hD : va_D A [(mm, .inr (4, [.int (iI 1), .ref ta, .int (iI tz), .ref ka, .int (iI nn), .ref da, .ref ya, .int (iI pt), .int (iI md), .int (iI sx)]))] := hD
      have hK : va_K (dC, dI) vwCl [] s := hK
      obtain ⟨rfl, rfl, rfl⟩ := hw
      refine W.eq (g2 := F0 m 33 ls [.int (iI 0)]) rfl ?_
      have hP9 := hP.sub (ws' := [(mm, .inr (4, [.int (iI 1), .ref ta, .int (iI tz), .ref ka, .int (iI nn), .ref da, .ref ya, .int (iI pt), .int (iI md), .int (iI sx)]))]) [0] rfl
      have hD9 := hD.sub (ws' := [(mm, .inr (4, [.int (iI 1), .ref ta, .int (iI tz), .ref ka, .int (iI nn), .ref da, .ref ya, .int (iI pt), .int (iI md), .int (iI sx)]))]) [0] (by decide) rfl
      have hK9 := hK.sub (tys' := []) [] rfl
      exact mv_iret hx hb hr hlocks (fun tS ht hW => ⟨⟨_, (1, 0), rfl, ⟨rfl, Or.inr (⟨rfl, ⟨by omega, by omega⟩⟩), by omega, by omega⟩, by rw [ht]; exact hP9, va_K.moved hW.alike hK9, hD9⟩, hS.F ht⟩) hS.2.2 dX4_count_33
    · skip
      refine lv_aload_n hx hb dX4_count_21 rfl (lv_at hl 0 rfl) ?_
      refine va_get (D := (dC, dI)) (ci := 4) (v := .int (iI nn)) (C := RX4) (T := TX4) (N := 10) hx hb hT inX4 hown hK hP 0 rfl rfl 4 (by decide) (hT _ wd521) (fun _ h9 => h9) rfl dX4_count_22 ?_
      refine lv_goto (tgt := 33) hx hb dX4_count_25 (by decide) ?_
      have hP9 := hP.sub (ws' := [(mm, .inr (4, [.int (iI 0), .ref ta, .int (iI tz), .ref ka, .int (iI nn), .ref da, .ref ya, .int (iI pt), .int (iI md), .int (iI sx)]))]) [0] rfl
      have hD9 := hD.sub (ws' := [(mm, .inr (4, [.int (iI 0), .ref ta, .int (iI tz), .ref ka, .int (iI nn), .ref da, .ref ya, .int (iI pt), .int (iI md), .int (iI sx)]))]) [0] (by decide) rfl
      have hK9 := hK.sub (tys' := []) [] rfl
      exact mv_iret hx hb hr hlocks (fun tS ht hW => ⟨⟨_, (0, nn), rfl, ⟨rfl, Or.inl ⟨rfl, ⟨by omega, (if_neg (by omega)).symm⟩⟩, by omega, by omega⟩, by rw [ht]; exact hP9, va_K.moved hW.alike hK9, hD9⟩, hS.F ht⟩) hS.2.2 dX4_count_33
  · skip
    refine lv_aload_n hx hb dX4_count_9 rfl (lv_at hl 0 rfl) ?_
    refine va_get (D := (dC, dI)) (ci := 4) (v := .int (iI tz)) (C := RX4) (T := TX4) (N := 10) hx hb hT inX4 hown hK hP 0 rfl rfl 2 (by decide) (hT _ wd519) (fun _ h9 => h9) rfl dX4_count_10 ?_
    refine lv_goto (tgt := 33) hx hb dX4_count_13 (by decide) ?_
    have hP9 := hP.sub (ws' := [(mm, .inr (4, [.int (iI 0), .ref ta, .int (iI tz), .ref ka, .int (iI nn), .ref da, .ref ya, .int (iI pt), .int (iI md), .int (iI sx)]))]) [0] rfl
    have hD9 := hD.sub (ws' := [(mm, .inr (4, [.int (iI 0), .ref ta, .int (iI tz), .ref ka, .int (iI nn), .ref da, .ref ya, .int (iI pt), .int (iI md), .int (iI sx)]))]) [0] (by decide) rfl
    have hK9 := hK.sub (tys' := []) [] rfl
    exact mv_iret hx hb hr hlocks (fun tS ht hW => ⟨⟨_, (0, tz), rfl, ⟨rfl, Or.inl ⟨rfl, ⟨by omega, (if_pos (by omega)).symm⟩⟩, by omega, by omega⟩, by rw [ht]; exact hP9, va_K.moved hW.alike hK9, hD9⟩, hS.F ht⟩) hS.2.2 dX4_count_33
set_option maxHeartbeats 4000000 in
set_option maxRecDepth 100000 in
theorem c_M_node (l : Launch) (dC : Nat → ClassId) (dI : Nat → Nat → Nat) (sz : Nat) (mm : Nat) (fl : Int) (ta : Nat) (tz : Int) (ka : Nat) (nn : Int) (da : Nat) (ya : Nat) (pt : Int) (md : Int) (sx : Int) (cD : ClassId) (Vt : Nat → Int) (V : Nat → Int) (a : Int) (f : Int) (hnn : 0 ≤ nn ∧ nn ≤ 2048) (hE : eqN Vt V nn) (ha : -2147483648 ≤ a ∧ a < 2147483648) (hf : -2147483648 ≤ f ∧ f < 2147483648) : mv_Met l yX4_node wsX4_node ({ frames := 2, cells := 0, slots := 0, locals := 60 }) (va_Pc [.ref mm, .int (iI a), .int (iI f)] (fun U => U.heap.size = sz ∧ va_P (dC, dI) vwCl [(mm, .inr (4, [.int (iI fl), .ref ta, .int (iI tz), .ref ka, .int (iI nn), .ref da, .ref ya, .int (iI pt), .int (iI md), .int (iI sx)])), (da, .inl (cD, 16400, .inl (fun j => iI (Vt j))))] U.heap ∧ va_K (dC, dI) vwCl [(cD, .int)] U ∧ va_D (fun _ => True) [(mm, .inr (4, [.int (iI fl), .ref ta, .int (iI tz), .ref ka, .int (iI nn), .ref da, .ref ya, .int (iI pt), .int (iI md), .int (iI sx)])), (da, .inl (cD, 16400, .inl (fun j => iI (Vt j))))])) (mv_Q (fun (v : Option Value) (u : Int × Int) (k n : Nat) => match u with | (fl', q') => v = some (.int (iI q')) ∧ ((fl' = 0 ∧ (0 ≤ a ∧ a < nn ∧ 0 ≤ f ∧ f < 8 ∧ q' = V (a * 8 + f).toNat)) ∨ (fl' = 1 ∧ (a < 0 ∨ nn ≤ a ∨ f < 0 ∨ 8 ≤ f))) ∧ k = 0 ∧ n = 0) (fun (u : Int × Int) (tS : State) => match u with | (fl', q') => va_P (dC, dI) vwCl [(mm, .inr (4, [.int (iI fl'), .ref ta, .int (iI tz), .ref ka, .int (iI nn), .ref da, .ref ya, .int (iI pt), .int (iI md), .int (iI sx)])), (da, .inl (cD, 16400, .inl (fun j => iI (Vt j))))] tS.heap ∧ va_K (dC, dI) vwCl [(cD, .int)] tS ∧ va_D (va_A [(mm, .inr (4, [.int (iI fl), .ref ta, .int (iI tz), .ref ka, .int (iI nn), .ref da, .ref ya, .int (iI pt), .int (iI md), .int (iI sx)])), (da, .inl (cD, 16400, .inl (fun j => iI (Vt j))))] sz) [(mm, .inr (4, [.int (iI fl'), .ref ta, .int (iI tz), .ref ka, .int (iI nn), .ref da, .ref ya, .int (iI pt), .int (iI md), .int (iI sx)])), (da, .inl (cD, 16400, .inl (fun j => iI (Vt j))))]) (va_A [(mm, .inr (4, [.int (iI fl), .ref ta, .int (iI tz), .ref ka, .int (iI nn), .ref da, .ref ya, .int (iI pt), .int (iI md), .int (iI sx)])), (da, .inl (cD, 16400, .inl (fun j => iI (Vt j))))] sz)) (va_A [(mm, .inr (4, [.int (iI fl), .ref ta, .int (iI tz), .ref ka, .int (iI nn), .ref da, .ref ya, .int (iI pt), .int (iI md), .int (iI sx)])), (da, .inl (cD, 16400, .inl (fun j => iI (Vt j))))] sz) := by
  refine mv_ofW (cc := cX4_node) (maxL := 3) (ret := (some .int)) (by decide) rfl ?_
  intro p e s m args below meth c s₁ B hml hv
  obtain ⟨rfl, hsz, hP, hK, hD0⟩ := hv
  have hx := B.exec
  have hb := B.bytes
  have hr := B.returns
  have hT : ∀ w ∈ wT, w.before _ s = true := fun w h => atoms_spec (ws := wsX4_node) B.pre w (List.mem_cons_of_mem _ h)
  have hown : s.vm.findClass RX4 = some m.cls := findClass_of_methodNamed B.named
  have hlocks := B.notSynchronized
  subst hsz
  have hD := hD0.self (sz := s.heap.size)
  generalize hAe : va_A [(mm, .inr (4, [.int (iI fl), .ref ta, .int (iI tz), .ref ka, .int (iI nn), .ref da, .ref ya, .int (iI pt), .int (iI md), .int (iI sx)])), (da, .inl (cD, 16400, .inl (fun j => iI (Vt j))))] s.heap.size = A at hD ⊢
  have hA : ∀ q : Nat, s.heap.size ≤ q → A q := fun q h => by rw [← hAe]; exact Or.inr h
  have hS : va_S A s.heap s.heap [] := va_S.rf
  have hP : va_P (dC, dI) vwCl [(mm, .inr (4, [.int (iI fl), .ref ta, .int (iI tz), .ref ka, .int (iI nn), .ref da, .ref ya, .int (iI pt), .int (iI md), .int (iI sx)])), (da, .inl (cD, 16400, .inl (fun j => iI (Vt j))))] s.heap := hP
  have hl := lv_entry ([.ref mm, .int (iI a), .int (iI f)]) (n := 3) (Nat.le_of_ble_eq_true rfl)
  rw [lg_entry_eq]
  generalize (lg_sl ([.ref mm, .int (iI a), .int (iI f)]) ++ List.replicate (3 - (lg_sl ([.ref mm, .int (iI a), .int (iI f)])).length) Slot.unset).toArray = ls at hl ⊢
  have hl : lv_has ls 3 [(0, .ref mm), (1, .int (iI a)), (2, .int (iI f))] := hl
  refine lv_aload_n hx hb dX4_node_0 rfl (lv_at hl 0 rfl) ?_
  refine lv_iconst (v := iI 0) hx hb dX4_node_1 rfl ?_
  refine va_put (D := (dC, dI)) (ci := 4) (v := .int (iI 0)) (ty := .int) (C := RX4) (T := TX4) (N := 10) hx hb hT inX4 tyX4 tyX4_ok nX4 hown hK hP hD hS 0 rfl rfl 0 (by decide) (hT _ wd517) (fun _ h9 => h9) rfl (by decide +kernel) rfl rfl (Nat.le_of_ble_eq_true rfl) dX4_node_2 (fun H locs hP hD hS => ?_)
  have hP : va_P (dC, dI) vwCl [(mm, .inr (4, [.int (iI 0), .ref ta, .int (iI tz), .ref ka, .int (iI nn), .ref da, .ref ya, .int (iI pt), .int (iI md), .int (iI sx)])), (da, .inl (cD, 16400, .inl (fun j => iI (Vt j))))] H := hP
  have hD : va_D A [(mm, .inr (4, [.int (iI 0), .ref ta, .int (iI tz), .ref ka, .int (iI nn), .ref da, .ref ya, .int (iI pt), .int (iI md), .int (iI sx)])), (da, .inl (cD, 16400, .inl (fun j => iI (Vt j))))] := hD
  refine lv_aload_n hx hb dX4_node_5 rfl (lv_at hl 0 rfl) ?_
  refine lv_iload_n hx hb dX4_node_6 rfl (lv_at hl 1 rfl) ?_
  have hPc := hP.sub (ws' := [(mm, .inr (4, [.int (iI 0), .ref ta, .int (iI tz), .ref ka, .int (iI nn), .ref da, .ref ya, .int (iI pt), .int (iI md), .int (iI sx)]))]) [0] rfl
  have hDc := hD.sub (ws' := [(mm, .inr (4, [.int (iI 0), .ref ta, .int (iI tz), .ref ka, .int (iI nn), .ref da, .ref ya, .int (iI pt), .int (iI md), .int (iI sx)]))]) [0] (by decide) rfl
  have hKc := hK.sub (tys' := []) [] rfl
  have hFc := va_free (wc := [(mm, .inr (4, [.int (iI 0), .ref ta, .int (iI tz), .ref ka, .int (iI nn), .ref da, .ref ya, .int (iI pt), .int (iI md), .int (iI sx)]))]) hD hS hA [0] rfl
  refine mv_call (mv_runV (As := [.int (iI a)]) (rest := []) ⟨hx, hb, hml, hown, hT⟩ (c_M_out l dC dI H.size mm 0 ta tz ka nn da ya pt md sx a (by omega) (by omega)) (cwV 1 hT (gV wd597 wd599 wd21 wd30 wd600) rfl rfl rfl (by decide +kernel) ⟨show 0 + 1 ≤ 2 from by omega, show 8 + (2 + 11) + 0 ≤ 60 from by omega⟩) ⟨fun a U g mk q => by obtain ⟨q0, q1, qP, qK, qD⟩ := q; exact ⟨q0, q1, qP, va_K.moved (u := U) (U := U.calling g mk a) (Vm.Alike.refl U.vm) qK, qD⟩, va_recv hKc hPc (ci := 4) (q0 := 0) rfl rfl, fun U hU hW => ⟨rfl, by rw [hU], by rw [hU]; exact hPc, va_K.moved hW.alike hKc, hDc.weaken (fun _ _ _ _ => trivial)⟩⟩ rfl rfl hl.1 rfl (lv_room (Nat.le_of_ble_eq_true rfl)) dX4_node_7 ⟨show 0 + 0 ≤ 0 from by omega, show 0 + 0 ≤ 0 from by omega⟩) hS (fun q _ h => hFc q h) hFc (fun v3 u k1 n2 tS H1 locs ht hvm hw hB hz1 hk1 hS => ?_)
  obtain ⟨q4, rfl⟩ : ∃ y, y = u := ⟨_, rfl⟩
  obtain ⟨hP1, hK1, hD1⟩ := hB
  rw [ht] at hP1
  have hK1 := va_K.moved hvm.symm hK1
  try dsimp only at hw
  obtain ⟨hP, hD⟩ := va_join (wr := [(da, .inl (cD, 16400, .inl (fun j => iI (Vt j))))]) (w1 := [(mm, .inr (4, [.int (iI 0), .ref ta, .int (iI tz), .ref ka, .int (iI nn), .ref da, .ref ya, .int (iI pt), .int (iI md), .int (iI sx)]))]) hP hD [0] [1] rfl rfl (by decide) (by decide) hk1 hFc hP1 hD1
  have hK := (hK.sub (tys' := [(cD, .int)]) [0] rfl).app hK1
  generalize H1 = H at hP hS ⊢
  have hP : va_P (dC, dI) vwCl [(da, .inl (cD, 16400, .inl (fun j => iI (Vt j)))), (mm, .inr (4, [.int (iI 0), .ref ta, .int (iI tz), .ref ka, .int (iI nn), .ref da, .ref ya, .int (iI pt), .int (iI md), .int (iI sx)]))] H := hP
  have hD : va_D A [(da, .inl (cD, 16400, .inl (fun j => iI (Vt j)))), (mm, .inr (4, [.int (iI 0), .ref ta, .int (iI tz), .ref ka, .int (iI nn), .ref da, .ref ya, .int (iI pt), .int (iI md), .int (iI sx)]))] := hD
  have hK : va_K (dC, dI) vwCl [(cD, .int)] s := hK
  obtain ⟨rfl, hqv3, rfl, rfl⟩ := hw
  refine W.eq (g2 := F0 m 10 ls [.int (iI q4)]) rfl ?_
  refine li_if_ne (tgt := 23) hx hb (by omega) dX4_node_10 (by decide) (fun c5 => ?_) (fun c5 => ?_)
  · skip
    refine lv_aload_n hx hb dX4_node_23 rfl (lv_at hl 0 rfl) ?_
    refine lv_iconst (v := iI 1) hx hb dX4_node_24 rfl ?_
    have hPc := hP.sub (ws' := [(mm, .inr (4, [.int (iI 0), .ref ta, .int (iI tz), .ref ka, .int (iI nn), .ref da, .ref ya, .int (iI pt), .int (iI md), .int (iI sx)]))]) [1] rfl
    have hDc := hD.sub (ws' := [(mm, .inr (4, [.int (iI 0), .ref ta, .int (iI tz), .ref ka, .int (iI nn), .ref da, .ref ya, .int (iI pt), .int (iI md), .int (iI sx)]))]) [1] (by decide) rfl
    have hKc := hK.sub (tys' := []) [] rfl
    have hFc := va_free (wc := [(mm, .inr (4, [.int (iI 0), .ref ta, .int (iI tz), .ref ka, .int (iI nn), .ref da, .ref ya, .int (iI pt), .int (iI md), .int (iI sx)]))]) hD hS hA [1] rfl
    refine mv_call (mv_runV (As := [.int (iI 1)]) (rest := []) ⟨hx, hb, hml, hown, hT⟩ (c_M_fail l dC dI H.size mm 0 ta tz ka nn da ya pt md sx 1 ) (cwV 1 hT (gV wd556 wd558 wd16 wd30 wd559) rfl rfl rfl (by decide +kernel) ⟨show 0 + 1 ≤ 2 from by omega, show 8 + (2 + 11) + 0 ≤ 60 from by omega⟩) ⟨fun a U g mk q => by obtain ⟨q0, q1, qP, qK, qD⟩ := q; exact ⟨q0, q1, qP, va_K.moved (u := U) (U := U.calling g mk a) (Vm.Alike.refl U.vm) qK, qD⟩, va_recv hKc hPc (ci := 4) (q0 := 0) rfl rfl, fun U hU hW => ⟨rfl, by rw [hU], by rw [hU]; exact hPc, va_K.moved hW.alike hKc, hDc.weaken (fun _ _ _ _ => trivial)⟩⟩ rfl rfl hl.1 rfl (lv_room (Nat.le_of_ble_eq_true rfl)) dX4_node_25 ⟨show 0 + 0 + 0 ≤ 0 from by omega, show 0 + 0 + 0 ≤ 0 from by omega⟩) hS (fun q _ h => hFc q h) hFc (fun v8 u k6 n7 tS H1 locs ht hvm hw hB hz1 hk1 hS => ?_)
    obtain ⟨hP1, hK1, hD1⟩ := hB
    rw [ht] at hP1
    have hK1 := va_K.moved hvm.symm hK1
    try dsimp only at hw
    obtain ⟨hP, hD⟩ := va_join (wr := [(da, .inl (cD, 16400, .inl (fun j => iI (Vt j))))]) (w1 := [(mm, .inr (4, [.int (iI 1), .ref ta, .int (iI tz), .ref ka, .int (iI nn), .ref da, .ref ya, .int (iI pt), .int (iI md), .int (iI sx)]))]) hP hD [1] [0] rfl rfl (by decide) (by decide) hk1 hFc hP1 hD1
    have hK := (hK.sub (tys' := [(cD, .int)]) [0] rfl).app hK1
    generalize H1 = H at hP hS ⊢
    have hP : va_P (dC, dI) vwCl [(da, .inl (cD, 16400, .inl (fun j => iI (Vt j)))), (mm, .inr (4, [.int (iI 1), .ref ta, .int (iI tz), .ref ka, .int (iI nn), .ref da, .ref ya, .int (iI pt), .int (iI md), .int (iI sx)]))] H := hP
    have hD : va_D A [(da, .inl (cD, 16400, .inl (fun j => iI (Vt j)))), (mm, .inr (4, [.int (iI 1), .ref ta, .int (iI tz), .ref ka, .int (iI nn), .ref da, .ref ya, .int (iI pt), .int (iI md), .int (iI sx)]))] := hD
    have hK : va_K (dC, dI) vwCl [(cD, .int)] s := hK
    obtain ⟨rfl, rfl, rfl⟩ := hw
    refine W.eq (g2 := F0 m 28 ls [.int (iI 0)]) rfl ?_
    refine lv_goto (tgt := 42) hx hb dX4_node_28 (by decide) ?_
    have hP9 := hP.sub (ws' := [(mm, .inr (4, [.int (iI 1), .ref ta, .int (iI tz), .ref ka, .int (iI nn), .ref da, .ref ya, .int (iI pt), .int (iI md), .int (iI sx)])), (da, .inl (cD, 16400, .inl (fun j => iI (Vt j))))]) [1, 0] rfl
    have hD9 := hD.sub (ws' := [(mm, .inr (4, [.int (iI 1), .ref ta, .int (iI tz), .ref ka, .int (iI nn), .ref da, .ref ya, .int (iI pt), .int (iI md), .int (iI sx)])), (da, .inl (cD, 16400, .inl (fun j => iI (Vt j))))]) [1, 0] (by decide) rfl
    have hK9 := hK.sub (tys' := [(cD, .int)]) [0] rfl
    exact mv_iret hx hb hr hlocks (fun tS ht hW => ⟨⟨_, (1, 0), rfl, ⟨rfl, Or.inr (⟨rfl, by omega⟩), by omega, by omega⟩, by rw [ht]; exact hP9, va_K.moved hW.alike hK9, hD9⟩, hS.F ht⟩) hS.2.2 dX4_node_42
  · skip
    refine lv_iload_n hx hb dX4_node_13 rfl (lv_at hl 2 rfl) ?_
    refine li_if_lt (tgt := 23) hx hb (by omega) dX4_node_14 (by decide) (fun c9 => ?_) (fun c9 => ?_)
    · skip
      refine lv_aload_n hx hb dX4_node_23 rfl (lv_at hl 0 rfl) ?_
      refine lv_iconst (v := iI 1) hx hb dX4_node_24 rfl ?_
      have hPc := hP.sub (ws' := [(mm, .inr (4, [.int (iI 0), .ref ta, .int (iI tz), .ref ka, .int (iI nn), .ref da, .ref ya, .int (iI pt), .int (iI md), .int (iI sx)]))]) [1] rfl
      have hDc := hD.sub (ws' := [(mm, .inr (4, [.int (iI 0), .ref ta, .int (iI tz), .ref ka, .int (iI nn), .ref da, .ref ya, .int (iI pt), .int (iI md), .int (iI sx)]))]) [1] (by decide) rfl
      have hKc := hK.sub (tys' := []) [] rfl
      have hFc := va_free (wc := [(mm, .inr (4, [.int (iI 0), .ref ta, .int (iI tz), .ref ka, .int (iI nn), .ref da, .ref ya, .int (iI pt), .int (iI md), .int (iI sx)]))]) hD hS hA [1] rfl
      refine mv_call (mv_runV (As := [.int (iI 1)]) (rest := []) ⟨hx, hb, hml, hown, hT⟩ (c_M_fail l dC dI H.size mm 0 ta tz ka nn da ya pt md sx 1 ) (cwV 1 hT (gV wd556 wd558 wd16 wd30 wd559) rfl rfl rfl (by decide +kernel) ⟨show 0 + 1 ≤ 2 from by omega, show 8 + (2 + 11) + 0 ≤ 60 from by omega⟩) ⟨fun a U g mk q => by obtain ⟨q0, q1, qP, qK, qD⟩ := q; exact ⟨q0, q1, qP, va_K.moved (u := U) (U := U.calling g mk a) (Vm.Alike.refl U.vm) qK, qD⟩, va_recv hKc hPc (ci := 4) (q0 := 0) rfl rfl, fun U hU hW => ⟨rfl, by rw [hU], by rw [hU]; exact hPc, va_K.moved hW.alike hKc, hDc.weaken (fun _ _ _ _ => trivial)⟩⟩ rfl rfl hl.1 rfl (lv_room (Nat.le_of_ble_eq_true rfl)) dX4_node_25 ⟨show 0 + 0 + 0 ≤ 0 from by omega, show 0 + 0 + 0 ≤ 0 from by omega⟩) hS (fun q _ h => hFc q h) hFc (fun v12 u k10 n11 tS H1 locs ht hvm hw hB hz1 hk1 hS => ?_)
      obtain ⟨hP1, hK1, hD1⟩ := hB
      rw [ht] at hP1
      have hK1 := va_K.moved hvm.symm hK1
      try dsimp only at hw
      obtain ⟨hP, hD⟩ := va_join (wr := [(da, .inl (cD, 16400, .inl (fun j => iI (Vt j))))]) (w1 := [(mm, .inr (4, [.int (iI 1), .ref ta, .int (iI tz), .ref ka, .int (iI nn), .ref da, .ref ya, .int (iI pt), .int (iI md), .int (iI sx)]))]) hP hD [1] [0] rfl rfl (by decide) (by decide) hk1 hFc hP1 hD1
      have hK := (hK.sub (tys' := [(cD, .int)]) [0] rfl).app hK1
      generalize H1 = H at hP hS ⊢
      have hP : va_P (dC, dI) vwCl [(da, .inl (cD, 16400, .inl (fun j => iI (Vt j)))), (mm, .inr (4, [.int (iI 1), .ref ta, .int (iI tz), .ref ka, .int (iI nn), .ref da, .ref ya, .int (iI pt), .int (iI md), .int (iI sx)]))] H := hP
      have hD : va_D A [(da, .inl (cD, 16400, .inl (fun j => iI (Vt j)))), (mm, .inr (4, [.int (iI 1), .ref ta, .int (iI tz), .ref ka, .int (iI nn), .ref da, .ref ya, .int (iI pt), .int (iI md), .int (iI sx)]))] := hD
      have hK : va_K (dC, dI) vwCl [(cD, .int)] s := hK
      obtain ⟨rfl, rfl, rfl⟩ := hw
      refine W.eq (g2 := F0 m 28 ls [.int (iI 0)]) rfl ?_
      refine lv_goto (tgt := 42) hx hb dX4_node_28 (by decide) ?_
      have hP9 := hP.sub (ws' := [(mm, .inr (4, [.int (iI 1), .ref ta, .int (iI tz), .ref ka, .int (iI nn), .ref da, .ref ya, .int (iI pt), .int (iI md), .int (iI sx)])), (da, .inl (cD, 16400, .inl (fun j => iI (Vt j))))]) [1, 0] rfl
      have hD9 := hD.sub (ws' := [(mm, .inr (4, [.int (iI 1), .ref ta, .int (iI tz), .ref ka, .int (iI nn), .ref da, .ref ya, .int (iI pt), .int (iI md), .int (iI sx)])), (da, .inl (cD, 16400, .inl (fun j => iI (Vt j))))]) [1, 0] (by decide) rfl
      have hK9 := hK.sub (tys' := [(cD, .int)]) [0] rfl
      exact mv_iret hx hb hr hlocks (fun tS ht hW => ⟨⟨_, (1, 0), rfl, ⟨rfl, Or.inr (⟨rfl, by omega⟩), by omega, by omega⟩, by rw [ht]; exact hP9, va_K.moved hW.alike hK9, hD9⟩, hS.F ht⟩) hS.2.2 dX4_node_42
    · skip
      refine lv_iload_n hx hb dX4_node_17 rfl (lv_at hl 2 rfl) ?_
      refine lv_bipush (v := iI 7) hx hb dX4_node_18 (by decide +kernel) ?_
      refine li_icmp_le (tgt := 31) hx hb (by omega) (by omega) dX4_node_20 (by decide) (fun c13 => ?_) (fun c13 => ?_)
      · skip
        refine lv_aload_n hx hb dX4_node_31 rfl (lv_at hl 0 rfl) ?_
        refine va_get (D := (dC, dI)) (ci := 4) (v := .ref da) (C := RX4) (T := TX4) (N := 10) hx hb hT inX4 hown hK hP 1 rfl rfl 5 (by decide) (hT _ wd522) (fun _ h9 => h9) rfl dX4_node_32 ?_
        refine lv_bipush (v := iI 8) hx hb dX4_node_35 (by decide +kernel) ?_
        refine lv_iload_n hx hb dX4_node_37 rfl (lv_at hl 1 rfl) ?_
        refine li_imul hx hb dX4_node_38 ?_
        refine lv_iload_n hx hb dX4_node_39 rfl (lv_at hl 2 rfl) ?_
        refine li_iadd hx hb dX4_node_40 ?_
        refine li_iald hx hb hK hP 0 0 rfl rfl (z := ((8 * a) + f)) (by omega) (by omega) dX4_node_41 ?_
        have hP9 := hP.sub (ws' := [(mm, .inr (4, [.int (iI 0), .ref ta, .int (iI tz), .ref ka, .int (iI nn), .ref da, .ref ya, .int (iI pt), .int (iI md), .int (iI sx)])), (da, .inl (cD, 16400, .inl (fun j => iI (Vt j))))]) [1, 0] rfl
        have hD9 := hD.sub (ws' := [(mm, .inr (4, [.int (iI 0), .ref ta, .int (iI tz), .ref ka, .int (iI nn), .ref da, .ref ya, .int (iI pt), .int (iI md), .int (iI sx)])), (da, .inl (cD, 16400, .inl (fun j => iI (Vt j))))]) [1, 0] (by decide) rfl
        have hK9 := hK.sub (tys' := [(cD, .int)]) [0] rfl
        exact mv_iret hx hb hr hlocks (fun tS ht hW => ⟨⟨_, (0, (Vt (((8 * a) + f) : Int).toNat)), rfl, ⟨rfl, Or.inl ⟨rfl, ⟨by omega, by omega, by omega, by omega, by rw [show 8 * a + f = a * 8 + f by omega]; exact hE _ (by omega)⟩⟩, by omega, by omega⟩, by rw [ht]; exact hP9, va_K.moved hW.alike hK9, hD9⟩, hS.F ht⟩) hS.2.2 dX4_node_42
      · skip
        refine lv_aload_n hx hb dX4_node_23 rfl (lv_at hl 0 rfl) ?_
        refine lv_iconst (v := iI 1) hx hb dX4_node_24 rfl ?_
        have hPc := hP.sub (ws' := [(mm, .inr (4, [.int (iI 0), .ref ta, .int (iI tz), .ref ka, .int (iI nn), .ref da, .ref ya, .int (iI pt), .int (iI md), .int (iI sx)]))]) [1] rfl
        have hDc := hD.sub (ws' := [(mm, .inr (4, [.int (iI 0), .ref ta, .int (iI tz), .ref ka, .int (iI nn), .ref da, .ref ya, .int (iI pt), .int (iI md), .int (iI sx)]))]) [1] (by decide) rfl
        have hKc := hK.sub (tys' := []) [] rfl
        have hFc := va_free (wc := [(mm, .inr (4, [.int (iI 0), .ref ta, .int (iI tz), .ref ka, .int (iI nn), .ref da, .ref ya, .int (iI pt), .int (iI md), .int (iI sx)]))]) hD hS hA [1] rfl
        refine mv_call (mv_runV (As := [.int (iI 1)]) (rest := []) ⟨hx, hb, hml, hown, hT⟩ (c_M_fail l dC dI H.size mm 0 ta tz ka nn da ya pt md sx 1 ) (cwV 1 hT (gV wd556 wd558 wd16 wd30 wd559) rfl rfl rfl (by decide +kernel) ⟨show 0 + 1 ≤ 2 from by omega, show 8 + (2 + 11) + 0 ≤ 60 from by omega⟩) ⟨fun a U g mk q => by obtain ⟨q0, q1, qP, qK, qD⟩ := q; exact ⟨q0, q1, qP, va_K.moved (u := U) (U := U.calling g mk a) (Vm.Alike.refl U.vm) qK, qD⟩, va_recv hKc hPc (ci := 4) (q0 := 0) rfl rfl, fun U hU hW => ⟨rfl, by rw [hU], by rw [hU]; exact hPc, va_K.moved hW.alike hKc, hDc.weaken (fun _ _ _ _ => trivial)⟩⟩ rfl rfl hl.1 rfl (lv_room (Nat.le_of_ble_eq_true rfl)) dX4_node_25 ⟨show 0 + 0 + 0 ≤ 0 from by omega, show 0 + 0 + 0 ≤ 0 from by omega⟩) hS (fun q _ h => hFc q h) hFc (fun v16 u k14 n15 tS H1 locs ht hvm hw hB hz1 hk1 hS => ?_)
        obtain ⟨hP1, hK1, hD1⟩ := hB
        rw [ht] at hP1
        have hK1 := va_K.moved hvm.symm hK1
        try dsimp only at hw
        obtain ⟨hP, hD⟩ := va_join (wr := [(da, .inl (cD, 16400, .inl (fun j => iI (Vt j))))]) (w1 := [(mm, .inr (4, [.int (iI 1), .ref ta, .int (iI tz), .ref ka, .int (iI nn), .ref da, .ref ya, .int (iI pt), .int (iI md), .int (iI sx)]))]) hP hD [1] [0] rfl rfl (by decide) (by decide) hk1 hFc hP1 hD1
        have hK := (hK.sub (tys' := [(cD, .int)]) [0] rfl).app hK1
        generalize H1 = H at hP hS ⊢
        have hP : va_P (dC, dI) vwCl [(da, .inl (cD, 16400, .inl (fun j => iI (Vt j)))), (mm, .inr (4, [.int (iI 1), .ref ta, .int (iI tz), .ref ka, .int (iI nn), .ref da, .ref ya, .int (iI pt), .int (iI md), .int (iI sx)]))] H := hP
        have hD : va_D A [(da, .inl (cD, 16400, .inl (fun j => iI (Vt j)))), (mm, .inr (4, [.int (iI 1), .ref ta, .int (iI tz), .ref ka, .int (iI nn), .ref da, .ref ya, .int (iI pt), .int (iI md), .int (iI sx)]))] := hD
        have hK : va_K (dC, dI) vwCl [(cD, .int)] s := hK
        obtain ⟨rfl, rfl, rfl⟩ := hw
        refine W.eq (g2 := F0 m 28 ls [.int (iI 0)]) rfl ?_
        refine lv_goto (tgt := 42) hx hb dX4_node_28 (by decide) ?_
        have hP9 := hP.sub (ws' := [(mm, .inr (4, [.int (iI 1), .ref ta, .int (iI tz), .ref ka, .int (iI nn), .ref da, .ref ya, .int (iI pt), .int (iI md), .int (iI sx)])), (da, .inl (cD, 16400, .inl (fun j => iI (Vt j))))]) [1, 0] rfl
        have hD9 := hD.sub (ws' := [(mm, .inr (4, [.int (iI 1), .ref ta, .int (iI tz), .ref ka, .int (iI nn), .ref da, .ref ya, .int (iI pt), .int (iI md), .int (iI sx)])), (da, .inl (cD, 16400, .inl (fun j => iI (Vt j))))]) [1, 0] (by decide) rfl
        have hK9 := hK.sub (tys' := [(cD, .int)]) [0] rfl
        exact mv_iret hx hb hr hlocks (fun tS ht hW => ⟨⟨_, (1, 0), rfl, ⟨rfl, Or.inr (⟨rfl, by omega⟩), by omega, by omega⟩, by rw [ht]; exact hP9, va_K.moved hW.alike hK9, hD9⟩, hS.F ht⟩) hS.2.2 dX4_node_42
set_option maxHeartbeats 4000000 in
set_option maxRecDepth 100000 in
theorem c_M_word (l : Launch) (dC : Nat → ClassId) (dI : Nat → Nat → Nat) (sz : Nat) (mm : Nat) (fl : Int) (ta : Nat) (tz : Int) (ka : Nat) (nn : Int) (da : Nat) (ya : Nat) (pt : Int) (md : Int) (sx : Int) (cT : ClassId) (t : Nat → Int) (L : List Int) (i : Int) (hok : okB 4096 t tz L) (hi : -2147483648 ≤ i ∧ i < 2147483648) : mv_Met l yX4_word wsX4_word ({ frames := 2, cells := 0, slots := 0, locals := 60 }) (va_Pc [.ref mm, .int (iI i)] (fun U => U.heap.size = sz ∧ va_P (dC, dI) vwCl [(mm, .inr (4, [.int (iI fl), .ref ta, .int (iI tz), .ref ka, .int (iI nn), .ref da, .ref ya, .int (iI pt), .int (iI md), .int (iI sx)])), (ta, .inl (cT, 4096, .inl (fun j => bI (t j))))] U.heap ∧ va_K (dC, dI) vwCl [(cT, .byte)] U ∧ va_D (fun _ => True) [(mm, .inr (4, [.int (iI fl), .ref ta, .int (iI tz), .ref ka, .int (iI nn), .ref da, .ref ya, .int (iI pt), .int (iI md), .int (iI sx)])), (ta, .inl (cT, 4096, .inl (fun j => bI (t j))))])) (mv_Q (fun (v : Option Value) (u : Int × Int) (k n : Nat) => match u with | (fl', q') => v = some (.long (lI q')) ∧ ((fl' = 0 ∧ (0 ≤ i ∧ i < tz ∧ q' = wrd L i)) ∨ (fl' = 1 ∧ (i < 0 ∨ tz ≤ i))) ∧ k = 0 ∧ n = 0) (fun (u : Int × Int) (tS : State) => match u with | (fl', q') => va_P (dC, dI) vwCl [(mm, .inr (4, [.int (iI fl'), .ref ta, .int (iI tz), .ref ka, .int (iI nn), .ref da, .ref ya, .int (iI pt), .int (iI md), .int (iI sx)])), (ta, .inl (cT, 4096, .inl (fun j => bI (t j))))] tS.heap ∧ va_K (dC, dI) vwCl [(cT, .byte)] tS ∧ va_D (va_A [(mm, .inr (4, [.int (iI fl), .ref ta, .int (iI tz), .ref ka, .int (iI nn), .ref da, .ref ya, .int (iI pt), .int (iI md), .int (iI sx)])), (ta, .inl (cT, 4096, .inl (fun j => bI (t j))))] sz) [(mm, .inr (4, [.int (iI fl'), .ref ta, .int (iI tz), .ref ka, .int (iI nn), .ref da, .ref ya, .int (iI pt), .int (iI md), .int (iI sx)])), (ta, .inl (cT, 4096, .inl (fun j => bI (t j))))]) (va_A [(mm, .inr (4, [.int (iI fl), .ref ta, .int (iI tz), .ref ka, .int (iI nn), .ref da, .ref ya, .int (iI pt), .int (iI md), .int (iI sx)])), (ta, .inl (cT, 4096, .inl (fun j => bI (t j))))] sz)) (va_A [(mm, .inr (4, [.int (iI fl), .ref ta, .int (iI tz), .ref ka, .int (iI nn), .ref da, .ref ya, .int (iI pt), .int (iI md), .int (iI sx)])), (ta, .inl (cT, 4096, .inl (fun j => bI (t j))))] sz) := by
  refine mv_ofW (cc := cX4_word) (maxL := 5) (ret := (some .long)) (by decide) rfl ?_
  intro p e s m args below meth c s₁ B hml hv
  obtain ⟨rfl, hsz, hP, hK, hD0⟩ := hv
  have hx := B.exec
  have hb := B.bytes
  have hr := B.returns
  have hT : ∀ w ∈ wT, w.before _ s = true := fun w h => atoms_spec (ws := wsX4_word) B.pre w (List.mem_cons_of_mem _ h)
  have hown : s.vm.findClass RX4 = some m.cls := findClass_of_methodNamed B.named
  have hlocks := B.notSynchronized
  subst hsz
  have hD := hD0.self (sz := s.heap.size)
  generalize hAe : va_A [(mm, .inr (4, [.int (iI fl), .ref ta, .int (iI tz), .ref ka, .int (iI nn), .ref da, .ref ya, .int (iI pt), .int (iI md), .int (iI sx)])), (ta, .inl (cT, 4096, .inl (fun j => bI (t j))))] s.heap.size = A at hD ⊢
  have hA : ∀ q : Nat, s.heap.size ≤ q → A q := fun q h => by rw [← hAe]; exact Or.inr h
  have hS : va_S A s.heap s.heap [] := va_S.rf
  have hP : va_P (dC, dI) vwCl [(mm, .inr (4, [.int (iI fl), .ref ta, .int (iI tz), .ref ka, .int (iI nn), .ref da, .ref ya, .int (iI pt), .int (iI md), .int (iI sx)])), (ta, .inl (cT, 4096, .inl (fun j => bI (t j))))] s.heap := hP
  have hl := lv_entry ([.ref mm, .int (iI i)]) (n := 5) (Nat.le_of_ble_eq_true rfl)
  rw [lg_entry_eq]
  generalize (lg_sl ([.ref mm, .int (iI i)]) ++ List.replicate (5 - (lg_sl ([.ref mm, .int (iI i)])).length) Slot.unset).toArray = ls at hl ⊢
  have hl : lv_has ls 5 [(0, .ref mm), (1, .int (iI i))] := hl
  obtain ⟨hw1, hw2, hw3, hw4, hw5, hw6⟩ := id hok
  refine mv_nameQ (fun Q9 hQ9 => ?_)
  have LP : ∀ (fu : Nat) (y : Int) (j : Int) (H : Heap) (locs : List Loc) (ls : Array Slot) (kc ks : Nat), (i + 8 - j < (fu : Int)) → (i ≤ j ∧ j ≤ i + 8) → (0 ≤ i ∧ i < tz) → (wrd L i = sfold (fun q => gd L (i + q)) (8 - (j - i)).toNat (j - i) y) → (kc = 0 ∧ ks = 0) → va_K (dC, dI) vwCl [(cT, .byte)] s → va_P (dC, dI) vwCl [(mm, .inr (4, [.int (iI 0), .ref ta, .int (iI tz), .ref ka, .int (iI nn), .ref da, .ref ya, .int (iI pt), .int (iI md), .int (iI sx)])), (ta, .inl (cT, 4096, .inl (fun j => bI (t j))))] H → va_D A [(mm, .inr (4, [.int (iI 0), .ref ta, .int (iI tz), .ref ka, .int (iI nn), .ref da, .ref ya, .int (iI pt), .int (iI md), .int (iI sx)])), (ta, .inl (cT, 4096, .inl (fun j => bI (t j))))] → va_S A s.heap H locs → lv_has ls 5 [(0, .ref mm), (1, .int (iI i)), (2, .long (lI y)), (4, .int (iI j))] → W p l e ({ frames := 2, cells := 0, slots := 0, locals := 60 }) s m ([.ref mm, .int (iI i)] : List Value).toArray below meth c H locs kc ks Q9 (F0 m 29 ls []) := by
    intro fu
    induction fu with
    | zero =>
      intro y j H locs ls kc ks hfu hj hi9 hn hkc hK hP hD hS hl
      exfalso
      omega
    | succ fu ih =>
      intro y j H locs ls kc ks hfu hj hi9 hn hkc hK hP hD hS hl
      have hgj := gd_rng hok j
      refine lv_iload hx hb dX4_word_29 (lv_at hl 3 rfl) ?_
      refine lv_iload_n hx hb dX4_word_31 rfl (lv_at hl 1 rfl) ?_
      refine lv_bipush (v := iI 8) hx hb dX4_word_32 (by decide +kernel) ?_
      refine li_iadd hx hb dX4_word_34 ?_
      refine li_icmp_ge (tgt := 76) hx hb (by omega) (by omega) dX4_word_35 (by decide) (fun c1 => ?_) (fun c1 => ?_)
      · skip
        refine lv_lload_n hx hb dX4_word_76 rfl (lv_at hl 2 rfl) ?_
        subst hQ9
        have hP9 := hP.sub (ws' := [(mm, .inr (4, [.int (iI 0), .ref ta, .int (iI tz), .ref ka, .int (iI nn), .ref da, .ref ya, .int (iI pt), .int (iI md), .int (iI sx)])), (ta, .inl (cT, 4096, .inl (fun j => bI (t j))))]) [0, 1] rfl
        have hD9 := hD.sub (ws' := [(mm, .inr (4, [.int (iI 0), .ref ta, .int (iI tz), .ref ka, .int (iI nn), .ref da, .ref ya, .int (iI pt), .int (iI md), .int (iI sx)])), (ta, .inl (cT, 4096, .inl (fun j => bI (t j))))]) [0, 1] (by decide) rfl
        have hK9 := hK.sub (tys' := [(cT, .byte)]) [0] rfl
        exact mv_lret hx hb hr hlocks (fun tS ht hW => ⟨⟨_, (0, y), rfl, ⟨rfl, Or.inl ⟨rfl, ⟨hi9.1, hi9.2, by rw [hn]; exact (sfold_e (by omega)).symm⟩⟩, by omega, by omega⟩, by rw [ht]; exact hP9, va_K.moved hW.alike hK9, hD9⟩, hS.F ht⟩) hS.2.2 dX4_word_77
      · skip
        refine lv_lload_n hx hb dX4_word_38 rfl (lv_at hl 2 rfl) ?_
        refine lv_ldc2 (v := lI 256) hx hb hown (hT _ wd637) dX4_word_39 ?_
        refine li_lmul hx hb dX4_word_42 ?_
        refine lv_iload hx hb dX4_word_43 (lv_at hl 3 rfl) ?_
        refine lv_aload_n hx hb dX4_word_45 rfl (lv_at hl 0 rfl) ?_
        refine va_get (D := (dC, dI)) (ci := 4) (v := .int (iI tz)) (C := RX4) (T := TX4) (N := 10) hx hb hT inX4 hown hK hP 0 rfl rfl 2 (by decide) (hT _ wd519) (fun _ h9 => h9) rfl dX4_word_46 ?_
        refine li_icmp_ge (tgt := 66) hx hb (by omega) (by omega) dX4_word_49 (by decide) (fun c2 => ?_) (fun c2 => ?_)
        · skip
          refine lv_iconst (v := iI 0) hx hb dX4_word_66 rfl ?_
          have hga : (0 : Int) = gd L j := by first | exact gd_in hok (by omega) | exact gd_out (by omega)
          refine li_i2l hx hb (by omega) dX4_word_67 ?_
          refine li_ladd hx hb dX4_word_68 ?_
          refine li_nml (fun z3 ez3 => ?_)
          refine lv_lstore_n (lv' := [(2, .long (lI z3)), (0, .ref mm), (1, .int (iI i)), (4, .int (iI j))]) hx hb dX4_word_69 rfl hl (by decide) rfl (fun ls hl => ?_)
          obtain ⟨z4, ez4⟩ : ∃ y : Int, y = j + 1 := ⟨_, rfl⟩
          refine lv_iinc (v := iI z4) (lv' := [(4, .int (iI z4)), (2, .long (lI z3)), (0, .ref mm), (1, .int (iI i))]) hx hb dX4_word_70 hl (k := 3) rfl (by rw [ez4]; exact iI_add _ _) (by decide) rfl (fun ls hl => ?_)
          refine lv_goto (tgt := 29) hx hb dX4_word_73 (by decide) ?_
          exact ih z3 z4 _ _ _ _ _ (by omega) (by omega) (by omega) (by rw [hn, show z4 - i = (j - i) + 1 by omega]; exact sfold_s (by omega) (by show _ = y * 256 + gd L (i + (j - i)); rw [show i + (j - i) = j by omega]; omega)) (by omega) (hK.sub [0] rfl) (hP.sub [0, 1] rfl) (hD.sub [0, 1] (by decide) rfl) hS (lv_sub hl [2, 3, 1, 0] rfl)
        · skip
          refine lv_aload_n hx hb dX4_word_52 rfl (lv_at hl 0 rfl) ?_
          refine va_get (D := (dC, dI)) (ci := 4) (v := .ref ta) (C := RX4) (T := TX4) (N := 10) hx hb hT inX4 hown hK hP 0 rfl rfl 1 (by decide) (hT _ wd518) (fun _ h9 => h9) rfl dX4_word_53 ?_
          refine lv_iload hx hb dX4_word_56 (lv_at hl 3 rfl) ?_
          refine li_bald hx hb hK hP 1 0 rfl rfl (z := j) (by omega) (by omega) dX4_word_58 ?_
          refine lv_sipush (v := iI 255) hx hb dX4_word_59 (by decide +kernel) ?_
          refine li_bandb hx hb dX4_word_62 ?_
          refine lv_goto (tgt := 67) hx hb dX4_word_63 (by decide) ?_
          have hga : (((t (j : Int).toNat) % 256) : Int) = gd L j := by first | exact gd_in hok (by omega) | exact gd_out (by omega)
          refine li_i2l hx hb (by omega) dX4_word_67 ?_
          refine li_ladd hx hb dX4_word_68 ?_
          refine li_nml (fun z5 ez5 => ?_)
          refine lv_lstore_n (lv' := [(2, .long (lI z5)), (0, .ref mm), (1, .int (iI i)), (4, .int (iI j))]) hx hb dX4_word_69 rfl hl (by decide) rfl (fun ls hl => ?_)
          obtain ⟨z6, ez6⟩ : ∃ y : Int, y = j + 1 := ⟨_, rfl⟩
          refine lv_iinc (v := iI z6) (lv' := [(4, .int (iI z6)), (2, .long (lI z5)), (0, .ref mm), (1, .int (iI i))]) hx hb dX4_word_70 hl (k := 3) rfl (by rw [ez6]; exact iI_add _ _) (by decide) rfl (fun ls hl => ?_)
          refine lv_goto (tgt := 29) hx hb dX4_word_73 (by decide) ?_
          exact ih z5 z6 _ _ _ _ _ (by omega) (by omega) (by omega) (by rw [hn, show z6 - i = (j - i) + 1 by omega]; exact sfold_s (by omega) (by show _ = y * 256 + gd L (i + (j - i)); rw [show i + (j - i) = j by omega]; omega)) (by omega) (hK.sub [0] rfl) (hP.sub [0, 1] rfl) (hD.sub [0, 1] (by decide) rfl) hS (lv_sub hl [2, 3, 1, 0] rfl)
  refine lv_aload_n hx hb dX4_word_0 rfl (lv_at hl 0 rfl) ?_
  refine lv_iconst (v := iI 0) hx hb dX4_word_1 rfl ?_
  refine va_put (D := (dC, dI)) (ci := 4) (v := .int (iI 0)) (ty := .int) (C := RX4) (T := TX4) (N := 10) hx hb hT inX4 tyX4 tyX4_ok nX4 hown hK hP hD hS 0 rfl rfl 0 (by decide) (hT _ wd517) (fun _ h9 => h9) rfl (by decide +kernel) rfl rfl (Nat.le_of_ble_eq_true rfl) dX4_word_2 (fun H locs hP hD hS => ?_)
  have hP : va_P (dC, dI) vwCl [(mm, .inr (4, [.int (iI 0), .ref ta, .int (iI tz), .ref ka, .int (iI nn), .ref da, .ref ya, .int (iI pt), .int (iI md), .int (iI sx)])), (ta, .inl (cT, 4096, .inl (fun j => bI (t j))))] H := hP
  have hD : va_D A [(mm, .inr (4, [.int (iI 0), .ref ta, .int (iI tz), .ref ka, .int (iI nn), .ref da, .ref ya, .int (iI pt), .int (iI md), .int (iI sx)])), (ta, .inl (cT, 4096, .inl (fun j => bI (t j))))] := hD
  refine lv_iload_n hx hb dX4_word_5 rfl (lv_at hl 1 rfl) ?_
  refine li_if_lt (tgt := 17) hx hb (by omega) dX4_word_6 (by decide) (fun c7 => ?_) (fun c7 => ?_)
  · skip
    refine lv_aload_n hx hb dX4_word_17 rfl (lv_at hl 0 rfl) ?_
    refine lv_iconst (v := iI 1) hx hb dX4_word_18 rfl ?_
    have hPc := hP.sub (ws' := [(mm, .inr (4, [.int (iI 0), .ref ta, .int (iI tz), .ref ka, .int (iI nn), .ref da, .ref ya, .int (iI pt), .int (iI md), .int (iI sx)]))]) [0] rfl
    have hDc := hD.sub (ws' := [(mm, .inr (4, [.int (iI 0), .ref ta, .int (iI tz), .ref ka, .int (iI nn), .ref da, .ref ya, .int (iI pt), .int (iI md), .int (iI sx)]))]) [0] (by decide) rfl
    have hKc := hK.sub (tys' := []) [] rfl
    have hFc := va_free (wc := [(mm, .inr (4, [.int (iI 0), .ref ta, .int (iI tz), .ref ka, .int (iI nn), .ref da, .ref ya, .int (iI pt), .int (iI md), .int (iI sx)]))]) hD hS hA [0] rfl
    refine mv_call (mv_runV (As := [.int (iI 1)]) (rest := []) ⟨hx, hb, hml, hown, hT⟩ (c_M_fail l dC dI H.size mm 0 ta tz ka nn da ya pt md sx 1 ) (cwV 1 hT (gV wd556 wd558 wd16 wd30 wd559) rfl rfl rfl (by decide +kernel) ⟨show 0 + 1 ≤ 2 from by omega, show 8 + (2 + 11) + 0 ≤ 60 from by omega⟩) ⟨fun a U g mk q => by obtain ⟨q0, q1, qP, qK, qD⟩ := q; exact ⟨q0, q1, qP, va_K.moved (u := U) (U := U.calling g mk a) (Vm.Alike.refl U.vm) qK, qD⟩, va_recv hKc hPc (ci := 4) (q0 := 0) rfl rfl, fun U hU hW => ⟨rfl, by rw [hU], by rw [hU]; exact hPc, va_K.moved hW.alike hKc, hDc.weaken (fun _ _ _ _ => trivial)⟩⟩ rfl rfl hl.1 rfl (lv_room (Nat.le_of_ble_eq_true rfl)) dX4_word_19 ⟨show 0 + 0 ≤ 0 from by omega, show 0 + 0 ≤ 0 from by omega⟩) hS (fun q _ h => hFc q h) hFc (fun v10 u k8 n9 tS H1 locs ht hvm hw hB hz1 hk1 hS => ?_)
    obtain ⟨hP1, hK1, hD1⟩ := hB
    rw [ht] at hP1
    have hK1 := va_K.moved hvm.symm hK1
    try dsimp only at hw
    obtain ⟨hP, hD⟩ := va_join (wr := [(ta, .inl (cT, 4096, .inl (fun j => bI (t j))))]) (w1 := [(mm, .inr (4, [.int (iI 1), .ref ta, .int (iI tz), .ref ka, .int (iI nn), .ref da, .ref ya, .int (iI pt), .int (iI md), .int (iI sx)]))]) hP hD [0] [1] rfl rfl (by decide) (by decide) hk1 hFc hP1 hD1
    have hK := (hK.sub (tys' := [(cT, .byte)]) [0] rfl).app hK1
    generalize H1 = H at hP hS ⊢
    have hP : va_P (dC, dI) vwCl [(ta, .inl (cT, 4096, .inl (fun j => bI (t j)))), (mm, .inr (4, [.int (iI 1), .ref ta, .int (iI tz), .ref ka, .int (iI nn), .ref da, .ref ya, .int (iI pt), .int (iI md), .int (iI sx)]))] H := hP
    have hD : va_D A [(ta, .inl (cT, 4096, .inl (fun j => bI (t j)))), (mm, .inr (4, [.int (iI 1), .ref ta, .int (iI tz), .ref ka, .int (iI nn), .ref da, .ref ya, .int (iI pt), .int (iI md), .int (iI sx)]))] := hD
    have hK : va_K (dC, dI) vwCl [(cT, .byte)] s := hK
    obtain ⟨rfl, rfl, rfl⟩ := hw
    refine W.eq (g2 := F0 m 22 ls [.int (iI 0)]) rfl ?_
    refine li_i2l hx hb (by omega) dX4_word_22 ?_
    subst hQ9
    have hP9 := hP.sub (ws' := [(mm, .inr (4, [.int (iI 1), .ref ta, .int (iI tz), .ref ka, .int (iI nn), .ref da, .ref ya, .int (iI pt), .int (iI md), .int (iI sx)])), (ta, .inl (cT, 4096, .inl (fun j => bI (t j))))]) [1, 0] rfl
    have hD9 := hD.sub (ws' := [(mm, .inr (4, [.int (iI 1), .ref ta, .int (iI tz), .ref ka, .int (iI nn), .ref da, .ref ya, .int (iI pt), .int (iI md), .int (iI sx)])), (ta, .inl (cT, 4096, .inl (fun j => bI (t j))))]) [1, 0] (by decide) rfl
    have hK9 := hK.sub (tys' := [(cT, .byte)]) [0] rfl
    exact mv_lret hx hb hr hlocks (fun tS ht hW => ⟨⟨_, (1, 0), rfl, ⟨rfl, Or.inr (⟨rfl, by omega⟩), by omega, by omega⟩, by rw [ht]; exact hP9, va_K.moved hW.alike hK9, hD9⟩, hS.F ht⟩) hS.2.2 dX4_word_23
  · skip
    refine lv_iload_n hx hb dX4_word_9 rfl (lv_at hl 1 rfl) ?_
    refine lv_aload_n hx hb dX4_word_10 rfl (lv_at hl 0 rfl) ?_
    refine va_get (D := (dC, dI)) (ci := 4) (v := .int (iI tz)) (C := RX4) (T := TX4) (N := 10) hx hb hT inX4 hown hK hP 0 rfl rfl 2 (by decide) (hT _ wd519) (fun _ h9 => h9) rfl dX4_word_11 ?_
    refine li_icmp_lt (tgt := 24) hx hb (by omega) (by omega) dX4_word_14 (by decide) (fun c11 => ?_) (fun c11 => ?_)
    · skip
      refine lv_lconst (v := lI 0) hx hb dX4_word_24 (by decide +kernel) ?_
      refine lv_lstore_n (lv' := [(2, .long (lI 0)), (0, .ref mm), (1, .int (iI i))]) hx hb dX4_word_25 rfl hl (by decide) rfl (fun ls hl => ?_)
      refine lv_iload_n hx hb dX4_word_26 rfl (lv_at hl 2 rfl) ?_
      refine lv_istore (lv' := [(4, .int (iI i)), (2, .long (lI 0)), (0, .ref mm), (1, .int (iI i))]) hx hb dX4_word_27 hl (by decide) rfl (fun ls hl => ?_)
      exact LP (10) 0 i _ _ _ _ _ (by omega) (by omega) (by omega) (by rw [Int.sub_self]; rfl) (by omega) (hK.sub [0] rfl) (hP.sub [0, 1] rfl) (hD.sub [0, 1] (by decide) rfl) hS (lv_sub hl [2, 3, 1, 0] rfl)
    · skip
      refine lv_aload_n hx hb dX4_word_17 rfl (lv_at hl 0 rfl) ?_
      refine lv_iconst (v := iI 1) hx hb dX4_word_18 rfl ?_
      have hPc := hP.sub (ws' := [(mm, .inr (4, [.int (iI 0), .ref ta, .int (iI tz), .ref ka, .int (iI nn), .ref da, .ref ya, .int (iI pt), .int (iI md), .int (iI sx)]))]) [0] rfl
      have hDc := hD.sub (ws' := [(mm, .inr (4, [.int (iI 0), .ref ta, .int (iI tz), .ref ka, .int (iI nn), .ref da, .ref ya, .int (iI pt), .int (iI md), .int (iI sx)]))]) [0] (by decide) rfl
      have hKc := hK.sub (tys' := []) [] rfl
      have hFc := va_free (wc := [(mm, .inr (4, [.int (iI 0), .ref ta, .int (iI tz), .ref ka, .int (iI nn), .ref da, .ref ya, .int (iI pt), .int (iI md), .int (iI sx)]))]) hD hS hA [0] rfl
      refine mv_call (mv_runV (As := [.int (iI 1)]) (rest := []) ⟨hx, hb, hml, hown, hT⟩ (c_M_fail l dC dI H.size mm 0 ta tz ka nn da ya pt md sx 1 ) (cwV 1 hT (gV wd556 wd558 wd16 wd30 wd559) rfl rfl rfl (by decide +kernel) ⟨show 0 + 1 ≤ 2 from by omega, show 8 + (2 + 11) + 0 ≤ 60 from by omega⟩) ⟨fun a U g mk q => by obtain ⟨q0, q1, qP, qK, qD⟩ := q; exact ⟨q0, q1, qP, va_K.moved (u := U) (U := U.calling g mk a) (Vm.Alike.refl U.vm) qK, qD⟩, va_recv hKc hPc (ci := 4) (q0 := 0) rfl rfl, fun U hU hW => ⟨rfl, by rw [hU], by rw [hU]; exact hPc, va_K.moved hW.alike hKc, hDc.weaken (fun _ _ _ _ => trivial)⟩⟩ rfl rfl hl.1 rfl (lv_room (Nat.le_of_ble_eq_true rfl)) dX4_word_19 ⟨show 0 + 0 ≤ 0 from by omega, show 0 + 0 ≤ 0 from by omega⟩) hS (fun q _ h => hFc q h) hFc (fun v14 u k12 n13 tS H1 locs ht hvm hw hB hz1 hk1 hS => ?_)
      obtain ⟨hP1, hK1, hD1⟩ := hB
      rw [ht] at hP1
      have hK1 := va_K.moved hvm.symm hK1
      try dsimp only at hw
      obtain ⟨hP, hD⟩ := va_join (wr := [(ta, .inl (cT, 4096, .inl (fun j => bI (t j))))]) (w1 := [(mm, .inr (4, [.int (iI 1), .ref ta, .int (iI tz), .ref ka, .int (iI nn), .ref da, .ref ya, .int (iI pt), .int (iI md), .int (iI sx)]))]) hP hD [0] [1] rfl rfl (by decide) (by decide) hk1 hFc hP1 hD1
      have hK := (hK.sub (tys' := [(cT, .byte)]) [0] rfl).app hK1
      generalize H1 = H at hP hS ⊢
      have hP : va_P (dC, dI) vwCl [(ta, .inl (cT, 4096, .inl (fun j => bI (t j)))), (mm, .inr (4, [.int (iI 1), .ref ta, .int (iI tz), .ref ka, .int (iI nn), .ref da, .ref ya, .int (iI pt), .int (iI md), .int (iI sx)]))] H := hP
      have hD : va_D A [(ta, .inl (cT, 4096, .inl (fun j => bI (t j)))), (mm, .inr (4, [.int (iI 1), .ref ta, .int (iI tz), .ref ka, .int (iI nn), .ref da, .ref ya, .int (iI pt), .int (iI md), .int (iI sx)]))] := hD
      have hK : va_K (dC, dI) vwCl [(cT, .byte)] s := hK
      obtain ⟨rfl, rfl, rfl⟩ := hw
      refine W.eq (g2 := F0 m 22 ls [.int (iI 0)]) rfl ?_
      refine li_i2l hx hb (by omega) dX4_word_22 ?_
      subst hQ9
      have hP9 := hP.sub (ws' := [(mm, .inr (4, [.int (iI 1), .ref ta, .int (iI tz), .ref ka, .int (iI nn), .ref da, .ref ya, .int (iI pt), .int (iI md), .int (iI sx)])), (ta, .inl (cT, 4096, .inl (fun j => bI (t j))))]) [1, 0] rfl
      have hD9 := hD.sub (ws' := [(mm, .inr (4, [.int (iI 1), .ref ta, .int (iI tz), .ref ka, .int (iI nn), .ref da, .ref ya, .int (iI pt), .int (iI md), .int (iI sx)])), (ta, .inl (cT, 4096, .inl (fun j => bI (t j))))]) [1, 0] (by decide) rfl
      have hK9 := hK.sub (tys' := [(cT, .byte)]) [0] rfl
      exact mv_lret hx hb hr hlocks (fun tS ht hW => ⟨⟨_, (1, 0), rfl, ⟨rfl, Or.inr (⟨rfl, by omega⟩), by omega, by omega⟩, by rw [ht]; exact hP9, va_K.moved hW.alike hK9, hD9⟩, hS.F ht⟩) hS.2.2 dX4_word_23
set_option maxHeartbeats 4000000 in
set_option maxRecDepth 100000 in
theorem c_M_bytes (l : Launch) (dC : Nat → ClassId) (dI : Nat → Nat → Nat) (sz : Nat) (mm : Nat) (fl : Int) (ta : Nat) (tz : Int) (ka : Nat) (nn : Int) (da : Nat) (ya : Nat) (pt : Int) (md : Int) (sx : Int) (q : Int) (hq4 : -9223372036854775808 ≤ q ∧ q < 9223372036854775808) : mv_Met l yX4_bytesOf wsX4_bytesOf ({ frames := 1, cells := 0, slots := 0, locals := 60 }) (va_Pc [.ref mm, .long (lI q)] (fun U => U.heap.size = sz ∧ va_P (dC, dI) vwCl [(mm, .inr (4, [.int (iI fl), .ref ta, .int (iI tz), .ref ka, .int (iI nn), .ref da, .ref ya, .int (iI pt), .int (iI md), .int (iI sx)]))] U.heap ∧ va_K (dC, dI) vwCl [] U ∧ va_D (fun _ => True) [(mm, .inr (4, [.int (iI fl), .ref ta, .int (iI tz), .ref ka, .int (iI nn), .ref da, .ref ya, .int (iI pt), .int (iI md), .int (iI sx)]))])) (mv_Q (fun (v : Option Value) (u : Int) (k n : Nat) => match u with | (q') => v = some (.int (iI q')) ∧ q' = fwb q 7 1 ∧ 1 ≤ q' ∧ q' ≤ 8 ∧ k = 0 ∧ n = 0) (fun (u : Int) (tS : State) => match u with | (q') => va_P (dC, dI) vwCl [(mm, .inr (4, [.int (iI fl), .ref ta, .int (iI tz), .ref ka, .int (iI nn), .ref da, .ref ya, .int (iI pt), .int (iI md), .int (iI sx)]))] tS.heap ∧ va_K (dC, dI) vwCl [] tS ∧ va_D (va_A [(mm, .inr (4, [.int (iI fl), .ref ta, .int (iI tz), .ref ka, .int (iI nn), .ref da, .ref ya, .int (iI pt), .int (iI md), .int (iI sx)]))] sz) [(mm, .inr (4, [.int (iI fl), .ref ta, .int (iI tz), .ref ka, .int (iI nn), .ref da, .ref ya, .int (iI pt), .int (iI md), .int (iI sx)]))]) (va_A [(mm, .inr (4, [.int (iI fl), .ref ta, .int (iI tz), .ref ka, .int (iI nn), .ref da, .ref ya, .int (iI pt), .int (iI md), .int (iI sx)]))] sz)) (va_A [(mm, .inr (4, [.int (iI fl), .ref ta, .int (iI tz), .ref ka, .int (iI nn), .ref da, .ref ya, .int (iI pt), .int (iI md), .int (iI sx)]))] sz) := by
  refine mv_ofW (cc := cX4_bytesOf) (maxL := 4) (ret := (some .int)) (by decide) rfl ?_
  intro p e s m args below meth c s₁ B hml hv
  obtain ⟨rfl, hsz, hP, hK, hD0⟩ := hv
  have hx := B.exec
  have hb := B.bytes
  have hr := B.returns
  have hT : ∀ w ∈ wT, w.before _ s = true := fun w h => atoms_spec (ws := wsX4_bytesOf) B.pre w (List.mem_cons_of_mem _ h)
  have hown : s.vm.findClass RX4 = some m.cls := findClass_of_methodNamed B.named
  have hlocks := B.notSynchronized
  subst hsz
  have hD := hD0.self (sz := s.heap.size)
  generalize hAe : va_A [(mm, .inr (4, [.int (iI fl), .ref ta, .int (iI tz), .ref ka, .int (iI nn), .ref da, .ref ya, .int (iI pt), .int (iI md), .int (iI sx)]))] s.heap.size = A at hD ⊢
  have hA : ∀ q : Nat, s.heap.size ≤ q → A q := fun q h => by rw [← hAe]; exact Or.inr h
  have hS : va_S A s.heap s.heap [] := va_S.rf
  have hP : va_P (dC, dI) vwCl [(mm, .inr (4, [.int (iI fl), .ref ta, .int (iI tz), .ref ka, .int (iI nn), .ref da, .ref ya, .int (iI pt), .int (iI md), .int (iI sx)]))] s.heap := hP
  have hl := lv_entry ([.ref mm, .long (lI q)]) (n := 4) (Nat.le_of_ble_eq_true rfl)
  rw [lg_entry_eq]
  generalize (lg_sl ([.ref mm, .long (lI q)]) ++ List.replicate (4 - (lg_sl ([.ref mm, .long (lI q)])).length) Slot.unset).toArray = ls at hl ⊢
  have hl : lv_has ls 4 [(0, .ref mm), (1, .long (lI q))] := hl
  refine mv_nameQ (fun Q9 hQ9 => ?_)
  have LP : ∀ (fu : Nat) (j : Int) (H : Heap) (locs : List Loc) (ls : Array Slot) (kc ks : Nat), (8 - j < (fu : Int)) → (1 ≤ j ∧ j ≤ 8) → (fwb q 7 1 = fwb q (8 - j).toNat j) → (kc = 0 ∧ ks = 0) → va_K (dC, dI) vwCl [] s → va_P (dC, dI) vwCl [(mm, .inr (4, [.int (iI fl), .ref ta, .int (iI tz), .ref ka, .int (iI nn), .ref da, .ref ya, .int (iI pt), .int (iI md), .int (iI sx)]))] H → va_D A [(mm, .inr (4, [.int (iI fl), .ref ta, .int (iI tz), .ref ka, .int (iI nn), .ref da, .ref ya, .int (iI pt), .int (iI md), .int (iI sx)]))] → va_S A s.heap H locs → lv_has ls 4 [(0, .ref mm), (1, .long (lI q)), (3, .int (iI j))] → W p l e ({ frames := 1, cells := 0, slots := 0, locals := 60 }) s m ([.ref mm, .long (lI q)] : List Value).toArray below meth c H locs kc ks Q9 (F0 m 2 ls []) := by
    intro fu
    induction fu with
    | zero =>
      intro j H locs ls kc ks hfu hj hn hkc hK hP hD hS hl
      exfalso
      omega
    | succ fu ih =>
      intro j H locs ls kc ks hfu hj hn hkc hK hP hD hS hl
      have hq9 := sh_rng hq4 (j := j) (by omega)
      refine lv_iload_n hx hb dX4_bytesOf_2 rfl (lv_at hl 2 rfl) ?_
      refine lv_bipush (v := iI 8) hx hb dX4_bytesOf_3 (by decide +kernel) ?_
      refine li_icmp_ge (tgt := 42) hx hb (by omega) (by omega) dX4_bytesOf_5 (by decide) (fun c1 => ?_) (fun c1 => ?_)
      · skip
        refine lv_iload_n hx hb dX4_bytesOf_42 rfl (lv_at hl 2 rfl) ?_
        subst hQ9
        have hP9 := hP.sub (ws' := [(mm, .inr (4, [.int (iI fl), .ref ta, .int (iI tz), .ref ka, .int (iI nn), .ref da, .ref ya, .int (iI pt), .int (iI md), .int (iI sx)]))]) [0] rfl
        have hD9 := hD.sub (ws' := [(mm, .inr (4, [.int (iI fl), .ref ta, .int (iI tz), .ref ka, .int (iI nn), .ref da, .ref ya, .int (iI pt), .int (iI md), .int (iI sx)]))]) [0] (by decide) rfl
        have hK9 := hK.sub (tys' := []) [] rfl
        exact mv_iret hx hb hr hlocks (fun tS ht hW => ⟨⟨_, (j), rfl, ⟨rfl, by rw [hn]; rcases (show 8 ≤ j ∨ (j < 8 ∧ (q / 2 ^ (8 * j - 1).toNat = 0 ∨ q / 2 ^ (8 * j - 1).toNat = -1)) by omega) with h9 | h9; rw [fwb_e h9]; omega; rw [fwb_y h9.1 h9.2], by omega, by omega, by omega, by omega⟩, by rw [ht]; exact hP9, va_K.moved hW.alike hK9, hD9⟩, hS.F ht⟩) hS.2.2 dX4_bytesOf_43
      · skip
        refine lv_lload_n hx hb dX4_bytesOf_8 rfl (lv_at hl 1 rfl) ?_
        refine lv_bipush (v := iI 8) hx hb dX4_bytesOf_9 (by decide +kernel) ?_
        refine lv_iload_n hx hb dX4_bytesOf_11 rfl (lv_at hl 2 rfl) ?_
        refine li_imul hx hb dX4_bytesOf_12 ?_
        refine lv_iconst (v := iI 1) hx hb dX4_bytesOf_13 rfl ?_
        refine li_isub hx hb dX4_bytesOf_14 ?_
        refine li_lshr hx hb (by omega) (by omega) dX4_bytesOf_15 ?_
        refine lv_lconst (v := lI 0) hx hb dX4_bytesOf_16 (by decide +kernel) ?_
        refine li_lcmp_eq (tgt := 42) hx hb (by omega) (by omega) dX4_bytesOf_17 dX4_bytesOf_18 (by decide) (fun c2 => ?_) (fun c2 => ?_)
        · skip
          refine lv_iload_n hx hb dX4_bytesOf_42 rfl (lv_at hl 2 rfl) ?_
          subst hQ9
          have hP9 := hP.sub (ws' := [(mm, .inr (4, [.int (iI fl), .ref ta, .int (iI tz), .ref ka, .int (iI nn), .ref da, .ref ya, .int (iI pt), .int (iI md), .int (iI sx)]))]) [0] rfl
          have hD9 := hD.sub (ws' := [(mm, .inr (4, [.int (iI fl), .ref ta, .int (iI tz), .ref ka, .int (iI nn), .ref da, .ref ya, .int (iI pt), .int (iI md), .int (iI sx)]))]) [0] (by decide) rfl
          have hK9 := hK.sub (tys' := []) [] rfl
          exact mv_iret hx hb hr hlocks (fun tS ht hW => ⟨⟨_, (j), rfl, ⟨rfl, by rw [hn]; rcases (show 8 ≤ j ∨ (j < 8 ∧ (q / 2 ^ (8 * j - 1).toNat = 0 ∨ q / 2 ^ (8 * j - 1).toNat = -1)) by omega) with h9 | h9; rw [fwb_e h9]; omega; rw [fwb_y h9.1 h9.2], by omega, by omega, by omega, by omega⟩, by rw [ht]; exact hP9, va_K.moved hW.alike hK9, hD9⟩, hS.F ht⟩) hS.2.2 dX4_bytesOf_43
        · skip
          refine lv_lload_n hx hb dX4_bytesOf_21 rfl (lv_at hl 1 rfl) ?_
          refine lv_bipush (v := iI 8) hx hb dX4_bytesOf_22 (by decide +kernel) ?_
          refine lv_iload_n hx hb dX4_bytesOf_24 rfl (lv_at hl 2 rfl) ?_
          refine li_imul hx hb dX4_bytesOf_25 ?_
          refine lv_iconst (v := iI 1) hx hb dX4_bytesOf_26 rfl ?_
          refine li_isub hx hb dX4_bytesOf_27 ?_
          refine li_lshr hx hb (by omega) (by omega) dX4_bytesOf_28 ?_
          refine lv_ldc2 (v := lI (-1)) hx hb hown (by rw [show lI (-1) = (-1 : Int64) by decide +kernel]; exact hT _ wd587) dX4_bytesOf_29 ?_
          refine li_lcmp_eq (tgt := 42) hx hb (by omega) (by omega) dX4_bytesOf_32 dX4_bytesOf_33 (by decide) (fun c3 => ?_) (fun c3 => ?_)
          · skip
            refine lv_iload_n hx hb dX4_bytesOf_42 rfl (lv_at hl 2 rfl) ?_
            subst hQ9
            have hP9 := hP.sub (ws' := [(mm, .inr (4, [.int (iI fl), .ref ta, .int (iI tz), .ref ka, .int (iI nn), .ref da, .ref ya, .int (iI pt), .int (iI md), .int (iI sx)]))]) [0] rfl
            have hD9 := hD.sub (ws' := [(mm, .inr (4, [.int (iI fl), .ref ta, .int (iI tz), .ref ka, .int (iI nn), .ref da, .ref ya, .int (iI pt), .int (iI md), .int (iI sx)]))]) [0] (by decide) rfl
            have hK9 := hK.sub (tys' := []) [] rfl
            exact mv_iret hx hb hr hlocks (fun tS ht hW => ⟨⟨_, (j), rfl, ⟨rfl, by rw [hn]; rcases (show 8 ≤ j ∨ (j < 8 ∧ (q / 2 ^ (8 * j - 1).toNat = 0 ∨ q / 2 ^ (8 * j - 1).toNat = -1)) by omega) with h9 | h9; rw [fwb_e h9]; omega; rw [fwb_y h9.1 h9.2], by omega, by omega, by omega, by omega⟩, by rw [ht]; exact hP9, va_K.moved hW.alike hK9, hD9⟩, hS.F ht⟩) hS.2.2 dX4_bytesOf_43
          · skip
            obtain ⟨z4, ez4⟩ : ∃ y : Int, y = j + 1 := ⟨_, rfl⟩
            refine lv_iinc (v := iI z4) (lv' := [(3, .int (iI z4)), (0, .ref mm), (1, .long (lI q))]) hx hb dX4_bytesOf_36 hl (k := 2) rfl (by rw [ez4]; exact iI_add _ _) (by decide) rfl (fun ls hl => ?_)
            refine lv_goto (tgt := 2) hx hb dX4_bytesOf_39 (by decide) ?_
            have z4_eq : z4 = j + 1 := by omega
            exact ih z4 _ _ _ _ _ (by omega) (by omega) (by rw [hn, z4_eq]; exact fwb_n (by omega) (by omega)) (by omega) (hK.sub [] rfl) (hP.sub [0] rfl) (hD.sub [0] (by decide) rfl) hS (lv_sub hl [1, 2, 0] rfl)
  refine lv_iconst (v := iI 1) hx hb dX4_bytesOf_0 rfl ?_
  refine lv_istore_n (lv' := [(3, .int (iI 1)), (0, .ref mm), (1, .long (lI q))]) hx hb dX4_bytesOf_1 rfl hl (by decide) rfl (fun ls hl => ?_)
  exact LP (100) 1 _ _ _ _ _ (by omega) (by omega) (rfl) (by omega) (hK.sub [] rfl) (hP.sub [0] rfl) (hD.sub [0] (by decide) rfl) hS (lv_sub hl [1, 2, 0] rfl)
set_option maxHeartbeats 4000000 in
set_option maxRecDepth 100000 in
theorem c_M_hsz (l : Launch) (dC : Nat → ClassId) (dI : Nat → Nat → Nat) (sz : Nat) (mm : Nat) (fl : Int) (ta : Nat) (tz : Int) (ka : Nat) (nn : Int) (da : Nat) (ya : Nat) (pt : Int) (md : Int) (sx : Int) (y : Int) (i : Int) (hy : 0 ≤ y ∧ y < 2147483648) (hi : 0 ≤ i ∧ i ≤ 4096) : mv_Met l yX4_headSize wsX4_headSize ({ frames := 1, cells := 0, slots := 0, locals := 60 }) (va_Pc [.ref mm, .int (iI y), .int (iI i)] (fun U => U.heap.size = sz ∧ va_P (dC, dI) vwCl [(mm, .inr (4, [.int (iI fl), .ref ta, .int (iI tz), .ref ka, .int (iI nn), .ref da, .ref ya, .int (iI pt), .int (iI md), .int (iI sx)]))] U.heap ∧ va_K (dC, dI) vwCl [] U ∧ va_D (fun _ => True) [(mm, .inr (4, [.int (iI fl), .ref ta, .int (iI tz), .ref ka, .int (iI nn), .ref da, .ref ya, .int (iI pt), .int (iI md), .int (iI sx)]))])) (mv_Q (fun (v : Option Value) (u : Int) (k n : Nat) => match u with | (q') => v = some (.int (iI q')) ∧ q' = idLen y + lnLen i ∧ k = 0 ∧ n = 0) (fun (u : Int) (tS : State) => match u with | (q') => va_P (dC, dI) vwCl [(mm, .inr (4, [.int (iI fl), .ref ta, .int (iI tz), .ref ka, .int (iI nn), .ref da, .ref ya, .int (iI pt), .int (iI md), .int (iI sx)]))] tS.heap ∧ va_K (dC, dI) vwCl [] tS ∧ va_D (va_A [(mm, .inr (4, [.int (iI fl), .ref ta, .int (iI tz), .ref ka, .int (iI nn), .ref da, .ref ya, .int (iI pt), .int (iI md), .int (iI sx)]))] sz) [(mm, .inr (4, [.int (iI fl), .ref ta, .int (iI tz), .ref ka, .int (iI nn), .ref da, .ref ya, .int (iI pt), .int (iI md), .int (iI sx)]))]) (va_A [(mm, .inr (4, [.int (iI fl), .ref ta, .int (iI tz), .ref ka, .int (iI nn), .ref da, .ref ya, .int (iI pt), .int (iI md), .int (iI sx)]))] sz)) (va_A [(mm, .inr (4, [.int (iI fl), .ref ta, .int (iI tz), .ref ka, .int (iI nn), .ref da, .ref ya, .int (iI pt), .int (iI md), .int (iI sx)]))] sz) := by
  refine mv_ofW (cc := cX4_headSize) (maxL := 6) (ret := (some .int)) (by decide) rfl ?_
  intro p e s m args below meth c s₁ B hml hv
  obtain ⟨rfl, hsz, hP, hK, hD0⟩ := hv
  have hx := B.exec
  have hb := B.bytes
  have hr := B.returns
  have hT : ∀ w ∈ wT, w.before _ s = true := fun w h => atoms_spec (ws := wsX4_headSize) B.pre w (List.mem_cons_of_mem _ h)
  have hown : s.vm.findClass RX4 = some m.cls := findClass_of_methodNamed B.named
  have hlocks := B.notSynchronized
  subst hsz
  have hD := hD0.self (sz := s.heap.size)
  generalize hAe : va_A [(mm, .inr (4, [.int (iI fl), .ref ta, .int (iI tz), .ref ka, .int (iI nn), .ref da, .ref ya, .int (iI pt), .int (iI md), .int (iI sx)]))] s.heap.size = A at hD ⊢
  have hA : ∀ q : Nat, s.heap.size ≤ q → A q := fun q h => by rw [← hAe]; exact Or.inr h
  have hS : va_S A s.heap s.heap [] := va_S.rf
  have hP : va_P (dC, dI) vwCl [(mm, .inr (4, [.int (iI fl), .ref ta, .int (iI tz), .ref ka, .int (iI nn), .ref da, .ref ya, .int (iI pt), .int (iI md), .int (iI sx)]))] s.heap := hP
  have hl := lv_entry ([.ref mm, .int (iI y), .int (iI i)]) (n := 6) (Nat.le_of_ble_eq_true rfl)
  rw [lg_entry_eq]
  generalize (lg_sl ([.ref mm, .int (iI y), .int (iI i)]) ++ List.replicate (6 - (lg_sl ([.ref mm, .int (iI y), .int (iI i)])).length) Slot.unset).toArray = ls at hl ⊢
  have hl : lv_has ls 6 [(0, .ref mm), (1, .int (iI y)), (2, .int (iI i))] := hl
  refine mv_nameQ (fun Q9 hQ9 => ?_)
  have J32 : ∀ (fu : Nat) (g : Int) (H : Heap) (locs : List Loc) (ls : Array Slot) (kc ks : Nat), (0 < (fu : Int)) → (g = 1 + idLen y ∧ 2 ≤ g ∧ g ≤ 7) → (kc = 0 ∧ ks = 0) → va_K (dC, dI) vwCl [] s → va_P (dC, dI) vwCl [(mm, .inr (4, [.int (iI fl), .ref ta, .int (iI tz), .ref ka, .int (iI nn), .ref da, .ref ya, .int (iI pt), .int (iI md), .int (iI sx)]))] H → va_D A [(mm, .inr (4, [.int (iI fl), .ref ta, .int (iI tz), .ref ka, .int (iI nn), .ref da, .ref ya, .int (iI pt), .int (iI md), .int (iI sx)]))] → va_S A s.heap H locs → lv_has ls 6 [(0, .ref mm), (1, .int (iI y)), (2, .int (iI i)), (3, .int (iI g))] → W p l e ({ frames := 1, cells := 0, slots := 0, locals := 60 }) s m ([.ref mm, .int (iI y), .int (iI i)] : List Value).toArray below meth c H locs kc ks Q9 (F0 m 32 ls []) := by
    intro fu
    induction fu with
    | zero =>
      intro g H locs ls kc ks hfu hg hkc hK hP hD hS hl
      exfalso
      omega
    | succ fu ih =>
      intro g H locs ls kc ks hfu hg hkc hK hP hD hS hl
      refine lv_iload_n hx hb dX4_headSize_32 rfl (lv_at hl 2 rfl) ?_
      refine lv_bipush (v := iI 127) hx hb dX4_headSize_33 (by decide +kernel) ?_
      refine li_icmp_le (tgt := 59) hx hb (by omega) (by omega) dX4_headSize_35 (by decide) (fun c1 => ?_) (fun c1 => ?_)
      · skip
        refine lv_iload_n hx hb dX4_headSize_59 rfl (lv_at hl 3 rfl) ?_
        subst hQ9
        have hP9 := hP.sub (ws' := [(mm, .inr (4, [.int (iI fl), .ref ta, .int (iI tz), .ref ka, .int (iI nn), .ref da, .ref ya, .int (iI pt), .int (iI md), .int (iI sx)]))]) [0] rfl
        have hD9 := hD.sub (ws' := [(mm, .inr (4, [.int (iI fl), .ref ta, .int (iI tz), .ref ka, .int (iI nn), .ref da, .ref ya, .int (iI pt), .int (iI md), .int (iI sx)]))]) [0] (by decide) rfl
        have hK9 := hK.sub (tys' := []) [] rfl
        exact mv_iret hx hb hr hlocks (fun tS ht hW => ⟨⟨_, (g), rfl, ⟨rfl, by unfold lnLen; (repeat' split) <;> omega, by omega, by omega⟩, by rw [ht]; exact hP9, va_K.moved hW.alike hK9, hD9⟩, hS.F ht⟩) hS.2.2 dX4_headSize_60
      · skip
        refine lv_iload_n hx hb dX4_headSize_38 rfl (lv_at hl 2 rfl) ?_
        refine lv_istore (lv' := [(4, .int (iI i)), (0, .ref mm), (1, .int (iI y)), (2, .int (iI i)), (3, .int (iI g))]) hx hb dX4_headSize_39 hl (by decide) rfl (fun ls hl => ?_)
        refine lv_iload hx hb dX4_headSize_41 (lv_at hl 0 rfl) ?_
        refine li_if_le (tgt := 59) hx hb (by omega) dX4_headSize_43 (by decide) (fun c2 => absurd c2 (by omega)) (fun c2 => ?_)
        obtain ⟨z3, ez3⟩ : ∃ y : Int, y = g + 1 := ⟨_, rfl⟩
        refine lv_iinc (v := iI z3) (lv' := [(3, .int (iI z3)), (4, .int (iI i)), (0, .ref mm), (1, .int (iI y)), (2, .int (iI i))]) hx hb dX4_headSize_46 hl (k := 4) rfl (by rw [ez3]; exact iI_add _ _) (by decide) rfl (fun ls hl => ?_)
        refine lv_iload hx hb dX4_headSize_49 (lv_at hl 1 rfl) ?_
        refine lv_bipush (v := iI 8) hx hb dX4_headSize_51 (by decide +kernel) ?_
        refine li_ishrK hx hb 256 (by decide) (by omega) (by omega) dX4_headSize_53 ?_
        refine li_nm (fun z4 ez4 => ?_)
        refine lv_istore (lv' := [(4, .int (iI z4)), (3, .int (iI z3)), (0, .ref mm), (1, .int (iI y)), (2, .int (iI i))]) hx hb dX4_headSize_54 hl (by decide) rfl (fun ls hl => ?_)
        refine lv_goto (tgt := 41) hx hb dX4_headSize_56 (by decide) ?_
        refine lv_iload hx hb dX4_headSize_41 (lv_at hl 0 rfl) ?_
        refine li_if_le (tgt := 59) hx hb (by omega) dX4_headSize_43 (by decide) (fun c5 => ?_) (fun c5 => ?_)
        · skip
          refine lv_iload_n hx hb dX4_headSize_59 rfl (lv_at hl 1 rfl) ?_
          subst hQ9
          have hP9 := hP.sub (ws' := [(mm, .inr (4, [.int (iI fl), .ref ta, .int (iI tz), .ref ka, .int (iI nn), .ref da, .ref ya, .int (iI pt), .int (iI md), .int (iI sx)]))]) [0] rfl
          have hD9 := hD.sub (ws' := [(mm, .inr (4, [.int (iI fl), .ref ta, .int (iI tz), .ref ka, .int (iI nn), .ref da, .ref ya, .int (iI pt), .int (iI md), .int (iI sx)]))]) [0] (by decide) rfl
          have hK9 := hK.sub (tys' := []) [] rfl
          exact mv_iret hx hb hr hlocks (fun tS ht hW => ⟨⟨_, (z3), rfl, ⟨rfl, by unfold lnLen; (repeat' split) <;> omega, by omega, by omega⟩, by rw [ht]; exact hP9, va_K.moved hW.alike hK9, hD9⟩, hS.F ht⟩) hS.2.2 dX4_headSize_60
        · skip
          obtain ⟨z6, ez6⟩ : ∃ y : Int, y = z3 + 1 := ⟨_, rfl⟩
          refine lv_iinc (v := iI z6) (lv' := [(3, .int (iI z6)), (4, .int (iI z4)), (0, .ref mm), (1, .int (iI y)), (2, .int (iI i))]) hx hb dX4_headSize_46 hl (k := 1) rfl (by rw [ez6]; exact iI_add _ _) (by decide) rfl (fun ls hl => ?_)
          refine lv_iload hx hb dX4_headSize_49 (lv_at hl 1 rfl) ?_
          refine lv_bipush (v := iI 8) hx hb dX4_headSize_51 (by decide +kernel) ?_
          refine li_ishrK hx hb 256 (by decide) (by omega) (by omega) dX4_headSize_53 ?_
          refine li_nm (fun z7 ez7 => ?_)
          refine lv_istore (lv' := [(4, .int (iI z7)), (3, .int (iI z6)), (0, .ref mm), (1, .int (iI y)), (2, .int (iI i))]) hx hb dX4_headSize_54 hl (by decide) rfl (fun ls hl => ?_)
          refine lv_goto (tgt := 41) hx hb dX4_headSize_56 (by decide) ?_
          refine lv_iload hx hb dX4_headSize_41 (lv_at hl 0 rfl) ?_
          refine li_if_le (tgt := 59) hx hb (by omega) dX4_headSize_43 (by decide) (fun c8 => ?_) (fun c8 => absurd c8 (by omega))
          refine lv_iload_n hx hb dX4_headSize_59 rfl (lv_at hl 1 rfl) ?_
          subst hQ9
          have hP9 := hP.sub (ws' := [(mm, .inr (4, [.int (iI fl), .ref ta, .int (iI tz), .ref ka, .int (iI nn), .ref da, .ref ya, .int (iI pt), .int (iI md), .int (iI sx)]))]) [0] rfl
          have hD9 := hD.sub (ws' := [(mm, .inr (4, [.int (iI fl), .ref ta, .int (iI tz), .ref ka, .int (iI nn), .ref da, .ref ya, .int (iI pt), .int (iI md), .int (iI sx)]))]) [0] (by decide) rfl
          have hK9 := hK.sub (tys' := []) [] rfl
          exact mv_iret hx hb hr hlocks (fun tS ht hW => ⟨⟨_, (z6), rfl, ⟨rfl, by unfold lnLen; (repeat' split) <;> omega, by omega, by omega⟩, by rw [ht]; exact hP9, va_K.moved hW.alike hK9, hD9⟩, hS.F ht⟩) hS.2.2 dX4_headSize_60
  refine lv_iconst (v := iI 2) hx hb dX4_headSize_0 rfl ?_
  refine lv_istore_n (lv' := [(3, .int (iI 2)), (0, .ref mm), (1, .int (iI y)), (2, .int (iI i))]) hx hb dX4_headSize_1 rfl hl (by decide) rfl (fun ls hl => ?_)
  refine lv_iload_n hx hb dX4_headSize_2 rfl (lv_at hl 2 rfl) ?_
  refine lv_bipush (v := iI 30) hx hb dX4_headSize_3 (by decide +kernel) ?_
  refine li_icmp_le (tgt := 32) hx hb (by omega) (by omega) dX4_headSize_5 (by decide) (fun c9 => ?_) (fun c9 => ?_)
  · skip
    exact J32 (1) 2 _ _ _ _ _ (by omega) (⟨by unfold idLen; (repeat' split) <;> omega, by omega, by omega⟩) (by omega) (hK.sub [] rfl) (hP.sub [0] rfl) (hD.sub [0] (by decide) rfl) hS (lv_sub hl [1, 2, 3, 0] rfl)
  · skip
    refine lv_iload_n hx hb dX4_headSize_8 rfl (lv_at hl 2 rfl) ?_
    refine li_i2l hx hb (by omega) dX4_headSize_9 ?_
    refine lv_lstore (lv' := [(4, .long (lI y)), (3, .int (iI 2)), (0, .ref mm), (1, .int (iI y)), (2, .int (iI i))]) hx hb dX4_headSize_10 hl (by decide) rfl (fun ls hl => ?_)
    refine lv_lload hx hb dX4_headSize_12 (lv_at hl 0 rfl) ?_
    refine lv_lconst (v := lI 0) hx hb dX4_headSize_14 (by decide +kernel) ?_
    refine li_lcmp_le (tgt := 32) hx hb (by omega) (by omega) dX4_headSize_15 dX4_headSize_16 (by decide) (fun c10 => absurd c10 (by omega)) (fun c10 => ?_)
    refine lv_iinc (v := iI 3) (lv' := [(3, .int (iI 3)), (4, .long (lI y)), (0, .ref mm), (1, .int (iI y)), (2, .int (iI i))]) hx hb dX4_headSize_19 hl (k := 1) rfl (by decide +kernel) (by decide) rfl (fun ls hl => ?_)
    refine lv_lload hx hb dX4_headSize_22 (lv_at hl 1 rfl) ?_
    refine lv_bipush (v := iI 7) hx hb dX4_headSize_24 (by decide +kernel) ?_
    refine li_lshrK hx hb 128 (by decide) (by omega) (by omega) dX4_headSize_26 ?_
    refine li_nml (fun z11 ez11 => ?_)
    refine lv_lstore (lv' := [(4, .long (lI z11)), (3, .int (iI 3)), (0, .ref mm), (1, .int (iI y)), (2, .int (iI i))]) hx hb dX4_headSize_27 hl (by decide) rfl (fun ls hl => ?_)
    refine lv_goto (tgt := 12) hx hb dX4_headSize_29 (by decide) ?_
    refine lv_lload hx hb dX4_headSize_12 (lv_at hl 0 rfl) ?_
    refine lv_lconst (v := lI 0) hx hb dX4_headSize_14 (by decide +kernel) ?_
    refine li_lcmp_le (tgt := 32) hx hb (by omega) (by omega) dX4_headSize_15 dX4_headSize_16 (by decide) (fun c12 => ?_) (fun c12 => ?_)
    · skip
      exact J32 (1) 3 _ _ _ _ _ (by omega) (⟨by unfold idLen; (repeat' split) <;> omega, by omega, by omega⟩) (by omega) (hK.sub [] rfl) (hP.sub [0] rfl) (hD.sub [0] (by decide) rfl) hS (lv_sub hl [2, 3, 4, 1] rfl)
    · skip
      refine lv_iinc (v := iI 4) (lv' := [(3, .int (iI 4)), (4, .long (lI z11)), (0, .ref mm), (1, .int (iI y)), (2, .int (iI i))]) hx hb dX4_headSize_19 hl (k := 1) rfl (by decide +kernel) (by decide) rfl (fun ls hl => ?_)
      refine lv_lload hx hb dX4_headSize_22 (lv_at hl 1 rfl) ?_
      refine lv_bipush (v := iI 7) hx hb dX4_headSize_24 (by decide +kernel) ?_
      refine li_lshrK hx hb 128 (by decide) (by omega) (by omega) dX4_headSize_26 ?_
      refine li_nml (fun z13 ez13 => ?_)
      refine lv_lstore (lv' := [(4, .long (lI z13)), (3, .int (iI 4)), (0, .ref mm), (1, .int (iI y)), (2, .int (iI i))]) hx hb dX4_headSize_27 hl (by decide) rfl (fun ls hl => ?_)
      refine lv_goto (tgt := 12) hx hb dX4_headSize_29 (by decide) ?_
      refine lv_lload hx hb dX4_headSize_12 (lv_at hl 0 rfl) ?_
      refine lv_lconst (v := lI 0) hx hb dX4_headSize_14 (by decide +kernel) ?_
      refine li_lcmp_le (tgt := 32) hx hb (by omega) (by omega) dX4_headSize_15 dX4_headSize_16 (by decide) (fun c14 => ?_) (fun c14 => ?_)
      · skip
        exact J32 (1) 4 _ _ _ _ _ (by omega) (⟨by unfold idLen; (repeat' split) <;> omega, by omega, by omega⟩) (by omega) (hK.sub [] rfl) (hP.sub [0] rfl) (hD.sub [0] (by decide) rfl) hS (lv_sub hl [2, 3, 4, 1] rfl)
      · skip
        refine lv_iinc (v := iI 5) (lv' := [(3, .int (iI 5)), (4, .long (lI z13)), (0, .ref mm), (1, .int (iI y)), (2, .int (iI i))]) hx hb dX4_headSize_19 hl (k := 1) rfl (by decide +kernel) (by decide) rfl (fun ls hl => ?_)
        refine lv_lload hx hb dX4_headSize_22 (lv_at hl 1 rfl) ?_
        refine lv_bipush (v := iI 7) hx hb dX4_headSize_24 (by decide +kernel) ?_
        refine li_lshrK hx hb 128 (by decide) (by omega) (by omega) dX4_headSize_26 ?_
        refine li_nml (fun z15 ez15 => ?_)
        refine lv_lstore (lv' := [(4, .long (lI z15)), (3, .int (iI 5)), (0, .ref mm), (1, .int (iI y)), (2, .int (iI i))]) hx hb dX4_headSize_27 hl (by decide) rfl (fun ls hl => ?_)
        refine lv_goto (tgt := 12) hx hb dX4_headSize_29 (by decide) ?_
        refine lv_lload hx hb dX4_headSize_12 (lv_at hl 0 rfl) ?_
        refine lv_lconst (v := lI 0) hx hb dX4_headSize_14 (by decide +kernel) ?_
        refine li_lcmp_le (tgt := 32) hx hb (by omega) (by omega) dX4_headSize_15 dX4_headSize_16 (by decide) (fun c16 => ?_) (fun c16 => ?_)
        · skip
          exact J32 (1) 5 _ _ _ _ _ (by omega) (⟨by unfold idLen; (repeat' split) <;> omega, by omega, by omega⟩) (by omega) (hK.sub [] rfl) (hP.sub [0] rfl) (hD.sub [0] (by decide) rfl) hS (lv_sub hl [2, 3, 4, 1] rfl)
        · skip
          refine lv_iinc (v := iI 6) (lv' := [(3, .int (iI 6)), (4, .long (lI z15)), (0, .ref mm), (1, .int (iI y)), (2, .int (iI i))]) hx hb dX4_headSize_19 hl (k := 1) rfl (by decide +kernel) (by decide) rfl (fun ls hl => ?_)
          refine lv_lload hx hb dX4_headSize_22 (lv_at hl 1 rfl) ?_
          refine lv_bipush (v := iI 7) hx hb dX4_headSize_24 (by decide +kernel) ?_
          refine li_lshrK hx hb 128 (by decide) (by omega) (by omega) dX4_headSize_26 ?_
          refine li_nml (fun z17 ez17 => ?_)
          refine lv_lstore (lv' := [(4, .long (lI z17)), (3, .int (iI 6)), (0, .ref mm), (1, .int (iI y)), (2, .int (iI i))]) hx hb dX4_headSize_27 hl (by decide) rfl (fun ls hl => ?_)
          refine lv_goto (tgt := 12) hx hb dX4_headSize_29 (by decide) ?_
          refine lv_lload hx hb dX4_headSize_12 (lv_at hl 0 rfl) ?_
          refine lv_lconst (v := lI 0) hx hb dX4_headSize_14 (by decide +kernel) ?_
          refine li_lcmp_le (tgt := 32) hx hb (by omega) (by omega) dX4_headSize_15 dX4_headSize_16 (by decide) (fun c18 => ?_) (fun c18 => ?_)
          · skip
            exact J32 (1) 6 _ _ _ _ _ (by omega) (⟨by unfold idLen; (repeat' split) <;> omega, by omega, by omega⟩) (by omega) (hK.sub [] rfl) (hP.sub [0] rfl) (hD.sub [0] (by decide) rfl) hS (lv_sub hl [2, 3, 4, 1] rfl)
          · skip
            refine lv_iinc (v := iI 7) (lv' := [(3, .int (iI 7)), (4, .long (lI z17)), (0, .ref mm), (1, .int (iI y)), (2, .int (iI i))]) hx hb dX4_headSize_19 hl (k := 1) rfl (by decide +kernel) (by decide) rfl (fun ls hl => ?_)
            refine lv_lload hx hb dX4_headSize_22 (lv_at hl 1 rfl) ?_
            refine lv_bipush (v := iI 7) hx hb dX4_headSize_24 (by decide +kernel) ?_
            refine li_lshrK hx hb 128 (by decide) (by omega) (by omega) dX4_headSize_26 ?_
            refine li_nml (fun z19 ez19 => ?_)
            refine lv_lstore (lv' := [(4, .long (lI z19)), (3, .int (iI 7)), (0, .ref mm), (1, .int (iI y)), (2, .int (iI i))]) hx hb dX4_headSize_27 hl (by decide) rfl (fun ls hl => ?_)
            refine lv_goto (tgt := 12) hx hb dX4_headSize_29 (by decide) ?_
            refine lv_lload hx hb dX4_headSize_12 (lv_at hl 0 rfl) ?_
            refine lv_lconst (v := lI 0) hx hb dX4_headSize_14 (by decide +kernel) ?_
            refine li_lcmp_le (tgt := 32) hx hb (by omega) (by omega) dX4_headSize_15 dX4_headSize_16 (by decide) (fun c20 => ?_) (fun c20 => absurd c20 (by omega))
            exact J32 (1) 7 _ _ _ _ _ (by omega) (⟨by unfold idLen; (repeat' split) <;> omega, by omega, by omega⟩) (by omega) (hK.sub [] rfl) (hP.sub [0] rfl) (hD.sub [0] (by decide) rfl) hS (lv_sub hl [2, 3, 4, 1] rfl)
