set_option maxHeartbeats 4000000 in
set_option maxRecDepth 100000 in
theorem c_B_new (l : Launch) (dC : Nat → ClassId) (dI : Nat → Nat → Nat) (sz : Nat) (b : Nat) : mv_Met l yX0_init wsX0_init ({ frames := 1, cells := 1, slots := 64, locals := 60 }) (va_Pc [.ref b] (fun U => U.heap.size = sz ∧ va_P (dC, dI) vwCl [(b, .inr (0, [.null, .int (iI 0)]))] U.heap ∧ va_K (dC, dI) vwCl [] U ∧ va_D (fun _ => True) [(b, .inr (0, [.null, .int (iI 0)]))])) (mv_Q (fun (v : Option Value) (u : Nat × ClassId) (k n : Nat) => match u with | (r', cA') => v = none ∧ k = 1 ∧ n = 64) (fun (u : Nat × ClassId) (tS : State) => match u with | (r', cA') => va_P (dC, dI) vwCl [(b, .inr (0, [.ref r', .int (iI 0)])), (r', .inl (cA', 64, .inl (fun j => bI ((fun _ => (0 : Int)) j))))] tS.heap ∧ va_K (dC, dI) vwCl [(cA', .byte)] tS ∧ va_D (va_A [(b, .inr (0, [.null, .int (iI 0)]))] sz) [(b, .inr (0, [.ref r', .int (iI 0)])), (r', .inl (cA', 64, .inl (fun j => bI ((fun _ => (0 : Int)) j))))]) (va_A [(b, .inr (0, [.null, .int (iI 0)]))] sz)) (va_A [(b, .inr (0, [.null, .int (iI 0)]))] sz) := by
  refine mv_ofW (cc := cX0_init) (maxL := 1) (ret := none) (by decide) rfl ?_
  intro p e s m args below meth c s₁ B hml hv
  obtain ⟨rfl, hsz, hP, hK, hD0⟩ := hv
  have hx := B.exec
  have hb := B.bytes
  have hr := B.returns
  have hT : ∀ w ∈ wT, w.before _ s = true := fun w h => atoms_spec (ws := wsX0_init) B.pre w (List.mem_cons_of_mem _ h)
  have hown : s.vm.findClass RX0 = some m.cls := findClass_of_methodNamed B.named
  have hlocks := B.notSynchronized
  have hin : meth.name = "<init>" := (name_of_methodNamed B.named B.method).1
  subst hsz
  have hD := hD0.self (sz := s.heap.size)
  generalize hAe : va_A [(b, .inr (0, [.null, .int (iI 0)]))] s.heap.size = A at hD ⊢
  have hA : ∀ q : Nat, s.heap.size ≤ q → A q := fun q h => by rw [← hAe]; exact Or.inr h
  have hS : va_S A s.heap s.heap [] := va_S.rf
  have hP : va_P (dC, dI) vwCl [(b, .inr (0, [.null, .int (iI 0)]))] s.heap := hP
  have hl := lv_entry ([.ref b]) (n := 1) (Nat.le_of_ble_eq_true rfl)
  rw [lg_entry_eq]
  generalize (lg_sl ([.ref b]) ++ List.replicate (1 - (lg_sl ([.ref b])).length) Slot.unset).toArray = ls at hl ⊢
  have hl : lv_has ls 1 [(0, .ref b)] := hl
  refine lv_aload_n hx hb dX0_init_0 rfl (lv_at hl 0 rfl) ?_
  refine W.objInit hx hb hown (hT _ wd55) (hT _ wd48) (hT _ wd49) rfl (by rw [hml]; exact hl.1) rfl dX0_init_1 (Nat.le_of_ble_eq_true rfl) (Nat.le_of_ble_eq_true rfl) ?_
  refine W.eq (g2 := F0 m 4 ls []) rfl ?_
  refine lv_aload_n hx hb dX0_init_4 rfl (lv_at hl 0 rfl) ?_
  refine lv_bipush (v := iI 64) hx hb dX0_init_5 (by decide +kernel) ?_
  refine va_newa (atype := .byte) (ty := .byte) (N' := 64) (a0 := (64, .inl (fun j => bI ((fun _ => (0 : Int)) j)))) hx hb (hT _ wd63) rfl hK hP hD hS hA (fun cA => rfl) (by rw [← iI_0, iI_lt (by omega) (by omega)]; omega) (by rw [iI_clamp (by omega)]; try omega) (by show _ * _ ≤ _; simp only [componentBytes]; omega) (by show 0 + 1 ≤ 1; omega) (by show 0 + 64 ≤ 64; omega) dX0_init_7 (fun q1 cA2 H hK hP hD hS => ?_)
  have hP : va_P (dC, dI) vwCl [(b, .inr (0, [.null, .int (iI 0)])), (q1, .inl (cA2, 64, .inl (fun j => bI ((fun _ => (0 : Int)) j))))] H := hP
  have hD : va_D A [(b, .inr (0, [.null, .int (iI 0)])), (q1, .inl (cA2, 64, .inl (fun j => bI ((fun _ => (0 : Int)) j))))] := hD
  have hK : va_K (dC, dI) vwCl [(cA2, .byte)] s := hK
  refine va_put (D := (dC, dI)) (ci := 0) (v := .ref q1) (ty := .array .byte) (C := RX0) (T := TX0) (N := 2) hx hb hT inX0 tyX0 tyX0_ok nX0 hown hK hP hD hS 0 rfl rfl 0 (by decide) (hT _ wd56) (fun _ h9 => h9) rfl (by decide +kernel) rfl rfl (Nat.le_of_ble_eq_true rfl) dX0_init_9 (fun H locs hP hD hS => ?_)
  have hP : va_P (dC, dI) vwCl [(b, .inr (0, [.ref q1, .int (iI 0)])), (q1, .inl (cA2, 64, .inl (fun j => bI ((fun _ => (0 : Int)) j))))] H := hP
  have hD : va_D A [(b, .inr (0, [.ref q1, .int (iI 0)])), (q1, .inl (cA2, 64, .inl (fun j => bI ((fun _ => (0 : Int)) j))))] := hD
  refine lv_aload_n hx hb dX0_init_12 rfl (lv_at hl 0 rfl) ?_
  refine lv_iconst (v := iI 0) hx hb dX0_init_13 rfl ?_
  refine va_put (D := (dC, dI)) (ci := 0) (v := .int (iI 0)) (ty := .int) (C := RX0) (T := TX0) (N := 2) hx hb hT inX0 tyX0 tyX0_ok nX0 hown hK hP hD hS 0 rfl rfl 1 (by decide) (hT _ wd57) (fun _ h9 => h9) rfl (by decide +kernel) rfl rfl (Nat.le_of_ble_eq_true rfl) dX0_init_14 (fun H locs hP hD hS => ?_)
  have hP : va_P (dC, dI) vwCl [(b, .inr (0, [.ref q1, .int (iI 0)])), (q1, .inl (cA2, 64, .inl (fun j => bI ((fun _ => (0 : Int)) j))))] H := hP
  have hD : va_D A [(b, .inr (0, [.ref q1, .int (iI 0)])), (q1, .inl (cA2, 64, .inl (fun j => bI ((fun _ => (0 : Int)) j))))] := hD
  have hP9 := hP.sub (ws' := [(b, .inr (0, [.ref q1, .int (iI 0)])), (q1, .inl (cA2, 64, .inl (fun j => bI ((fun _ => (0 : Int)) j))))]) [0, 1] rfl
  have hD9 := hD.sub (ws' := [(b, .inr (0, [.ref q1, .int (iI 0)])), (q1, .inl (cA2, 64, .inl (fun j => bI ((fun _ => (0 : Int)) j))))]) [0, 1] (by decide) rfl
  have hK9 := hK.sub (tys' := [(cA2, .byte)]) [0] rfl
  exact mv_vret hx hb hr hlocks (fun tS ht hW => ⟨⟨_, (q1, cA2), rfl, ⟨rfl, rfl, rfl⟩, by rw [ht]; exact hP9, va_K.moved hW.alike hK9, hD9⟩, hS.F ht⟩) hS.2.2 dX0_init_17
set_option maxHeartbeats 4000000 in
set_option maxRecDepth 100000 in
theorem c_H_new (l : Launch) (dC : Nat → ClassId) (dI : Nat → Nat → Nat) (sz : Nat) (h : Nat) : mv_Met l yX1_init wsX1_init ({ frames := 1, cells := 0, slots := 0, locals := 60 }) (va_Pc [.ref h] (fun U => U.heap.size = sz ∧ va_P (dC, dI) vwCl [(h, .inr (1, [.int (iI 0), .int (iI 0), .int (iI 0), .int (iI 0), .int (iI 0), .int (iI 0)]))] U.heap ∧ va_K (dC, dI) vwCl [] U ∧ va_D (fun _ => True) [(h, .inr (1, [.int (iI 0), .int (iI 0), .int (iI 0), .int (iI 0), .int (iI 0), .int (iI 0)]))])) (mv_Q (fun (v : Option Value) (_ : Unit) (k n : Nat) => v = none ∧ k = 0 ∧ n = 0) (fun (_ : Unit) (tS : State) => va_P (dC, dI) vwCl [(h, .inr (1, [.int (iI 0), .int (iI 0), .int (iI 0), .int (iI 0), .int (iI 0), .int (iI 0)]))] tS.heap ∧ va_K (dC, dI) vwCl [] tS ∧ va_D (va_A [(h, .inr (1, [.int (iI 0), .int (iI 0), .int (iI 0), .int (iI 0), .int (iI 0), .int (iI 0)]))] sz) [(h, .inr (1, [.int (iI 0), .int (iI 0), .int (iI 0), .int (iI 0), .int (iI 0), .int (iI 0)]))]) (va_A [(h, .inr (1, [.int (iI 0), .int (iI 0), .int (iI 0), .int (iI 0), .int (iI 0), .int (iI 0)]))] sz)) (va_A [(h, .inr (1, [.int (iI 0), .int (iI 0), .int (iI 0), .int (iI 0), .int (iI 0), .int (iI 0)]))] sz) := by
  refine mv_ofW (cc := cX1_init) (maxL := 1) (ret := none) (by decide) rfl ?_
  intro p e s m args below meth c s₁ B hml hv
  obtain ⟨rfl, hsz, hP, hK, hD0⟩ := hv
  have hx := B.exec
  have hb := B.bytes
  have hr := B.returns
  have hT : ∀ w ∈ wT, w.before _ s = true := fun w h => atoms_spec (ws := wsX1_init) B.pre w (List.mem_cons_of_mem _ h)
  have hown : s.vm.findClass RX1 = some m.cls := findClass_of_methodNamed B.named
  have hlocks := B.notSynchronized
  have hin : meth.name = "<init>" := (name_of_methodNamed B.named B.method).1
  subst hsz
  have hD := hD0.self (sz := s.heap.size)
  generalize hAe : va_A [(h, .inr (1, [.int (iI 0), .int (iI 0), .int (iI 0), .int (iI 0), .int (iI 0), .int (iI 0)]))] s.heap.size = A at hD ⊢
  have hA : ∀ q : Nat, s.heap.size ≤ q → A q := fun q h => by rw [← hAe]; exact Or.inr h
  have hS : va_S A s.heap s.heap [] := va_S.rf
  have hP : va_P (dC, dI) vwCl [(h, .inr (1, [.int (iI 0), .int (iI 0), .int (iI 0), .int (iI 0), .int (iI 0), .int (iI 0)]))] s.heap := hP
  have hl := lv_entry ([.ref h]) (n := 1) (Nat.le_of_ble_eq_true rfl)
  rw [lg_entry_eq]
  generalize (lg_sl ([.ref h]) ++ List.replicate (1 - (lg_sl ([.ref h])).length) Slot.unset).toArray = ls at hl ⊢
  have hl : lv_has ls 1 [(0, .ref h)] := hl
  refine lv_aload_n hx hb dX1_init_0 rfl (lv_at hl 0 rfl) ?_
  refine W.objInit hx hb hown (hT _ wd77) (hT _ wd48) (hT _ wd49) rfl (by rw [hml]; exact hl.1) rfl dX1_init_1 (Nat.le_of_ble_eq_true rfl) (Nat.le_of_ble_eq_true rfl) ?_
  refine W.eq (g2 := F0 m 4 ls []) rfl ?_
  refine lv_aload_n hx hb dX1_init_4 rfl (lv_at hl 0 rfl) ?_
  refine lv_iconst (v := iI 0) hx hb dX1_init_5 rfl ?_
  refine va_put (D := (dC, dI)) (ci := 1) (v := .int (iI 0)) (ty := .int) (C := RX1) (T := TX1) (N := 6) hx hb hT inX1 tyX1 tyX1_ok nX1 hown hK hP hD hS 0 rfl rfl 0 (by decide) (hT _ wd78) (fun _ h9 => h9) rfl (by decide +kernel) rfl rfl (Nat.le_of_ble_eq_true rfl) dX1_init_6 (fun H locs hP hD hS => ?_)
  have hP : va_P (dC, dI) vwCl [(h, .inr (1, [.int (iI 0), .int (iI 0), .int (iI 0), .int (iI 0), .int (iI 0), .int (iI 0)]))] H := hP
  have hD : va_D A [(h, .inr (1, [.int (iI 0), .int (iI 0), .int (iI 0), .int (iI 0), .int (iI 0), .int (iI 0)]))] := hD
  refine lv_aload_n hx hb dX1_init_9 rfl (lv_at hl 0 rfl) ?_
  refine lv_iconst (v := iI 0) hx hb dX1_init_10 rfl ?_
  refine va_put (D := (dC, dI)) (ci := 1) (v := .int (iI 0)) (ty := .boolean) (C := RX1) (T := TX1) (N := 6) hx hb hT inX1 tyX1 tyX1_ok nX1 hown hK hP hD hS 0 rfl rfl 1 (by decide) (hT _ wd80) (fun _ h9 => h9) rfl (by decide +kernel) (zb_n (by omega)) (zb_f (by omega)) (Nat.le_of_ble_eq_true rfl) dX1_init_11 (fun H locs hP hD hS => ?_)
  have hP : va_P (dC, dI) vwCl [(h, .inr (1, [.int (iI 0), .int (iI 0), .int (iI 0), .int (iI 0), .int (iI 0), .int (iI 0)]))] H := hP
  have hD : va_D A [(h, .inr (1, [.int (iI 0), .int (iI 0), .int (iI 0), .int (iI 0), .int (iI 0), .int (iI 0)]))] := hD
  refine lv_aload_n hx hb dX1_init_14 rfl (lv_at hl 0 rfl) ?_
  refine lv_iconst (v := iI 0) hx hb dX1_init_15 rfl ?_
  refine va_put (D := (dC, dI)) (ci := 1) (v := .int (iI 0)) (ty := .int) (C := RX1) (T := TX1) (N := 6) hx hb hT inX1 tyX1 tyX1_ok nX1 hown hK hP hD hS 0 rfl rfl 2 (by decide) (hT _ wd82) (fun _ h9 => h9) rfl (by decide +kernel) rfl rfl (Nat.le_of_ble_eq_true rfl) dX1_init_16 (fun H locs hP hD hS => ?_)
  have hP : va_P (dC, dI) vwCl [(h, .inr (1, [.int (iI 0), .int (iI 0), .int (iI 0), .int (iI 0), .int (iI 0), .int (iI 0)]))] H := hP
  have hD : va_D A [(h, .inr (1, [.int (iI 0), .int (iI 0), .int (iI 0), .int (iI 0), .int (iI 0), .int (iI 0)]))] := hD
  refine lv_aload_n hx hb dX1_init_19 rfl (lv_at hl 0 rfl) ?_
  refine lv_iconst (v := iI 0) hx hb dX1_init_20 rfl ?_
  refine va_put (D := (dC, dI)) (ci := 1) (v := .int (iI 0)) (ty := .boolean) (C := RX1) (T := TX1) (N := 6) hx hb hT inX1 tyX1 tyX1_ok nX1 hown hK hP hD hS 0 rfl rfl 3 (by decide) (hT _ wd84) (fun _ h9 => h9) rfl (by decide +kernel) (zb_n (by omega)) (zb_f (by omega)) (Nat.le_of_ble_eq_true rfl) dX1_init_21 (fun H locs hP hD hS => ?_)
  have hP : va_P (dC, dI) vwCl [(h, .inr (1, [.int (iI 0), .int (iI 0), .int (iI 0), .int (iI 0), .int (iI 0), .int (iI 0)]))] H := hP
  have hD : va_D A [(h, .inr (1, [.int (iI 0), .int (iI 0), .int (iI 0), .int (iI 0), .int (iI 0), .int (iI 0)]))] := hD
  refine lv_aload_n hx hb dX1_init_24 rfl (lv_at hl 0 rfl) ?_
  refine lv_iconst (v := iI 0) hx hb dX1_init_25 rfl ?_
  refine va_put (D := (dC, dI)) (ci := 1) (v := .int (iI 0)) (ty := .int) (C := RX1) (T := TX1) (N := 6) hx hb hT inX1 tyX1 tyX1_ok nX1 hown hK hP hD hS 0 rfl rfl 4 (by decide) (hT _ wd86) (fun _ h9 => h9) rfl (by decide +kernel) rfl rfl (Nat.le_of_ble_eq_true rfl) dX1_init_26 (fun H locs hP hD hS => ?_)
  have hP : va_P (dC, dI) vwCl [(h, .inr (1, [.int (iI 0), .int (iI 0), .int (iI 0), .int (iI 0), .int (iI 0), .int (iI 0)]))] H := hP
  have hD : va_D A [(h, .inr (1, [.int (iI 0), .int (iI 0), .int (iI 0), .int (iI 0), .int (iI 0), .int (iI 0)]))] := hD
  refine lv_aload_n hx hb dX1_init_29 rfl (lv_at hl 0 rfl) ?_
  refine lv_iconst (v := iI 0) hx hb dX1_init_30 rfl ?_
  refine va_put (D := (dC, dI)) (ci := 1) (v := .int (iI 0)) (ty := .int) (C := RX1) (T := TX1) (N := 6) hx hb hT inX1 tyX1 tyX1_ok nX1 hown hK hP hD hS 0 rfl rfl 5 (by decide) (hT _ wd88) (fun _ h9 => h9) rfl (by decide +kernel) rfl rfl (Nat.le_of_ble_eq_true rfl) dX1_init_31 (fun H locs hP hD hS => ?_)
  have hP : va_P (dC, dI) vwCl [(h, .inr (1, [.int (iI 0), .int (iI 0), .int (iI 0), .int (iI 0), .int (iI 0), .int (iI 0)]))] H := hP
  have hD : va_D A [(h, .inr (1, [.int (iI 0), .int (iI 0), .int (iI 0), .int (iI 0), .int (iI 0), .int (iI 0)]))] := hD
  have hP9 := hP.sub (ws' := [(h, .inr (1, [.int (iI 0), .int (iI 0), .int (iI 0), .int (iI 0), .int (iI 0), .int (iI 0)]))]) [0] rfl
  have hD9 := hD.sub (ws' := [(h, .inr (1, [.int (iI 0), .int (iI 0), .int (iI 0), .int (iI 0), .int (iI 0), .int (iI 0)]))]) [0] (by decide) rfl
  have hK9 := hK.sub (tys' := []) [] rfl
  exact mv_vret hx hb hr hlocks (fun tS ht hW => ⟨⟨_, (), rfl, ⟨rfl, rfl, rfl⟩, by rw [ht]; exact hP9, va_K.moved hW.alike hK9, hD9⟩, hS.F ht⟩) hS.2.2 dX1_init_34
set_option maxHeartbeats 4000000 in
set_option maxRecDepth 100000 in
theorem c_N_new (l : Launch) (dC : Nat → ClassId) (dI : Nat → Nat → Nat) (sz : Nat) (nd : Nat) : mv_Met l yX2_init wsX2_init ({ frames := 2, cells := 4, slots := 136, locals := 100 }) (va_Pc [.ref nd] (fun U => U.heap.size = sz ∧ va_P (dC, dI) vwCl [(nd, .inr (2, [.null, .null, .null, .int (iI 0), .int (iI 0)]))] U.heap ∧ va_K (dC, dI) vwCl [] U ∧ va_D (fun _ => True) [(nd, .inr (2, [.null, .null, .null, .int (iI 0), .int (iI 0)]))])) (mv_Q (fun (v : Option Value) (u : Nat × Nat × Nat × ClassId × Nat × ClassId) (k n : Nat) => match u with | (b', h', rw', cR', r', cA') => v = none ∧ k = 4 ∧ n = 136) (fun (u : Nat × Nat × Nat × ClassId × Nat × ClassId) (tS : State) => match u with | (b', h', rw', cR', r', cA') => va_P (dC, dI) vwCl [(nd, .inr (2, [.ref b', .ref h', .ref rw', .int (iI 0), .int (iI 0)])), (rw', .inl (cR', 64, .inl (fun j => iI ((fun _ => (0 : Int)) j)))), (h', .inr (1, [.int (iI 0), .int (iI 0), .int (iI 0), .int (iI 0), .int (iI 0), .int (iI 0)])), (b', .inr (0, [.ref r', .int (iI 0)])), (r', .inl (cA', 64, .inl (fun j => bI ((fun _ => (0 : Int)) j))))] tS.heap ∧ va_K (dC, dI) vwCl [(cR', .int), (cA', .byte)] tS ∧ va_D (va_A [(nd, .inr (2, [.null, .null, .null, .int (iI 0), .int (iI 0)]))] sz) [(nd, .inr (2, [.ref b', .ref h', .ref rw', .int (iI 0), .int (iI 0)])), (rw', .inl (cR', 64, .inl (fun j => iI ((fun _ => (0 : Int)) j)))), (h', .inr (1, [.int (iI 0), .int (iI 0), .int (iI 0), .int (iI 0), .int (iI 0), .int (iI 0)])), (b', .inr (0, [.ref r', .int (iI 0)])), (r', .inl (cA', 64, .inl (fun j => bI ((fun _ => (0 : Int)) j))))]) (va_A [(nd, .inr (2, [.null, .null, .null, .int (iI 0), .int (iI 0)]))] sz)) (va_A [(nd, .inr (2, [.null, .null, .null, .int (iI 0), .int (iI 0)]))] sz) := by
  refine mv_ofW (cc := cX2_init) (maxL := 1) (ret := none) (by decide) rfl ?_
  intro p e s m args below meth c s₁ B hml hv
  obtain ⟨rfl, hsz, hP, hK, hD0⟩ := hv
  have hx := B.exec
  have hb := B.bytes
  have hr := B.returns
  have hT : ∀ w ∈ wT, w.before _ s = true := fun w h => atoms_spec (ws := wsX2_init) B.pre w (List.mem_cons_of_mem _ h)
  have hown : s.vm.findClass RX2 = some m.cls := findClass_of_methodNamed B.named
  have hlocks := B.notSynchronized
  have hin : meth.name = "<init>" := (name_of_methodNamed B.named B.method).1
  subst hsz
  have hD := hD0.self (sz := s.heap.size)
  generalize hAe : va_A [(nd, .inr (2, [.null, .null, .null, .int (iI 0), .int (iI 0)]))] s.heap.size = A at hD ⊢
  have hA : ∀ q : Nat, s.heap.size ≤ q → A q := fun q h => by rw [← hAe]; exact Or.inr h
  have hS : va_S A s.heap s.heap [] := va_S.rf
  have hP : va_P (dC, dI) vwCl [(nd, .inr (2, [.null, .null, .null, .int (iI 0), .int (iI 0)]))] s.heap := hP
  have hl := lv_entry ([.ref nd]) (n := 1) (Nat.le_of_ble_eq_true rfl)
  rw [lg_entry_eq]
  generalize (lg_sl ([.ref nd]) ++ List.replicate (1 - (lg_sl ([.ref nd])).length) Slot.unset).toArray = ls at hl ⊢
  have hl : lv_has ls 1 [(0, .ref nd)] := hl
  refine lv_aload_n hx hb dX2_init_0 rfl (lv_at hl 0 rfl) ?_
  refine W.objInit hx hb hown (hT _ wd69) (hT _ wd48) (hT _ wd49) rfl (by rw [hml]; exact hl.1) rfl dX2_init_1 (Nat.le_of_ble_eq_true rfl) (Nat.le_of_ble_eq_true rfl) ?_
  refine W.eq (g2 := F0 m 4 ls []) rfl ?_
  refine lv_aload_n hx hb dX2_init_4 rfl (lv_at hl 0 rfl) ?_
  refine va_new (ci := 0) (fs := [.null, .int (iI 0)]) (C := RX0) (T := TX0) (N := 2) hx hb hT inX0 tyX0 tyX0_ok hown (hT _ wd70) (hT _ wd51) (hT _ wd27) hK hP hD hS hA rfl (by decide +kernel) (by show 0 + 1 ≤ 4; omega) (by show 0 + 2 ≤ 136; omega) dX2_init_5 (fun q1 H hP hD hS => ?_)
  have hP : va_P (dC, dI) vwCl [(nd, .inr (2, [.null, .null, .null, .int (iI 0), .int (iI 0)])), (q1, .inr (0, [.null, .int (iI 0)]))] H := hP
  have hD : va_D A [(nd, .inr (2, [.null, .null, .null, .int (iI 0), .int (iI 0)])), (q1, .inr (0, [.null, .int (iI 0)]))] := hD
  refine lv_dup hx hb dX2_init_8 rfl ?_
  have hPc := hP.sub (ws' := [(q1, .inr (0, [.null, .int (iI 0)]))]) [1] rfl
  have hDc := hD.sub (ws' := [(q1, .inr (0, [.null, .int (iI 0)]))]) [1] (by decide) rfl
  have hKc := hK.sub (tys' := []) [] rfl
  have hFc := va_free (wc := [(q1, .inr (0, [.null, .int (iI 0)]))]) hD hS hA [1] rfl
  refine mv_call (mv_runI (As := []) (rest := [.ref q1, .ref nd]) ⟨hx, hb, hml, hown, hT⟩ (c_B_new l dC dI H.size q1 ) (cwI 0 hT (giT wd54) rfl rfl rfl (hT _ wd27) (hT _ wd71) (hT _ wd53) rfl (by decide +kernel) ⟨show 1 + 1 ≤ 2 from by omega, show 8 + (1 + 11) + 60 ≤ 100 from by omega⟩) ⟨fun a U g mk q => by obtain ⟨q0, q1, qP, qK, qD⟩ := q; exact ⟨q0, q1, qP, va_K.moved (u := U) (U := U.calling g mk a) (Vm.Alike.refl U.vm) qK, qD⟩, fun U hU hW => ⟨rfl, by rw [hU], by rw [hU]; exact hPc, va_K.moved hW.alike hKc, hDc.weaken (fun _ _ _ _ => trivial)⟩⟩ rfl rfl hl.1 rfl (lv_room (Nat.le_of_ble_eq_true rfl)) dX2_init_9 ⟨show 0 + 1 + 1 ≤ 4 from by omega, show 0 + 2 + 64 ≤ 136 from by omega⟩) hS (fun q _ h => hFc q h) hFc (fun v4 u k2 n3 tS H1 locs ht hvm hw hB hz1 hk1 hS => ?_)
  obtain ⟨r5, cA6⟩ := u
  obtain ⟨hP1, hK1, hD1⟩ := hB
  rw [ht] at hP1
  have hK1 := va_K.moved hvm.symm hK1
  try dsimp only at hw
  obtain ⟨hP, hD⟩ := va_join (wr := [(nd, .inr (2, [.null, .null, .null, .int (iI 0), .int (iI 0)]))]) (w1 := [(q1, .inr (0, [.ref r5, .int (iI 0)])), (r5, .inl (cA6, 64, .inl (fun j => bI ((fun _ => (0 : Int)) j))))]) hP hD [1] [0] rfl rfl (by decide) (by decide) hk1 hFc hP1 hD1
  have hK := (hK.sub (tys' := []) [] rfl).app hK1
  generalize H1 = H at hP hS ⊢
  have hP : va_P (dC, dI) vwCl [(nd, .inr (2, [.null, .null, .null, .int (iI 0), .int (iI 0)])), (q1, .inr (0, [.ref r5, .int (iI 0)])), (r5, .inl (cA6, 64, .inl (fun j => bI ((fun _ => (0 : Int)) j))))] H := hP
  have hD : va_D A [(nd, .inr (2, [.null, .null, .null, .int (iI 0), .int (iI 0)])), (q1, .inr (0, [.ref r5, .int (iI 0)])), (r5, .inl (cA6, 64, .inl (fun j => bI ((fun _ => (0 : Int)) j))))] := hD
  have hK : va_K (dC, dI) vwCl [(cA6, .byte)] s := hK
  obtain ⟨rfl, rfl, rfl⟩ := hw
  refine W.eq (g2 := F0 m 12 ls [.ref q1, .ref nd]) rfl ?_
  refine va_putF (D := (dC, dI)) (ci := 2) (v := .ref q1) (ty := .object "RuleReader$Bytes") (C := RX2) (T := TX2) (N := 5) hx hb hT inX2 tyX2 tyX2_ok nX2 hown hK hP hD hS 0 rfl rfl 0 (by decide) (hT _ wd103) (fun _ h9 => h9) rfl hin rfl (by decide +kernel) rfl rfl (Nat.le_of_ble_eq_true rfl) dX2_init_12 (fun H locs hP hD hS => ?_)
  have hP : va_P (dC, dI) vwCl [(nd, .inr (2, [.ref q1, .null, .null, .int (iI 0), .int (iI 0)])), (q1, .inr (0, [.ref r5, .int (iI 0)])), (r5, .inl (cA6, 64, .inl (fun j => bI ((fun _ => (0 : Int)) j))))] H := hP
  have hD : va_D A [(nd, .inr (2, [.ref q1, .null, .null, .int (iI 0), .int (iI 0)])), (q1, .inr (0, [.ref r5, .int (iI 0)])), (r5, .inl (cA6, 64, .inl (fun j => bI ((fun _ => (0 : Int)) j))))] := hD
  refine lv_aload_n hx hb dX2_init_15 rfl (lv_at hl 0 rfl) ?_
  refine va_new (ci := 1) (fs := [.int (iI 0), .int (iI 0), .int (iI 0), .int (iI 0), .int (iI 0), .int (iI 0)]) (C := RX1) (T := TX1) (N := 6) hx hb hT inX1 tyX1 tyX1_ok hown (hT _ wd72) (hT _ wd73) (hT _ wd29) hK hP hD hS hA rfl (by decide +kernel) (by show 0 + 1 + 1 + 1 ≤ 4; omega) (by show 0 + 2 + 64 + 6 ≤ 136; omega) dX2_init_16 (fun q7 H hP hD hS => ?_)
  have hP : va_P (dC, dI) vwCl [(nd, .inr (2, [.ref q1, .null, .null, .int (iI 0), .int (iI 0)])), (q1, .inr (0, [.ref r5, .int (iI 0)])), (r5, .inl (cA6, 64, .inl (fun j => bI ((fun _ => (0 : Int)) j)))), (q7, .inr (1, [.int (iI 0), .int (iI 0), .int (iI 0), .int (iI 0), .int (iI 0), .int (iI 0)]))] H := hP
  have hD : va_D A [(nd, .inr (2, [.ref q1, .null, .null, .int (iI 0), .int (iI 0)])), (q1, .inr (0, [.ref r5, .int (iI 0)])), (r5, .inl (cA6, 64, .inl (fun j => bI ((fun _ => (0 : Int)) j)))), (q7, .inr (1, [.int (iI 0), .int (iI 0), .int (iI 0), .int (iI 0), .int (iI 0), .int (iI 0)]))] := hD
  refine lv_dup hx hb dX2_init_19 rfl ?_
  have hPc := hP.sub (ws' := [(q7, .inr (1, [.int (iI 0), .int (iI 0), .int (iI 0), .int (iI 0), .int (iI 0), .int (iI 0)]))]) [3] rfl
  have hDc := hD.sub (ws' := [(q7, .inr (1, [.int (iI 0), .int (iI 0), .int (iI 0), .int (iI 0), .int (iI 0), .int (iI 0)]))]) [3] (by decide) rfl
  have hKc := hK.sub (tys' := []) [] rfl
  have hFc := va_free (wc := [(q7, .inr (1, [.int (iI 0), .int (iI 0), .int (iI 0), .int (iI 0), .int (iI 0), .int (iI 0)]))]) hD hS hA [3] rfl
  refine mv_call (mv_runI (As := []) (rest := [.ref q7, .ref nd]) ⟨hx, hb, hml, hown, hT⟩ (c_H_new l dC dI H.size q7 ) (cwI 0 hT (giT wd76) rfl rfl rfl (hT _ wd29) (hT _ wd74) (hT _ wd75) rfl (by decide +kernel) ⟨show 1 + 1 ≤ 2 from by omega, show 8 + (1 + 11) + 60 ≤ 100 from by omega⟩) ⟨fun a U g mk q => by obtain ⟨q0, q1, qP, qK, qD⟩ := q; exact ⟨q0, q1, qP, va_K.moved (u := U) (U := U.calling g mk a) (Vm.Alike.refl U.vm) qK, qD⟩, fun U hU hW => ⟨rfl, by rw [hU], by rw [hU]; exact hPc, va_K.moved hW.alike hKc, hDc.weaken (fun _ _ _ _ => trivial)⟩⟩ rfl rfl hl.1 rfl (lv_room (Nat.le_of_ble_eq_true rfl)) dX2_init_20 ⟨show 0 + 1 + 1 + 1 + 0 ≤ 4 from by omega, show 0 + 2 + 64 + 6 + 0 ≤ 136 from by omega⟩) hS (fun q _ h => hFc q h) hFc (fun v10 u k8 n9 tS H1 locs ht hvm hw hB hz1 hk1 hS => ?_)
  obtain ⟨hP1, hK1, hD1⟩ := hB
  rw [ht] at hP1
  have hK1 := va_K.moved hvm.symm hK1
  try dsimp only at hw
  obtain ⟨hP, hD⟩ := va_join (wr := [(nd, .inr (2, [.ref q1, .null, .null, .int (iI 0), .int (iI 0)])), (q1, .inr (0, [.ref r5, .int (iI 0)])), (r5, .inl (cA6, 64, .inl (fun j => bI ((fun _ => (0 : Int)) j))))]) (w1 := [(q7, .inr (1, [.int (iI 0), .int (iI 0), .int (iI 0), .int (iI 0), .int (iI 0), .int (iI 0)]))]) hP hD [3] [0, 1, 2] rfl rfl (by decide) (by decide) hk1 hFc hP1 hD1
  have hK := (hK.sub (tys' := [(cA6, .byte)]) [0] rfl).app hK1
  generalize H1 = H at hP hS ⊢
  have hP : va_P (dC, dI) vwCl [(nd, .inr (2, [.ref q1, .null, .null, .int (iI 0), .int (iI 0)])), (q1, .inr (0, [.ref r5, .int (iI 0)])), (r5, .inl (cA6, 64, .inl (fun j => bI ((fun _ => (0 : Int)) j)))), (q7, .inr (1, [.int (iI 0), .int (iI 0), .int (iI 0), .int (iI 0), .int (iI 0), .int (iI 0)]))] H := hP
  have hD : va_D A [(nd, .inr (2, [.ref q1, .null, .null, .int (iI 0), .int (iI 0)])), (q1, .inr (0, [.ref r5, .int (iI 0)])), (r5, .inl (cA6, 64, .inl (fun j => bI ((fun _ => (0 : Int)) j)))), (q7, .inr (1, [.int (iI 0), .int (iI 0), .int (iI 0), .int (iI 0), .int (iI 0), .int (iI 0)]))] := hD
  have hK : va_K (dC, dI) vwCl [(cA6, .byte)] s := hK
  obtain ⟨rfl, rfl, rfl⟩ := hw
  refine W.eq (g2 := F0 m 23 ls [.ref q7, .ref nd]) rfl ?_
  refine va_putF (D := (dC, dI)) (ci := 2) (v := .ref q7) (ty := .object "RuleReader$Header") (C := RX2) (T := TX2) (N := 5) hx hb hT inX2 tyX2 tyX2_ok nX2 hown hK hP hD hS 0 rfl rfl 1 (by decide) (hT _ wd104) (fun _ h9 => h9) rfl hin rfl (by decide +kernel) rfl rfl (Nat.le_of_ble_eq_true rfl) dX2_init_23 (fun H locs hP hD hS => ?_)
  have hP : va_P (dC, dI) vwCl [(nd, .inr (2, [.ref q1, .ref q7, .null, .int (iI 0), .int (iI 0)])), (q1, .inr (0, [.ref r5, .int (iI 0)])), (r5, .inl (cA6, 64, .inl (fun j => bI ((fun _ => (0 : Int)) j)))), (q7, .inr (1, [.int (iI 0), .int (iI 0), .int (iI 0), .int (iI 0), .int (iI 0), .int (iI 0)]))] H := hP
  have hD : va_D A [(nd, .inr (2, [.ref q1, .ref q7, .null, .int (iI 0), .int (iI 0)])), (q1, .inr (0, [.ref r5, .int (iI 0)])), (r5, .inl (cA6, 64, .inl (fun j => bI ((fun _ => (0 : Int)) j)))), (q7, .inr (1, [.int (iI 0), .int (iI 0), .int (iI 0), .int (iI 0), .int (iI 0), .int (iI 0)]))] := hD
  refine lv_aload_n hx hb dX2_init_26 rfl (lv_at hl 0 rfl) ?_
  refine lv_bipush (v := iI 64) hx hb dX2_init_27 (by decide +kernel) ?_
  refine va_newa (atype := .int) (ty := .int) (N' := 64) (a0 := (64, .inl (fun j => iI ((fun _ => (0 : Int)) j)))) hx hb (hT _ wd119) rfl hK hP hD hS hA (fun cA => rfl) (by rw [← iI_0, iI_lt (by omega) (by omega)]; omega) (by rw [iI_clamp (by omega)]; try omega) (by show _ * _ ≤ _; simp only [componentBytes]; omega) (by show 0 + 1 + 1 + 1 + 0 + 1 ≤ 4; omega) (by show 0 + 2 + 64 + 6 + 0 + 64 ≤ 136; omega) dX2_init_29 (fun q11 cA12 H hK hP hD hS => ?_)
  have hP : va_P (dC, dI) vwCl [(nd, .inr (2, [.ref q1, .ref q7, .null, .int (iI 0), .int (iI 0)])), (q1, .inr (0, [.ref r5, .int (iI 0)])), (r5, .inl (cA6, 64, .inl (fun j => bI ((fun _ => (0 : Int)) j)))), (q7, .inr (1, [.int (iI 0), .int (iI 0), .int (iI 0), .int (iI 0), .int (iI 0), .int (iI 0)])), (q11, .inl (cA12, 64, .inl (fun j => iI ((fun _ => (0 : Int)) j))))] H := hP
  have hD : va_D A [(nd, .inr (2, [.ref q1, .ref q7, .null, .int (iI 0), .int (iI 0)])), (q1, .inr (0, [.ref r5, .int (iI 0)])), (r5, .inl (cA6, 64, .inl (fun j => bI ((fun _ => (0 : Int)) j)))), (q7, .inr (1, [.int (iI 0), .int (iI 0), .int (iI 0), .int (iI 0), .int (iI 0), .int (iI 0)])), (q11, .inl (cA12, 64, .inl (fun j => iI ((fun _ => (0 : Int)) j))))] := hD
  have hK : va_K (dC, dI) vwCl [(cA6, .byte), (cA12, .int)] s := hK
  refine va_put (D := (dC, dI)) (ci := 2) (v := .ref q11) (ty := .array .int) (C := RX2) (T := TX2) (N := 5) hx hb hT inX2 tyX2 tyX2_ok nX2 hown hK hP hD hS 0 rfl rfl 2 (by decide) (hT _ wd105) (fun _ h9 => h9) rfl (by decide +kernel) rfl rfl (Nat.le_of_ble_eq_true rfl) dX2_init_31 (fun H locs hP hD hS => ?_)
  have hP : va_P (dC, dI) vwCl [(nd, .inr (2, [.ref q1, .ref q7, .ref q11, .int (iI 0), .int (iI 0)])), (q1, .inr (0, [.ref r5, .int (iI 0)])), (r5, .inl (cA6, 64, .inl (fun j => bI ((fun _ => (0 : Int)) j)))), (q7, .inr (1, [.int (iI 0), .int (iI 0), .int (iI 0), .int (iI 0), .int (iI 0), .int (iI 0)])), (q11, .inl (cA12, 64, .inl (fun j => iI ((fun _ => (0 : Int)) j))))] H := hP
  have hD : va_D A [(nd, .inr (2, [.ref q1, .ref q7, .ref q11, .int (iI 0), .int (iI 0)])), (q1, .inr (0, [.ref r5, .int (iI 0)])), (r5, .inl (cA6, 64, .inl (fun j => bI ((fun _ => (0 : Int)) j)))), (q7, .inr (1, [.int (iI 0), .int (iI 0), .int (iI 0), .int (iI 0), .int (iI 0), .int (iI 0)])), (q11, .inl (cA12, 64, .inl (fun j => iI ((fun _ => (0 : Int)) j))))] := hD
  refine lv_aload_n hx hb dX2_init_34 rfl (lv_at hl 0 rfl) ?_
  refine lv_iconst (v := iI 0) hx hb dX2_init_35 rfl ?_
  refine va_put (D := (dC, dI)) (ci := 2) (v := .int (iI 0)) (ty := .int) (C := RX2) (T := TX2) (N := 5) hx hb hT inX2 tyX2 tyX2_ok nX2 hown hK hP hD hS 0 rfl rfl 3 (by decide) (hT _ wd106) (fun _ h9 => h9) rfl (by decide +kernel) rfl rfl (Nat.le_of_ble_eq_true rfl) dX2_init_36 (fun H locs hP hD hS => ?_)
  have hP : va_P (dC, dI) vwCl [(nd, .inr (2, [.ref q1, .ref q7, .ref q11, .int (iI 0), .int (iI 0)])), (q1, .inr (0, [.ref r5, .int (iI 0)])), (r5, .inl (cA6, 64, .inl (fun j => bI ((fun _ => (0 : Int)) j)))), (q7, .inr (1, [.int (iI 0), .int (iI 0), .int (iI 0), .int (iI 0), .int (iI 0), .int (iI 0)])), (q11, .inl (cA12, 64, .inl (fun j => iI ((fun _ => (0 : Int)) j))))] H := hP
  have hD : va_D A [(nd, .inr (2, [.ref q1, .ref q7, .ref q11, .int (iI 0), .int (iI 0)])), (q1, .inr (0, [.ref r5, .int (iI 0)])), (r5, .inl (cA6, 64, .inl (fun j => bI ((fun _ => (0 : Int)) j)))), (q7, .inr (1, [.int (iI 0), .int (iI 0), .int (iI 0), .int (iI 0), .int (iI 0), .int (iI 0)])), (q11, .inl (cA12, 64, .inl (fun j => iI ((fun _ => (0 : Int)) j))))] := hD
  refine lv_aload_n hx hb dX2_init_39 rfl (lv_at hl 0 rfl) ?_
  refine lv_iconst (v := iI 0) hx hb dX2_init_40 rfl ?_
  refine va_put (D := (dC, dI)) (ci := 2) (v := .int (iI 0)) (ty := .boolean) (C := RX2) (T := TX2) (N := 5) hx hb hT inX2 tyX2 tyX2_ok nX2 hown hK hP hD hS 0 rfl rfl 4 (by decide) (hT _ wd107) (fun _ h9 => h9) rfl (by decide +kernel) (zb_n (by omega)) (zb_f (by omega)) (Nat.le_of_ble_eq_true rfl) dX2_init_41 (fun H locs hP hD hS => ?_)
  have hP : va_P (dC, dI) vwCl [(nd, .inr (2, [.ref q1, .ref q7, .ref q11, .int (iI 0), .int (iI 0)])), (q1, .inr (0, [.ref r5, .int (iI 0)])), (r5, .inl (cA6, 64, .inl (fun j => bI ((fun _ => (0 : Int)) j)))), (q7, .inr (1, [.int (iI 0), .int (iI 0), .int (iI 0), .int (iI 0), .int (iI 0), .int (iI 0)])), (q11, .inl (cA12, 64, .inl (fun j => iI ((fun _ => (0 : Int)) j))))] H := hP
  have hD : va_D A [(nd, .inr (2, [.ref q1, .ref q7, .ref q11, .int (iI 0), .int (iI 0)])), (q1, .inr (0, [.ref r5, .int (iI 0)])), (r5, .inl (cA6, 64, .inl (fun j => bI ((fun _ => (0 : Int)) j)))), (q7, .inr (1, [.int (iI 0), .int (iI 0), .int (iI 0), .int (iI 0), .int (iI 0), .int (iI 0)])), (q11, .inl (cA12, 64, .inl (fun j => iI ((fun _ => (0 : Int)) j))))] := hD
  have hP9 := hP.sub (ws' := [(nd, .inr (2, [.ref q1, .ref q7, .ref q11, .int (iI 0), .int (iI 0)])), (q11, .inl (cA12, 64, .inl (fun j => iI ((fun _ => (0 : Int)) j)))), (q7, .inr (1, [.int (iI 0), .int (iI 0), .int (iI 0), .int (iI 0), .int (iI 0), .int (iI 0)])), (q1, .inr (0, [.ref r5, .int (iI 0)])), (r5, .inl (cA6, 64, .inl (fun j => bI ((fun _ => (0 : Int)) j))))]) [0, 4, 3, 1, 2] rfl
  have hD9 := hD.sub (ws' := [(nd, .inr (2, [.ref q1, .ref q7, .ref q11, .int (iI 0), .int (iI 0)])), (q11, .inl (cA12, 64, .inl (fun j => iI ((fun _ => (0 : Int)) j)))), (q7, .inr (1, [.int (iI 0), .int (iI 0), .int (iI 0), .int (iI 0), .int (iI 0), .int (iI 0)])), (q1, .inr (0, [.ref r5, .int (iI 0)])), (r5, .inl (cA6, 64, .inl (fun j => bI ((fun _ => (0 : Int)) j))))]) [0, 4, 3, 1, 2] (by decide) rfl
  have hK9 := hK.sub (tys' := [(cA12, .int), (cA6, .byte)]) [1, 0] rfl
  exact mv_vret hx hb hr hlocks (fun tS ht hW => ⟨⟨_, (q1, q7, q11, cA12, r5, cA6), rfl, ⟨rfl, rfl, rfl⟩, by rw [ht]; exact hP9, va_K.moved hW.alike hK9, hD9⟩, hS.F ht⟩) hS.2.2 dX2_init_44
set_option maxHeartbeats 4000000 in
set_option maxRecDepth 100000 in
theorem c_R_new (l : Launch) (dC : Nat → ClassId) (dI : Nat → Nat → Nat) (sz : Nat) (x : Nat) : mv_Met l yX3_init wsX3_init ({ frames := 3, cells := 14, slots := 414, locals := 140 }) (va_Pc [.ref x] (fun U => U.heap.size = sz ∧ va_P (dC, dI) vwCl [(x, .inr (3, [.null, .null, .null, .null]))] U.heap ∧ va_K (dC, dI) vwCl [] U ∧ va_D (fun _ => True) [(x, .inr (3, [.null, .null, .null, .null]))])) (mv_Q (fun (v : Option Value) (u : Nat × Nat × ClassId × Nat × Nat × ClassId × Nat × Nat × Nat × Nat × ClassId × Nat × ClassId × Nat × Nat × Nat × Nat × ClassId × Nat × ClassId) (k n : Nat) => match u with | (tb', tr', tA', pb', prr', pA', nd', nb', nh', nrw', ncR', nr', ncA', sp', sb', sh', srw', scR', sr', scA') => v = none ∧ k = 14 ∧ n = 414) (fun (u : Nat × Nat × ClassId × Nat × Nat × ClassId × Nat × Nat × Nat × Nat × ClassId × Nat × ClassId × Nat × Nat × Nat × Nat × ClassId × Nat × ClassId) (tS : State) => match u with | (tb', tr', tA', pb', prr', pA', nd', nb', nh', nrw', ncR', nr', ncA', sp', sb', sh', srw', scR', sr', scA') => va_P (dC, dI) vwCl [(x, .inr (3, [.ref tb', .ref pb', .ref nd', .ref sp'])), (tb', .inr (0, [.ref tr', .int (iI 0)])), (tr', .inl (tA', 64, .inl (fun j => bI ((fun _ => (0 : Int)) j)))), (pb', .inr (0, [.ref prr', .int (iI 0)])), (prr', .inl (pA', 64, .inl (fun j => bI ((fun _ => (0 : Int)) j)))), (nd', .inr (2, [.ref nb', .ref nh', .ref nrw', .int (iI 0), .int (iI 0)])), (nrw', .inl (ncR', 64, .inl (fun j => iI ((fun _ => (0 : Int)) j)))), (nh', .inr (1, [.int (iI 0), .int (iI 0), .int (iI 0), .int (iI 0), .int (iI 0), .int (iI 0)])), (nb', .inr (0, [.ref nr', .int (iI 0)])), (nr', .inl (ncA', 64, .inl (fun j => bI ((fun _ => (0 : Int)) j)))), (sp', .inr (2, [.ref sb', .ref sh', .ref srw', .int (iI 0), .int (iI 0)])), (srw', .inl (scR', 64, .inl (fun j => iI ((fun _ => (0 : Int)) j)))), (sh', .inr (1, [.int (iI 0), .int (iI 0), .int (iI 0), .int (iI 0), .int (iI 0), .int (iI 0)])), (sb', .inr (0, [.ref sr', .int (iI 0)])), (sr', .inl (scA', 64, .inl (fun j => bI ((fun _ => (0 : Int)) j))))] tS.heap ∧ va_K (dC, dI) vwCl [(tA', .byte), (pA', .byte), (ncR', .int), (ncA', .byte), (scR', .int), (scA', .byte)] tS ∧ va_D (va_A [(x, .inr (3, [.null, .null, .null, .null]))] sz) [(x, .inr (3, [.ref tb', .ref pb', .ref nd', .ref sp'])), (tb', .inr (0, [.ref tr', .int (iI 0)])), (tr', .inl (tA', 64, .inl (fun j => bI ((fun _ => (0 : Int)) j)))), (pb', .inr (0, [.ref prr', .int (iI 0)])), (prr', .inl (pA', 64, .inl (fun j => bI ((fun _ => (0 : Int)) j)))), (nd', .inr (2, [.ref nb', .ref nh', .ref nrw', .int (iI 0), .int (iI 0)])), (nrw', .inl (ncR', 64, .inl (fun j => iI ((fun _ => (0 : Int)) j)))), (nh', .inr (1, [.int (iI 0), .int (iI 0), .int (iI 0), .int (iI 0), .int (iI 0), .int (iI 0)])), (nb', .inr (0, [.ref nr', .int (iI 0)])), (nr', .inl (ncA', 64, .inl (fun j => bI ((fun _ => (0 : Int)) j)))), (sp', .inr (2, [.ref sb', .ref sh', .ref srw', .int (iI 0), .int (iI 0)])), (srw', .inl (scR', 64, .inl (fun j => iI ((fun _ => (0 : Int)) j)))), (sh', .inr (1, [.int (iI 0), .int (iI 0), .int (iI 0), .int (iI 0), .int (iI 0), .int (iI 0)])), (sb', .inr (0, [.ref sr', .int (iI 0)])), (sr', .inl (scA', 64, .inl (fun j => bI ((fun _ => (0 : Int)) j))))]) (va_A [(x, .inr (3, [.null, .null, .null, .null]))] sz)) (va_A [(x, .inr (3, [.null, .null, .null, .null]))] sz) := by
  refine mv_ofW (cc := cX3_init) (maxL := 1) (ret := none) (by decide) rfl ?_
  intro p e s m args below meth c s₁ B hml hv
  obtain ⟨rfl, hsz, hP, hK, hD0⟩ := hv
  have hx := B.exec
  have hb := B.bytes
  have hr := B.returns
  have hT : ∀ w ∈ wT, w.before _ s = true := fun w h => atoms_spec (ws := wsX3_init) B.pre w (List.mem_cons_of_mem _ h)
  have hown : s.vm.findClass RX3 = some m.cls := findClass_of_methodNamed B.named
  have hlocks := B.notSynchronized
  have hin : meth.name = "<init>" := (name_of_methodNamed B.named B.method).1
  subst hsz
  have hD := hD0.self (sz := s.heap.size)
  generalize hAe : va_A [(x, .inr (3, [.null, .null, .null, .null]))] s.heap.size = A at hD ⊢
  have hA : ∀ q : Nat, s.heap.size ≤ q → A q := fun q h => by rw [← hAe]; exact Or.inr h
  have hS : va_S A s.heap s.heap [] := va_S.rf
  have hP : va_P (dC, dI) vwCl [(x, .inr (3, [.null, .null, .null, .null]))] s.heap := hP
  have hl := lv_entry ([.ref x]) (n := 1) (Nat.le_of_ble_eq_true rfl)
  rw [lg_entry_eq]
  generalize (lg_sl ([.ref x]) ++ List.replicate (1 - (lg_sl ([.ref x])).length) Slot.unset).toArray = ls at hl ⊢
  have hl : lv_has ls 1 [(0, .ref x)] := hl
  refine lv_aload_n hx hb dX3_init_0 rfl (lv_at hl 0 rfl) ?_
  refine W.objInit hx hb hown (hT _ wd47) (hT _ wd48) (hT _ wd49) rfl (by rw [hml]; exact hl.1) rfl dX3_init_1 (Nat.le_of_ble_eq_true rfl) (Nat.le_of_ble_eq_true rfl) ?_
  refine W.eq (g2 := F0 m 4 ls []) rfl ?_
  refine lv_aload_n hx hb dX3_init_4 rfl (lv_at hl 0 rfl) ?_
  refine va_new (ci := 0) (fs := [.null, .int (iI 0)]) (C := RX0) (T := TX0) (N := 2) hx hb hT inX0 tyX0 tyX0_ok hown (hT _ wd50) (hT _ wd51) (hT _ wd27) hK hP hD hS hA rfl (by decide +kernel) (by show 0 + 1 ≤ 14; omega) (by show 0 + 2 ≤ 414; omega) dX3_init_5 (fun q1 H hP hD hS => ?_)
  have hP : va_P (dC, dI) vwCl [(x, .inr (3, [.null, .null, .null, .null])), (q1, .inr (0, [.null, .int (iI 0)]))] H := hP
  have hD : va_D A [(x, .inr (3, [.null, .null, .null, .null])), (q1, .inr (0, [.null, .int (iI 0)]))] := hD
  refine lv_dup hx hb dX3_init_8 rfl ?_
  have hPc := hP.sub (ws' := [(q1, .inr (0, [.null, .int (iI 0)]))]) [1] rfl
  have hDc := hD.sub (ws' := [(q1, .inr (0, [.null, .int (iI 0)]))]) [1] (by decide) rfl
  have hKc := hK.sub (tys' := []) [] rfl
  have hFc := va_free (wc := [(q1, .inr (0, [.null, .int (iI 0)]))]) hD hS hA [1] rfl
  refine mv_call (mv_runI (As := []) (rest := [.ref q1, .ref x]) ⟨hx, hb, hml, hown, hT⟩ (c_B_new l dC dI H.size q1 ) (cwI 0 hT (giT wd54) rfl rfl rfl (hT _ wd27) (hT _ wd52) (hT _ wd53) rfl (by decide +kernel) ⟨show 1 + 1 ≤ 3 from by omega, show 8 + (1 + 11) + 60 ≤ 140 from by omega⟩) ⟨fun a U g mk q => by obtain ⟨q0, q1, qP, qK, qD⟩ := q; exact ⟨q0, q1, qP, va_K.moved (u := U) (U := U.calling g mk a) (Vm.Alike.refl U.vm) qK, qD⟩, fun U hU hW => ⟨rfl, by rw [hU], by rw [hU]; exact hPc, va_K.moved hW.alike hKc, hDc.weaken (fun _ _ _ _ => trivial)⟩⟩ rfl rfl hl.1 rfl (lv_room (Nat.le_of_ble_eq_true rfl)) dX3_init_9 ⟨show 0 + 1 + 1 ≤ 14 from by omega, show 0 + 2 + 64 ≤ 414 from by omega⟩) hS (fun q _ h => hFc q h) hFc (fun v4 u k2 n3 tS H1 locs ht hvm hw hB hz1 hk1 hS => ?_)
  obtain ⟨r5, cA6⟩ := u
  obtain ⟨hP1, hK1, hD1⟩ := hB
  rw [ht] at hP1
  have hK1 := va_K.moved hvm.symm hK1
  try dsimp only at hw
  obtain ⟨hP, hD⟩ := va_join (wr := [(x, .inr (3, [.null, .null, .null, .null]))]) (w1 := [(q1, .inr (0, [.ref r5, .int (iI 0)])), (r5, .inl (cA6, 64, .inl (fun j => bI ((fun _ => (0 : Int)) j))))]) hP hD [1] [0] rfl rfl (by decide) (by decide) hk1 hFc hP1 hD1
  have hK := (hK.sub (tys' := []) [] rfl).app hK1
  generalize H1 = H at hP hS ⊢
  have hP : va_P (dC, dI) vwCl [(x, .inr (3, [.null, .null, .null, .null])), (q1, .inr (0, [.ref r5, .int (iI 0)])), (r5, .inl (cA6, 64, .inl (fun j => bI ((fun _ => (0 : Int)) j))))] H := hP
  have hD : va_D A [(x, .inr (3, [.null, .null, .null, .null])), (q1, .inr (0, [.ref r5, .int (iI 0)])), (r5, .inl (cA6, 64, .inl (fun j => bI ((fun _ => (0 : Int)) j))))] := hD
  have hK : va_K (dC, dI) vwCl [(cA6, .byte)] s := hK
  obtain ⟨rfl, rfl, rfl⟩ := hw
  refine W.eq (g2 := F0 m 12 ls [.ref q1, .ref x]) rfl ?_
  refine va_putF (D := (dC, dI)) (ci := 3) (v := .ref q1) (ty := .object "RuleReader$Bytes") (C := RX3) (T := TX3) (N := 4) hx hb hT inX3 tyX3 tyX3_ok nX3 hown hK hP hD hS 0 rfl rfl 0 (by decide) (hT _ wd120) (fun _ h9 => h9) rfl hin rfl (by decide +kernel) rfl rfl (Nat.le_of_ble_eq_true rfl) dX3_init_12 (fun H locs hP hD hS => ?_)
  have hP : va_P (dC, dI) vwCl [(x, .inr (3, [.ref q1, .null, .null, .null])), (q1, .inr (0, [.ref r5, .int (iI 0)])), (r5, .inl (cA6, 64, .inl (fun j => bI ((fun _ => (0 : Int)) j))))] H := hP
  have hD : va_D A [(x, .inr (3, [.ref q1, .null, .null, .null])), (q1, .inr (0, [.ref r5, .int (iI 0)])), (r5, .inl (cA6, 64, .inl (fun j => bI ((fun _ => (0 : Int)) j))))] := hD
  refine lv_aload_n hx hb dX3_init_15 rfl (lv_at hl 0 rfl) ?_
  refine va_new (ci := 0) (fs := [.null, .int (iI 0)]) (C := RX0) (T := TX0) (N := 2) hx hb hT inX0 tyX0 tyX0_ok hown (hT _ wd50) (hT _ wd51) (hT _ wd27) hK hP hD hS hA rfl (by decide +kernel) (by show 0 + 1 + 1 + 1 ≤ 14; omega) (by show 0 + 2 + 64 + 2 ≤ 414; omega) dX3_init_16 (fun q7 H hP hD hS => ?_)
  have hP : va_P (dC, dI) vwCl [(x, .inr (3, [.ref q1, .null, .null, .null])), (q1, .inr (0, [.ref r5, .int (iI 0)])), (r5, .inl (cA6, 64, .inl (fun j => bI ((fun _ => (0 : Int)) j)))), (q7, .inr (0, [.null, .int (iI 0)]))] H := hP
  have hD : va_D A [(x, .inr (3, [.ref q1, .null, .null, .null])), (q1, .inr (0, [.ref r5, .int (iI 0)])), (r5, .inl (cA6, 64, .inl (fun j => bI ((fun _ => (0 : Int)) j)))), (q7, .inr (0, [.null, .int (iI 0)]))] := hD
  refine lv_dup hx hb dX3_init_19 rfl ?_
  have hPc := hP.sub (ws' := [(q7, .inr (0, [.null, .int (iI 0)]))]) [3] rfl
  have hDc := hD.sub (ws' := [(q7, .inr (0, [.null, .int (iI 0)]))]) [3] (by decide) rfl
  have hKc := hK.sub (tys' := []) [] rfl
  have hFc := va_free (wc := [(q7, .inr (0, [.null, .int (iI 0)]))]) hD hS hA [3] rfl
  refine mv_call (mv_runI (As := []) (rest := [.ref q7, .ref x]) ⟨hx, hb, hml, hown, hT⟩ (c_B_new l dC dI H.size q7 ) (cwI 0 hT (giT wd54) rfl rfl rfl (hT _ wd27) (hT _ wd52) (hT _ wd53) rfl (by decide +kernel) ⟨show 1 + 1 ≤ 3 from by omega, show 8 + (1 + 11) + 60 ≤ 140 from by omega⟩) ⟨fun a U g mk q => by obtain ⟨q0, q1, qP, qK, qD⟩ := q; exact ⟨q0, q1, qP, va_K.moved (u := U) (U := U.calling g mk a) (Vm.Alike.refl U.vm) qK, qD⟩, fun U hU hW => ⟨rfl, by rw [hU], by rw [hU]; exact hPc, va_K.moved hW.alike hKc, hDc.weaken (fun _ _ _ _ => trivial)⟩⟩ rfl rfl hl.1 rfl (lv_room (Nat.le_of_ble_eq_true rfl)) dX3_init_20 ⟨show 0 + 1 + 1 + 1 + 1 ≤ 14 from by omega, show 0 + 2 + 64 + 2 + 64 ≤ 414 from by omega⟩) hS (fun q _ h => hFc q h) hFc (fun v10 u k8 n9 tS H1 locs ht hvm hw hB hz1 hk1 hS => ?_)
  obtain ⟨r11, cA12⟩ := u
  obtain ⟨hP1, hK1, hD1⟩ := hB
  rw [ht] at hP1
  have hK1 := va_K.moved hvm.symm hK1
  try dsimp only at hw
  obtain ⟨hP, hD⟩ := va_join (wr := [(x, .inr (3, [.ref q1, .null, .null, .null])), (q1, .inr (0, [.ref r5, .int (iI 0)])), (r5, .inl (cA6, 64, .inl (fun j => bI ((fun _ => (0 : Int)) j))))]) (w1 := [(q7, .inr (0, [.ref r11, .int (iI 0)])), (r11, .inl (cA12, 64, .inl (fun j => bI ((fun _ => (0 : Int)) j))))]) hP hD [3] [0, 1, 2] rfl rfl (by decide) (by decide) hk1 hFc hP1 hD1
  have hK := (hK.sub (tys' := [(cA6, .byte)]) [0] rfl).app hK1
  generalize H1 = H at hP hS ⊢
  have hP : va_P (dC, dI) vwCl [(x, .inr (3, [.ref q1, .null, .null, .null])), (q1, .inr (0, [.ref r5, .int (iI 0)])), (r5, .inl (cA6, 64, .inl (fun j => bI ((fun _ => (0 : Int)) j)))), (q7, .inr (0, [.ref r11, .int (iI 0)])), (r11, .inl (cA12, 64, .inl (fun j => bI ((fun _ => (0 : Int)) j))))] H := hP
  have hD : va_D A [(x, .inr (3, [.ref q1, .null, .null, .null])), (q1, .inr (0, [.ref r5, .int (iI 0)])), (r5, .inl (cA6, 64, .inl (fun j => bI ((fun _ => (0 : Int)) j)))), (q7, .inr (0, [.ref r11, .int (iI 0)])), (r11, .inl (cA12, 64, .inl (fun j => bI ((fun _ => (0 : Int)) j))))] := hD
  have hK : va_K (dC, dI) vwCl [(cA6, .byte), (cA12, .byte)] s := hK
  obtain ⟨rfl, rfl, rfl⟩ := hw
  refine W.eq (g2 := F0 m 23 ls [.ref q7, .ref x]) rfl ?_
  refine va_putF (D := (dC, dI)) (ci := 3) (v := .ref q7) (ty := .object "RuleReader$Bytes") (C := RX3) (T := TX3) (N := 4) hx hb hT inX3 tyX3 tyX3_ok nX3 hown hK hP hD hS 0 rfl rfl 1 (by decide) (hT _ wd121) (fun _ h9 => h9) rfl hin rfl (by decide +kernel) rfl rfl (Nat.le_of_ble_eq_true rfl) dX3_init_23 (fun H locs hP hD hS => ?_)
  have hP : va_P (dC, dI) vwCl [(x, .inr (3, [.ref q1, .ref q7, .null, .null])), (q1, .inr (0, [.ref r5, .int (iI 0)])), (r5, .inl (cA6, 64, .inl (fun j => bI ((fun _ => (0 : Int)) j)))), (q7, .inr (0, [.ref r11, .int (iI 0)])), (r11, .inl (cA12, 64, .inl (fun j => bI ((fun _ => (0 : Int)) j))))] H := hP
  have hD : va_D A [(x, .inr (3, [.ref q1, .ref q7, .null, .null])), (q1, .inr (0, [.ref r5, .int (iI 0)])), (r5, .inl (cA6, 64, .inl (fun j => bI ((fun _ => (0 : Int)) j)))), (q7, .inr (0, [.ref r11, .int (iI 0)])), (r11, .inl (cA12, 64, .inl (fun j => bI ((fun _ => (0 : Int)) j))))] := hD
  refine lv_aload_n hx hb dX3_init_26 rfl (lv_at hl 0 rfl) ?_
  refine va_new (ci := 2) (fs := [.null, .null, .null, .int (iI 0), .int (iI 0)]) (C := RX2) (T := TX2) (N := 5) hx hb hT inX2 tyX2 tyX2_ok hown (hT _ wd64) (hT _ wd65) (hT _ wd28) hK hP hD hS hA rfl (by decide +kernel) (by show 0 + 1 + 1 + 1 + 1 + 1 ≤ 14; omega) (by show 0 + 2 + 64 + 2 + 64 + 5 ≤ 414; omega) dX3_init_27 (fun q13 H hP hD hS => ?_)
  have hP : va_P (dC, dI) vwCl [(x, .inr (3, [.ref q1, .ref q7, .null, .null])), (q1, .inr (0, [.ref r5, .int (iI 0)])), (r5, .inl (cA6, 64, .inl (fun j => bI ((fun _ => (0 : Int)) j)))), (q7, .inr (0, [.ref r11, .int (iI 0)])), (r11, .inl (cA12, 64, .inl (fun j => bI ((fun _ => (0 : Int)) j)))), (q13, .inr (2, [.null, .null, .null, .int (iI 0), .int (iI 0)]))] H := hP
  have hD : va_D A [(x, .inr (3, [.ref q1, .ref q7, .null, .null])), (q1, .inr (0, [.ref r5, .int (iI 0)])), (r5, .inl (cA6, 64, .inl (fun j => bI ((fun _ => (0 : Int)) j)))), (q7, .inr (0, [.ref r11, .int (iI 0)])), (r11, .inl (cA12, 64, .inl (fun j => bI ((fun _ => (0 : Int)) j)))), (q13, .inr (2, [.null, .null, .null, .int (iI 0), .int (iI 0)]))] := hD
  refine lv_dup hx hb dX3_init_30 rfl ?_
  have hPc := hP.sub (ws' := [(q13, .inr (2, [.null, .null, .null, .int (iI 0), .int (iI 0)]))]) [5] rfl
  have hDc := hD.sub (ws' := [(q13, .inr (2, [.null, .null, .null, .int (iI 0), .int (iI 0)]))]) [5] (by decide) rfl
  have hKc := hK.sub (tys' := []) [] rfl
  have hFc := va_free (wc := [(q13, .inr (2, [.null, .null, .null, .int (iI 0), .int (iI 0)]))]) hD hS hA [5] rfl
  refine mv_call (mv_runI (As := []) (rest := [.ref q13, .ref x]) ⟨hx, hb, hml, hown, hT⟩ (c_N_new l dC dI H.size q13 ) (cwI 0 hT (giT wd68) rfl rfl rfl (hT _ wd28) (hT _ wd66) (hT _ wd67) rfl (by decide +kernel) ⟨show 2 + 1 ≤ 3 from by omega, show 8 + (1 + 11) + 100 ≤ 140 from by omega⟩) ⟨fun a U g mk q => by obtain ⟨q0, q1, qP, qK, qD⟩ := q; exact ⟨q0, q1, qP, va_K.moved (u := U) (U := U.calling g mk a) (Vm.Alike.refl U.vm) qK, qD⟩, fun U hU hW => ⟨rfl, by rw [hU], by rw [hU]; exact hPc, va_K.moved hW.alike hKc, hDc.weaken (fun _ _ _ _ => trivial)⟩⟩ rfl rfl hl.1 rfl (lv_room (Nat.le_of_ble_eq_true rfl)) dX3_init_31 ⟨show 0 + 1 + 1 + 1 + 1 + 1 + 4 ≤ 14 from by omega, show 0 + 2 + 64 + 2 + 64 + 5 + 136 ≤ 414 from by omega⟩) hS (fun q _ h => hFc q h) hFc (fun v16 u k14 n15 tS H1 locs ht hvm hw hB hz1 hk1 hS => ?_)
  obtain ⟨b17, h18, rw19, cR20, r21, cA22⟩ := u
  obtain ⟨hP1, hK1, hD1⟩ := hB
  rw [ht] at hP1
  have hK1 := va_K.moved hvm.symm hK1
  try dsimp only at hw
  obtain ⟨hP, hD⟩ := va_join (wr := [(x, .inr (3, [.ref q1, .ref q7, .null, .null])), (q1, .inr (0, [.ref r5, .int (iI 0)])), (r5, .inl (cA6, 64, .inl (fun j => bI ((fun _ => (0 : Int)) j)))), (q7, .inr (0, [.ref r11, .int (iI 0)])), (r11, .inl (cA12, 64, .inl (fun j => bI ((fun _ => (0 : Int)) j))))]) (w1 := [(q13, .inr (2, [.ref b17, .ref h18, .ref rw19, .int (iI 0), .int (iI 0)])), (rw19, .inl (cR20, 64, .inl (fun j => iI ((fun _ => (0 : Int)) j)))), (h18, .inr (1, [.int (iI 0), .int (iI 0), .int (iI 0), .int (iI 0), .int (iI 0), .int (iI 0)])), (b17, .inr (0, [.ref r21, .int (iI 0)])), (r21, .inl (cA22, 64, .inl (fun j => bI ((fun _ => (0 : Int)) j))))]) hP hD [5] [0, 1, 2, 3, 4] rfl rfl (by decide) (by decide) hk1 hFc hP1 hD1
  have hK := (hK.sub (tys' := [(cA6, .byte), (cA12, .byte)]) [0, 1] rfl).app hK1
  generalize H1 = H at hP hS ⊢
  have hP : va_P (dC, dI) vwCl [(x, .inr (3, [.ref q1, .ref q7, .null, .null])), (q1, .inr (0, [.ref r5, .int (iI 0)])), (r5, .inl (cA6, 64, .inl (fun j => bI ((fun _ => (0 : Int)) j)))), (q7, .inr (0, [.ref r11, .int (iI 0)])), (r11, .inl (cA12, 64, .inl (fun j => bI ((fun _ => (0 : Int)) j)))), (q13, .inr (2, [.ref b17, .ref h18, .ref rw19, .int (iI 0), .int (iI 0)])), (rw19, .inl (cR20, 64, .inl (fun j => iI ((fun _ => (0 : Int)) j)))), (h18, .inr (1, [.int (iI 0), .int (iI 0), .int (iI 0), .int (iI 0), .int (iI 0), .int (iI 0)])), (b17, .inr (0, [.ref r21, .int (iI 0)])), (r21, .inl (cA22, 64, .inl (fun j => bI ((fun _ => (0 : Int)) j))))] H := hP
  have hD : va_D A [(x, .inr (3, [.ref q1, .ref q7, .null, .null])), (q1, .inr (0, [.ref r5, .int (iI 0)])), (r5, .inl (cA6, 64, .inl (fun j => bI ((fun _ => (0 : Int)) j)))), (q7, .inr (0, [.ref r11, .int (iI 0)])), (r11, .inl (cA12, 64, .inl (fun j => bI ((fun _ => (0 : Int)) j)))), (q13, .inr (2, [.ref b17, .ref h18, .ref rw19, .int (iI 0), .int (iI 0)])), (rw19, .inl (cR20, 64, .inl (fun j => iI ((fun _ => (0 : Int)) j)))), (h18, .inr (1, [.int (iI 0), .int (iI 0), .int (iI 0), .int (iI 0), .int (iI 0), .int (iI 0)])), (b17, .inr (0, [.ref r21, .int (iI 0)])), (r21, .inl (cA22, 64, .inl (fun j => bI ((fun _ => (0 : Int)) j))))] := hD
  have hK : va_K (dC, dI) vwCl [(cA6, .byte), (cA12, .byte), (cR20, .int), (cA22, .byte)] s := hK
  obtain ⟨rfl, rfl, rfl⟩ := hw
  refine W.eq (g2 := F0 m 34 ls [.ref q13, .ref x]) rfl ?_
  refine va_put (D := (dC, dI)) (ci := 3) (v := .ref q13) (ty := .object "RuleReader$Nodes") (C := RX3) (T := TX3) (N := 4) hx hb hT inX3 tyX3 tyX3_ok nX3 hown hK hP hD hS 0 rfl rfl 2 (by decide) (hT _ wd122) (fun _ h9 => h9) rfl (by decide +kernel) rfl rfl (Nat.le_of_ble_eq_true rfl) dX3_init_34 (fun H locs hP hD hS => ?_)
  have hP : va_P (dC, dI) vwCl [(x, .inr (3, [.ref q1, .ref q7, .ref q13, .null])), (q1, .inr (0, [.ref r5, .int (iI 0)])), (r5, .inl (cA6, 64, .inl (fun j => bI ((fun _ => (0 : Int)) j)))), (q7, .inr (0, [.ref r11, .int (iI 0)])), (r11, .inl (cA12, 64, .inl (fun j => bI ((fun _ => (0 : Int)) j)))), (q13, .inr (2, [.ref b17, .ref h18, .ref rw19, .int (iI 0), .int (iI 0)])), (rw19, .inl (cR20, 64, .inl (fun j => iI ((fun _ => (0 : Int)) j)))), (h18, .inr (1, [.int (iI 0), .int (iI 0), .int (iI 0), .int (iI 0), .int (iI 0), .int (iI 0)])), (b17, .inr (0, [.ref r21, .int (iI 0)])), (r21, .inl (cA22, 64, .inl (fun j => bI ((fun _ => (0 : Int)) j))))] H := hP
  have hD : va_D A [(x, .inr (3, [.ref q1, .ref q7, .ref q13, .null])), (q1, .inr (0, [.ref r5, .int (iI 0)])), (r5, .inl (cA6, 64, .inl (fun j => bI ((fun _ => (0 : Int)) j)))), (q7, .inr (0, [.ref r11, .int (iI 0)])), (r11, .inl (cA12, 64, .inl (fun j => bI ((fun _ => (0 : Int)) j)))), (q13, .inr (2, [.ref b17, .ref h18, .ref rw19, .int (iI 0), .int (iI 0)])), (rw19, .inl (cR20, 64, .inl (fun j => iI ((fun _ => (0 : Int)) j)))), (h18, .inr (1, [.int (iI 0), .int (iI 0), .int (iI 0), .int (iI 0), .int (iI 0), .int (iI 0)])), (b17, .inr (0, [.ref r21, .int (iI 0)])), (r21, .inl (cA22, 64, .inl (fun j => bI ((fun _ => (0 : Int)) j))))] := hD
  refine lv_aload_n hx hb dX3_init_37 rfl (lv_at hl 0 rfl) ?_
  refine va_new (ci := 2) (fs := [.null, .null, .null, .int (iI 0), .int (iI 0)]) (C := RX2) (T := TX2) (N := 5) hx hb hT inX2 tyX2 tyX2_ok hown (hT _ wd64) (hT _ wd65) (hT _ wd28) hK hP hD hS hA rfl (by decide +kernel) (by show 0 + 1 + 1 + 1 + 1 + 1 + 4 + 1 ≤ 14; omega) (by show 0 + 2 + 64 + 2 + 64 + 5 + 136 + 5 ≤ 414; omega) dX3_init_38 (fun q23 H hP hD hS => ?_)
  have hP : va_P (dC, dI) vwCl [(x, .inr (3, [.ref q1, .ref q7, .ref q13, .null])), (q1, .inr (0, [.ref r5, .int (iI 0)])), (r5, .inl (cA6, 64, .inl (fun j => bI ((fun _ => (0 : Int)) j)))), (q7, .inr (0, [.ref r11, .int (iI 0)])), (r11, .inl (cA12, 64, .inl (fun j => bI ((fun _ => (0 : Int)) j)))), (q13, .inr (2, [.ref b17, .ref h18, .ref rw19, .int (iI 0), .int (iI 0)])), (rw19, .inl (cR20, 64, .inl (fun j => iI ((fun _ => (0 : Int)) j)))), (h18, .inr (1, [.int (iI 0), .int (iI 0), .int (iI 0), .int (iI 0), .int (iI 0), .int (iI 0)])), (b17, .inr (0, [.ref r21, .int (iI 0)])), (r21, .inl (cA22, 64, .inl (fun j => bI ((fun _ => (0 : Int)) j)))), (q23, .inr (2, [.null, .null, .null, .int (iI 0), .int (iI 0)]))] H := hP
  have hD : va_D A [(x, .inr (3, [.ref q1, .ref q7, .ref q13, .null])), (q1, .inr (0, [.ref r5, .int (iI 0)])), (r5, .inl (cA6, 64, .inl (fun j => bI ((fun _ => (0 : Int)) j)))), (q7, .inr (0, [.ref r11, .int (iI 0)])), (r11, .inl (cA12, 64, .inl (fun j => bI ((fun _ => (0 : Int)) j)))), (q13, .inr (2, [.ref b17, .ref h18, .ref rw19, .int (iI 0), .int (iI 0)])), (rw19, .inl (cR20, 64, .inl (fun j => iI ((fun _ => (0 : Int)) j)))), (h18, .inr (1, [.int (iI 0), .int (iI 0), .int (iI 0), .int (iI 0), .int (iI 0), .int (iI 0)])), (b17, .inr (0, [.ref r21, .int (iI 0)])), (r21, .inl (cA22, 64, .inl (fun j => bI ((fun _ => (0 : Int)) j)))), (q23, .inr (2, [.null, .null, .null, .int (iI 0), .int (iI 0)]))] := hD
  refine lv_dup hx hb dX3_init_41 rfl ?_
  have hPc := hP.sub (ws' := [(q23, .inr (2, [.null, .null, .null, .int (iI 0), .int (iI 0)]))]) [10] rfl
  have hDc := hD.sub (ws' := [(q23, .inr (2, [.null, .null, .null, .int (iI 0), .int (iI 0)]))]) [10] (by decide) rfl
  have hKc := hK.sub (tys' := []) [] rfl
  have hFc := va_free (wc := [(q23, .inr (2, [.null, .null, .null, .int (iI 0), .int (iI 0)]))]) hD hS hA [10] rfl
  refine mv_call (mv_runI (As := []) (rest := [.ref q23, .ref x]) ⟨hx, hb, hml, hown, hT⟩ (c_N_new l dC dI H.size q23 ) (cwI 0 hT (giT wd68) rfl rfl rfl (hT _ wd28) (hT _ wd66) (hT _ wd67) rfl (by decide +kernel) ⟨show 2 + 1 ≤ 3 from by omega, show 8 + (1 + 11) + 100 ≤ 140 from by omega⟩) ⟨fun a U g mk q => by obtain ⟨q0, q1, qP, qK, qD⟩ := q; exact ⟨q0, q1, qP, va_K.moved (u := U) (U := U.calling g mk a) (Vm.Alike.refl U.vm) qK, qD⟩, fun U hU hW => ⟨rfl, by rw [hU], by rw [hU]; exact hPc, va_K.moved hW.alike hKc, hDc.weaken (fun _ _ _ _ => trivial)⟩⟩ rfl rfl hl.1 rfl (lv_room (Nat.le_of_ble_eq_true rfl)) dX3_init_42 ⟨show 0 + 1 + 1 + 1 + 1 + 1 + 4 + 1 + 4 ≤ 14 from by omega, show 0 + 2 + 64 + 2 + 64 + 5 + 136 + 5 + 136 ≤ 414 from by omega⟩) hS (fun q _ h => hFc q h) hFc (fun v26 u k24 n25 tS H1 locs ht hvm hw hB hz1 hk1 hS => ?_)
  obtain ⟨b27, h28, rw29, cR30, r31, cA32⟩ := u
  obtain ⟨hP1, hK1, hD1⟩ := hB
  rw [ht] at hP1
  have hK1 := va_K.moved hvm.symm hK1
  try dsimp only at hw
  obtain ⟨hP, hD⟩ := va_join (wr := [(x, .inr (3, [.ref q1, .ref q7, .ref q13, .null])), (q1, .inr (0, [.ref r5, .int (iI 0)])), (r5, .inl (cA6, 64, .inl (fun j => bI ((fun _ => (0 : Int)) j)))), (q7, .inr (0, [.ref r11, .int (iI 0)])), (r11, .inl (cA12, 64, .inl (fun j => bI ((fun _ => (0 : Int)) j)))), (q13, .inr (2, [.ref b17, .ref h18, .ref rw19, .int (iI 0), .int (iI 0)])), (rw19, .inl (cR20, 64, .inl (fun j => iI ((fun _ => (0 : Int)) j)))), (h18, .inr (1, [.int (iI 0), .int (iI 0), .int (iI 0), .int (iI 0), .int (iI 0), .int (iI 0)])), (b17, .inr (0, [.ref r21, .int (iI 0)])), (r21, .inl (cA22, 64, .inl (fun j => bI ((fun _ => (0 : Int)) j))))]) (w1 := [(q23, .inr (2, [.ref b27, .ref h28, .ref rw29, .int (iI 0), .int (iI 0)])), (rw29, .inl (cR30, 64, .inl (fun j => iI ((fun _ => (0 : Int)) j)))), (h28, .inr (1, [.int (iI 0), .int (iI 0), .int (iI 0), .int (iI 0), .int (iI 0), .int (iI 0)])), (b27, .inr (0, [.ref r31, .int (iI 0)])), (r31, .inl (cA32, 64, .inl (fun j => bI ((fun _ => (0 : Int)) j))))]) hP hD [10] [0, 1, 2, 3, 4, 5, 6, 7, 8, 9] rfl rfl (by decide) (by decide) hk1 hFc hP1 hD1
  have hK := (hK.sub (tys' := [(cA6, .byte), (cA12, .byte), (cR20, .int), (cA22, .byte)]) [0, 1, 2, 3] rfl).app hK1
  generalize H1 = H at hP hS ⊢
  have hP : va_P (dC, dI) vwCl [(x, .inr (3, [.ref q1, .ref q7, .ref q13, .null])), (q1, .inr (0, [.ref r5, .int (iI 0)])), (r5, .inl (cA6, 64, .inl (fun j => bI ((fun _ => (0 : Int)) j)))), (q7, .inr (0, [.ref r11, .int (iI 0)])), (r11, .inl (cA12, 64, .inl (fun j => bI ((fun _ => (0 : Int)) j)))), (q13, .inr (2, [.ref b17, .ref h18, .ref rw19, .int (iI 0), .int (iI 0)])), (rw19, .inl (cR20, 64, .inl (fun j => iI ((fun _ => (0 : Int)) j)))), (h18, .inr (1, [.int (iI 0), .int (iI 0), .int (iI 0), .int (iI 0), .int (iI 0), .int (iI 0)])), (b17, .inr (0, [.ref r21, .int (iI 0)])), (r21, .inl (cA22, 64, .inl (fun j => bI ((fun _ => (0 : Int)) j)))), (q23, .inr (2, [.ref b27, .ref h28, .ref rw29, .int (iI 0), .int (iI 0)])), (rw29, .inl (cR30, 64, .inl (fun j => iI ((fun _ => (0 : Int)) j)))), (h28, .inr (1, [.int (iI 0), .int (iI 0), .int (iI 0), .int (iI 0), .int (iI 0), .int (iI 0)])), (b27, .inr (0, [.ref r31, .int (iI 0)])), (r31, .inl (cA32, 64, .inl (fun j => bI ((fun _ => (0 : Int)) j))))] H := hP
  have hD : va_D A [(x, .inr (3, [.ref q1, .ref q7, .ref q13, .null])), (q1, .inr (0, [.ref r5, .int (iI 0)])), (r5, .inl (cA6, 64, .inl (fun j => bI ((fun _ => (0 : Int)) j)))), (q7, .inr (0, [.ref r11, .int (iI 0)])), (r11, .inl (cA12, 64, .inl (fun j => bI ((fun _ => (0 : Int)) j)))), (q13, .inr (2, [.ref b17, .ref h18, .ref rw19, .int (iI 0), .int (iI 0)])), (rw19, .inl (cR20, 64, .inl (fun j => iI ((fun _ => (0 : Int)) j)))), (h18, .inr (1, [.int (iI 0), .int (iI 0), .int (iI 0), .int (iI 0), .int (iI 0), .int (iI 0)])), (b17, .inr (0, [.ref r21, .int (iI 0)])), (r21, .inl (cA22, 64, .inl (fun j => bI ((fun _ => (0 : Int)) j)))), (q23, .inr (2, [.ref b27, .ref h28, .ref rw29, .int (iI 0), .int (iI 0)])), (rw29, .inl (cR30, 64, .inl (fun j => iI ((fun _ => (0 : Int)) j)))), (h28, .inr (1, [.int (iI 0), .int (iI 0), .int (iI 0), .int (iI 0), .int (iI 0), .int (iI 0)])), (b27, .inr (0, [.ref r31, .int (iI 0)])), (r31, .inl (cA32, 64, .inl (fun j => bI ((fun _ => (0 : Int)) j))))] := hD
  have hK : va_K (dC, dI) vwCl [(cA6, .byte), (cA12, .byte), (cR20, .int), (cA22, .byte), (cR30, .int), (cA32, .byte)] s := hK
  obtain ⟨rfl, rfl, rfl⟩ := hw
  refine W.eq (g2 := F0 m 45 ls [.ref q23, .ref x]) rfl ?_
  refine va_put (D := (dC, dI)) (ci := 3) (v := .ref q23) (ty := .object "RuleReader$Nodes") (C := RX3) (T := TX3) (N := 4) hx hb hT inX3 tyX3 tyX3_ok nX3 hown hK hP hD hS 0 rfl rfl 3 (by decide) (hT _ wd123) (fun _ h9 => h9) rfl (by decide +kernel) rfl rfl (Nat.le_of_ble_eq_true rfl) dX3_init_45 (fun H locs hP hD hS => ?_)
  have hP : va_P (dC, dI) vwCl [(x, .inr (3, [.ref q1, .ref q7, .ref q13, .ref q23])), (q1, .inr (0, [.ref r5, .int (iI 0)])), (r5, .inl (cA6, 64, .inl (fun j => bI ((fun _ => (0 : Int)) j)))), (q7, .inr (0, [.ref r11, .int (iI 0)])), (r11, .inl (cA12, 64, .inl (fun j => bI ((fun _ => (0 : Int)) j)))), (q13, .inr (2, [.ref b17, .ref h18, .ref rw19, .int (iI 0), .int (iI 0)])), (rw19, .inl (cR20, 64, .inl (fun j => iI ((fun _ => (0 : Int)) j)))), (h18, .inr (1, [.int (iI 0), .int (iI 0), .int (iI 0), .int (iI 0), .int (iI 0), .int (iI 0)])), (b17, .inr (0, [.ref r21, .int (iI 0)])), (r21, .inl (cA22, 64, .inl (fun j => bI ((fun _ => (0 : Int)) j)))), (q23, .inr (2, [.ref b27, .ref h28, .ref rw29, .int (iI 0), .int (iI 0)])), (rw29, .inl (cR30, 64, .inl (fun j => iI ((fun _ => (0 : Int)) j)))), (h28, .inr (1, [.int (iI 0), .int (iI 0), .int (iI 0), .int (iI 0), .int (iI 0), .int (iI 0)])), (b27, .inr (0, [.ref r31, .int (iI 0)])), (r31, .inl (cA32, 64, .inl (fun j => bI ((fun _ => (0 : Int)) j))))] H := hP
  have hD : va_D A [(x, .inr (3, [.ref q1, .ref q7, .ref q13, .ref q23])), (q1, .inr (0, [.ref r5, .int (iI 0)])), (r5, .inl (cA6, 64, .inl (fun j => bI ((fun _ => (0 : Int)) j)))), (q7, .inr (0, [.ref r11, .int (iI 0)])), (r11, .inl (cA12, 64, .inl (fun j => bI ((fun _ => (0 : Int)) j)))), (q13, .inr (2, [.ref b17, .ref h18, .ref rw19, .int (iI 0), .int (iI 0)])), (rw19, .inl (cR20, 64, .inl (fun j => iI ((fun _ => (0 : Int)) j)))), (h18, .inr (1, [.int (iI 0), .int (iI 0), .int (iI 0), .int (iI 0), .int (iI 0), .int (iI 0)])), (b17, .inr (0, [.ref r21, .int (iI 0)])), (r21, .inl (cA22, 64, .inl (fun j => bI ((fun _ => (0 : Int)) j)))), (q23, .inr (2, [.ref b27, .ref h28, .ref rw29, .int (iI 0), .int (iI 0)])), (rw29, .inl (cR30, 64, .inl (fun j => iI ((fun _ => (0 : Int)) j)))), (h28, .inr (1, [.int (iI 0), .int (iI 0), .int (iI 0), .int (iI 0), .int (iI 0), .int (iI 0)])), (b27, .inr (0, [.ref r31, .int (iI 0)])), (r31, .inl (cA32, 64, .inl (fun j => bI ((fun _ => (0 : Int)) j))))] := hD
  have hP9 := hP.sub (ws' := [(x, .inr (3, [.ref q1, .ref q7, .ref q13, .ref q23])), (q1, .inr (0, [.ref r5, .int (iI 0)])), (r5, .inl (cA6, 64, .inl (fun j => bI ((fun _ => (0 : Int)) j)))), (q7, .inr (0, [.ref r11, .int (iI 0)])), (r11, .inl (cA12, 64, .inl (fun j => bI ((fun _ => (0 : Int)) j)))), (q13, .inr (2, [.ref b17, .ref h18, .ref rw19, .int (iI 0), .int (iI 0)])), (rw19, .inl (cR20, 64, .inl (fun j => iI ((fun _ => (0 : Int)) j)))), (h18, .inr (1, [.int (iI 0), .int (iI 0), .int (iI 0), .int (iI 0), .int (iI 0), .int (iI 0)])), (b17, .inr (0, [.ref r21, .int (iI 0)])), (r21, .inl (cA22, 64, .inl (fun j => bI ((fun _ => (0 : Int)) j)))), (q23, .inr (2, [.ref b27, .ref h28, .ref rw29, .int (iI 0), .int (iI 0)])), (rw29, .inl (cR30, 64, .inl (fun j => iI ((fun _ => (0 : Int)) j)))), (h28, .inr (1, [.int (iI 0), .int (iI 0), .int (iI 0), .int (iI 0), .int (iI 0), .int (iI 0)])), (b27, .inr (0, [.ref r31, .int (iI 0)])), (r31, .inl (cA32, 64, .inl (fun j => bI ((fun _ => (0 : Int)) j))))]) [0, 1, 2, 3, 4, 5, 6, 7, 8, 9, 10, 11, 12, 13, 14] rfl
  have hD9 := hD.sub (ws' := [(x, .inr (3, [.ref q1, .ref q7, .ref q13, .ref q23])), (q1, .inr (0, [.ref r5, .int (iI 0)])), (r5, .inl (cA6, 64, .inl (fun j => bI ((fun _ => (0 : Int)) j)))), (q7, .inr (0, [.ref r11, .int (iI 0)])), (r11, .inl (cA12, 64, .inl (fun j => bI ((fun _ => (0 : Int)) j)))), (q13, .inr (2, [.ref b17, .ref h18, .ref rw19, .int (iI 0), .int (iI 0)])), (rw19, .inl (cR20, 64, .inl (fun j => iI ((fun _ => (0 : Int)) j)))), (h18, .inr (1, [.int (iI 0), .int (iI 0), .int (iI 0), .int (iI 0), .int (iI 0), .int (iI 0)])), (b17, .inr (0, [.ref r21, .int (iI 0)])), (r21, .inl (cA22, 64, .inl (fun j => bI ((fun _ => (0 : Int)) j)))), (q23, .inr (2, [.ref b27, .ref h28, .ref rw29, .int (iI 0), .int (iI 0)])), (rw29, .inl (cR30, 64, .inl (fun j => iI ((fun _ => (0 : Int)) j)))), (h28, .inr (1, [.int (iI 0), .int (iI 0), .int (iI 0), .int (iI 0), .int (iI 0), .int (iI 0)])), (b27, .inr (0, [.ref r31, .int (iI 0)])), (r31, .inl (cA32, 64, .inl (fun j => bI ((fun _ => (0 : Int)) j))))]) [0, 1, 2, 3, 4, 5, 6, 7, 8, 9, 10, 11, 12, 13, 14] (by decide) rfl
  have hK9 := hK.sub (tys' := [(cA6, .byte), (cA12, .byte), (cR20, .int), (cA22, .byte), (cR30, .int), (cA32, .byte)]) [0, 1, 2, 3, 4, 5] rfl
  exact mv_vret hx hb hr hlocks (fun tS ht hW => ⟨⟨_, (q1, r5, cA6, q7, r11, cA12, q13, b17, h18, rw19, cR20, r21, cA22, q23, b27, h28, rw29, cR30, r31, cA32), rfl, ⟨rfl, rfl, rfl⟩, by rw [ht]; exact hP9, va_K.moved hW.alike hK9, hD9⟩, hS.F ht⟩) hS.2.2 dX3_init_48
