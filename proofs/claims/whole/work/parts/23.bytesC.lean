set_option maxHeartbeats 4000000 in
set_option maxRecDepth 100000 in
theorem c_B_lay (l : Launch) (dC : Nat → ClassId) (dI : Nat → Nat → Nat) (sz : Nat) (b : Nat) (r : Nat) (cA : ClassId) (w : Nat) (t : Nat → Int) (z : Int) (r2 : Nat) (cA2 : ClassId) (w2 : Nat) (t2 : Nat → Int) (x : Int) (y : Int) (hw : w ≤ 4096 ∧ w2 ≤ 4096) (hx8 : 0 ≤ x ∧ x ≤ w2) (hy : 0 ≤ y ∧ y + x ≤ w) : mv_Met l yX0_layOver wsX0_layOver ({ frames := 1, cells := 0, slots := 0, locals := 60 }) (va_Pc [.ref b, .ref r2, .int (iI x), .int (iI y)] (fun U => U.heap.size = sz ∧ va_P (dC, dI) vwCl [(b, .inr (0, [.ref r, .int (iI z)])), (r, .inl (cA, w, .inl (fun j => bI (t j)))), (r2, .inl (cA2, w2, .inl (fun j => bI (t2 j))))] U.heap ∧ va_K (dC, dI) vwCl [(cA, .byte), (cA2, .byte)] U ∧ va_D (fun _ => True) [(b, .inr (0, [.ref r, .int (iI z)])), (r, .inl (cA, w, .inl (fun j => bI (t j)))), (r2, .inl (cA2, w2, .inl (fun j => bI (t2 j))))])) (mv_Q (fun (v : Option Value) (_ : Unit) (k n : Nat) => v = none ∧ k = 0 ∧ n = 0) (fun (_ : Unit) (tS : State) => va_P (dC, dI) vwCl [(b, .inr (0, [.ref r, .int (iI z)])), (r, .inl (cA, w, .inl (fun j => bI ((va_cpy t2 t (0 : Int).toNat (y : Int).toNat (x : Int).toNat) j)))), (r2, .inl (cA2, w2, .inl (fun j => bI (t2 j))))] tS.heap ∧ va_K (dC, dI) vwCl [(cA, .byte), (cA2, .byte)] tS ∧ va_D (va_A [(b, .inr (0, [.ref r, .int (iI z)])), (r, .inl (cA, w, .inl (fun j => bI (t j)))), (r2, .inl (cA2, w2, .inl (fun j => bI (t2 j))))] sz) [(b, .inr (0, [.ref r, .int (iI z)])), (r, .inl (cA, w, .inl (fun j => bI ((va_cpy t2 t (0 : Int).toNat (y : Int).toNat (x : Int).toNat) j)))), (r2, .inl (cA2, w2, .inl (fun j => bI (t2 j))))]) (va_A [(b, .inr (0, [.ref r, .int (iI z)])), (r, .inl (cA, w, .inl (fun j => bI (t j)))), (r2, .inl (cA2, w2, .inl (fun j => bI (t2 j))))] sz)) (va_A [(b, .inr (0, [.ref r, .int (iI z)])), (r, .inl (cA, w, .inl (fun j => bI (t j)))), (r2, .inl (cA2, w2, .inl (fun j => bI (t2 j))))] sz) := by
  refine mv_ofW (cc := cX0_layOver) (maxL := 4) (ret := none) (by decide) rfl ?_
  intro p e s m args below meth c s₁ B hml hv
  obtain ⟨rfl, hsz, hP, hK, hD0⟩ := hv
  have hx := B.exec
  have hb := B.bytes
  have hr := B.returns
  have hT : ∀ w ∈ wT, w.before _ s = true := fun w h => atoms_spec (ws := wsX0_layOver) B.pre w (List.mem_cons_of_mem _ h)
  have hown : s.vm.findClass RX0 = some m.cls := findClass_of_methodNamed B.named
  have hlocks := B.notSynchronized
  subst hsz
  have hD := hD0.self (sz := s.heap.size)
  generalize hAe : va_A [(b, .inr (0, [.ref r, .int (iI z)])), (r, .inl (cA, w, .inl (fun j => bI (t j)))), (r2, .inl (cA2, w2, .inl (fun j => bI (t2 j))))] s.heap.size = A at hD ⊢
  have hA : ∀ q : Nat, s.heap.size ≤ q → A q := fun q h => by rw [← hAe]; exact Or.inr h
  have hS : va_S A s.heap s.heap [] := va_S.rf
  have hP : va_P (dC, dI) vwCl [(b, .inr (0, [.ref r, .int (iI z)])), (r, .inl (cA, w, .inl (fun j => bI (t j)))), (r2, .inl (cA2, w2, .inl (fun j => bI (t2 j))))] s.heap := hP
  have hl := lv_entry ([.ref b, .ref r2, .int (iI x), .int (iI y)]) (n := 4) (Nat.le_of_ble_eq_true rfl)
  rw [lg_entry_eq]
  generalize (lg_sl ([.ref b, .ref r2, .int (iI x), .int (iI y)]) ++ List.replicate (4 - (lg_sl ([.ref b, .ref r2, .int (iI x), .int (iI y)])).length) Slot.unset).toArray = ls at hl ⊢
  have hl : lv_has ls 4 [(0, .ref b), (1, .ref r2), (2, .int (iI x)), (3, .int (iI y))] := hl
  refine lv_iload_n hx hb dX0_layOver_0 rfl (lv_at hl 2 rfl) ?_
  refine li_if_lt (tgt := 36) hx hb (by omega) dX0_layOver_1 (by decide) (fun c1 => absurd c1 (by omega)) (fun c1 => ?_)
  refine lv_iload_n hx hb dX0_layOver_4 rfl (lv_at hl 2 rfl) ?_
  refine lv_aload_n hx hb dX0_layOver_5 rfl (lv_at hl 1 rfl) ?_
  refine li_alen hx hb hK hP 2 1 rfl rfl dX0_layOver_6 ?_
  refine li_icmp_gt (tgt := 36) hx hb (by omega) (by omega) dX0_layOver_7 (by decide) (fun c2 => absurd c2 (by omega)) (fun c2 => ?_)
  refine lv_iload_n hx hb dX0_layOver_10 rfl (lv_at hl 3 rfl) ?_
  refine li_if_lt (tgt := 36) hx hb (by omega) dX0_layOver_11 (by decide) (fun c3 => absurd c3 (by omega)) (fun c3 => ?_)
  refine lv_iload_n hx hb dX0_layOver_14 rfl (lv_at hl 3 rfl) ?_
  refine lv_aload_n hx hb dX0_layOver_15 rfl (lv_at hl 0 rfl) ?_
  refine va_get (D := (dC, dI)) (ci := 0) (v := .ref r) (C := RX0) (T := TX0) (N := 2) hx hb hT inX0 hown hK hP 0 rfl rfl 0 (by decide) (hT _ wd56) (fun _ h9 => h9) rfl dX0_layOver_16 ?_
  refine li_alen hx hb hK hP 1 0 rfl rfl dX0_layOver_19 ?_
  refine lv_iload_n hx hb dX0_layOver_20 rfl (lv_at hl 2 rfl) ?_
  refine li_isub hx hb dX0_layOver_21 ?_
  refine li_icmp_gt (tgt := 36) hx hb (by omega) (by omega) dX0_layOver_22 (by decide) (fun c4 => absurd c4 (by omega)) (fun c4 => ?_)
  refine lv_aload_n hx hb dX0_layOver_25 rfl (lv_at hl 1 rfl) ?_
  refine lv_iconst (v := iI 0) hx hb dX0_layOver_26 rfl ?_
  refine lv_aload_n hx hb dX0_layOver_27 rfl (lv_at hl 0 rfl) ?_
  refine va_get (D := (dC, dI)) (ci := 0) (v := .ref r) (C := RX0) (T := TX0) (N := 2) hx hb hT inX0 hown hK hP 0 rfl rfl 0 (by decide) (hT _ wd56) (fun _ h9 => h9) rfl dX0_layOver_28 ?_
  refine lv_iload_n hx hb dX0_layOver_31 rfl (lv_at hl 3 rfl) ?_
  refine lv_iload_n hx hb dX0_layOver_32 rfl (lv_at hl 2 rfl) ?_
  refine li_copyb hx hb (hml.trans hl.1.symm) hown (hT _ wd307) (hT _ wd245) (hT _ wd244) (hT _ wd37) hK hP hD hS 2 1 1 0 rfl rfl rfl rfl (by omega) (by omega) (by omega) (by omega) (by show 1 ≤ 1; omega) (by show _ ≤ 60; decide +kernel) dX0_layOver_33 (fun H locs hP hD hS => ?_)
  have hP : va_P (dC, dI) vwCl [(b, .inr (0, [.ref r, .int (iI z)])), (r, .inl (cA, w, .inl (fun j => bI ((va_cpy t2 t (0 : Int).toNat (y : Int).toNat (x : Int).toNat) j)))), (r2, .inl (cA2, w2, .inl (fun j => bI (t2 j))))] H := hP
  have hD : va_D A [(b, .inr (0, [.ref r, .int (iI z)])), (r, .inl (cA, w, .inl (fun j => bI ((va_cpy t2 t (0 : Int).toNat (y : Int).toNat (x : Int).toNat) j)))), (r2, .inl (cA2, w2, .inl (fun j => bI (t2 j))))] := hD
  have hP9 := hP.sub (ws' := [(b, .inr (0, [.ref r, .int (iI z)])), (r, .inl (cA, w, .inl (fun j => bI ((va_cpy t2 t (0 : Int).toNat (y : Int).toNat (x : Int).toNat) j)))), (r2, .inl (cA2, w2, .inl (fun j => bI (t2 j))))]) [0, 1, 2] rfl
  have hD9 := hD.sub (ws' := [(b, .inr (0, [.ref r, .int (iI z)])), (r, .inl (cA, w, .inl (fun j => bI ((va_cpy t2 t (0 : Int).toNat (y : Int).toNat (x : Int).toNat) j)))), (r2, .inl (cA2, w2, .inl (fun j => bI (t2 j))))]) [0, 1, 2] (by decide) rfl
  have hK9 := hK.sub (tys' := [(cA, .byte), (cA2, .byte)]) [0, 1] rfl
  exact mv_vret hx hb hr hlocks (fun tS ht hW => ⟨⟨_, (), rfl, ⟨rfl, rfl, rfl⟩, by rw [ht]; exact hP9, va_K.moved hW.alike hK9, hD9⟩, hS.F ht⟩) hS.2.2 dX0_layOver_36
set_option maxHeartbeats 4000000 in
set_option maxRecDepth 100000 in
theorem c_B_layS (l : Launch) (dC : Nat → ClassId) (dI : Nat → Nat → Nat) (sz : Nat) (b : Nat) (r : Nat) (cA : ClassId) (w : Nat) (t : Nat → Int) (z : Int) (x : Int) (y : Int) (hw : w ≤ 4096) (hx8 : 0 ≤ x ∧ x ≤ w) (hy : 0 ≤ y ∧ y + x ≤ w) : mv_Met l yX0_layOver wsX0_layOver ({ frames := 1, cells := 0, slots := 0, locals := 60 }) (va_Pc [.ref b, .ref r, .int (iI x), .int (iI y)] (fun U => U.heap.size = sz ∧ va_P (dC, dI) vwCl [(b, .inr (0, [.ref r, .int (iI z)])), (r, .inl (cA, w, .inl (fun j => bI (t j))))] U.heap ∧ va_K (dC, dI) vwCl [(cA, .byte)] U ∧ va_D (fun _ => True) [(b, .inr (0, [.ref r, .int (iI z)])), (r, .inl (cA, w, .inl (fun j => bI (t j))))])) (mv_Q (fun (v : Option Value) (_ : Unit) (k n : Nat) => v = none ∧ k = 0 ∧ n = 0) (fun (_ : Unit) (tS : State) => va_P (dC, dI) vwCl [(b, .inr (0, [.ref r, .int (iI z)])), (r, .inl (cA, w, .inl (fun j => bI ((va_cpy t t (0 : Int).toNat (y : Int).toNat (x : Int).toNat) j))))] tS.heap ∧ va_K (dC, dI) vwCl [(cA, .byte)] tS ∧ va_D (va_A [(b, .inr (0, [.ref r, .int (iI z)])), (r, .inl (cA, w, .inl (fun j => bI (t j))))] sz) [(b, .inr (0, [.ref r, .int (iI z)])), (r, .inl (cA, w, .inl (fun j => bI ((va_cpy t t (0 : Int).toNat (y : Int).toNat (x : Int).toNat) j))))]) (va_A [(b, .inr (0, [.ref r, .int (iI z)])), (r, .inl (cA, w, .inl (fun j => bI (t j))))] sz)) (va_A [(b, .inr (0, [.ref r, .int (iI z)])), (r, .inl (cA, w, .inl (fun j => bI (t j))))] sz) := by
  refine mv_ofW (cc := cX0_layOver) (maxL := 4) (ret := none) (by decide) rfl ?_
  intro p e s m args below meth c s₁ B hml hv
  obtain ⟨rfl, hsz, hP, hK, hD0⟩ := hv
  have hx := B.exec
  have hb := B.bytes
  have hr := B.returns
  have hT : ∀ w ∈ wT, w.before _ s = true := fun w h => atoms_spec (ws := wsX0_layOver) B.pre w (List.mem_cons_of_mem _ h)
  have hown : s.vm.findClass RX0 = some m.cls := findClass_of_methodNamed B.named
  have hlocks := B.notSynchronized
  subst hsz
  have hD := hD0.self (sz := s.heap.size)
  generalize hAe : va_A [(b, .inr (0, [.ref r, .int (iI z)])), (r, .inl (cA, w, .inl (fun j => bI (t j))))] s.heap.size = A at hD ⊢
  have hA : ∀ q : Nat, s.heap.size ≤ q → A q := fun q h => by rw [← hAe]; exact Or.inr h
  have hS : va_S A s.heap s.heap [] := va_S.rf
  have hP : va_P (dC, dI) vwCl [(b, .inr (0, [.ref r, .int (iI z)])), (r, .inl (cA, w, .inl (fun j => bI (t j))))] s.heap := hP
  have hl := lv_entry ([.ref b, .ref r, .int (iI x), .int (iI y)]) (n := 4) (Nat.le_of_ble_eq_true rfl)
  rw [lg_entry_eq]
  generalize (lg_sl ([.ref b, .ref r, .int (iI x), .int (iI y)]) ++ List.replicate (4 - (lg_sl ([.ref b, .ref r, .int (iI x), .int (iI y)])).length) Slot.unset).toArray = ls at hl ⊢
  have hl : lv_has ls 4 [(0, .ref b), (1, .ref r), (2, .int (iI x)), (3, .int (iI y))] := hl
  refine lv_iload_n hx hb dX0_layOver_0 rfl (lv_at hl 2 rfl) ?_
  refine li_if_lt (tgt := 36) hx hb (by omega) dX0_layOver_1 (by decide) (fun c1 => absurd c1 (by omega)) (fun c1 => ?_)
  refine lv_iload_n hx hb dX0_layOver_4 rfl (lv_at hl 2 rfl) ?_
  refine lv_aload_n hx hb dX0_layOver_5 rfl (lv_at hl 1 rfl) ?_
  refine li_alen hx hb hK hP 1 0 rfl rfl dX0_layOver_6 ?_
  refine li_icmp_gt (tgt := 36) hx hb (by omega) (by omega) dX0_layOver_7 (by decide) (fun c2 => absurd c2 (by omega)) (fun c2 => ?_)
  refine lv_iload_n hx hb dX0_layOver_10 rfl (lv_at hl 3 rfl) ?_
  refine li_if_lt (tgt := 36) hx hb (by omega) dX0_layOver_11 (by decide) (fun c3 => absurd c3 (by omega)) (fun c3 => ?_)
  refine lv_iload_n hx hb dX0_layOver_14 rfl (lv_at hl 3 rfl) ?_
  refine lv_aload_n hx hb dX0_layOver_15 rfl (lv_at hl 0 rfl) ?_
  refine va_get (D := (dC, dI)) (ci := 0) (v := .ref r) (C := RX0) (T := TX0) (N := 2) hx hb hT inX0 hown hK hP 0 rfl rfl 0 (by decide) (hT _ wd56) (fun _ h9 => h9) rfl dX0_layOver_16 ?_
  refine li_alen hx hb hK hP 1 0 rfl rfl dX0_layOver_19 ?_
  refine lv_iload_n hx hb dX0_layOver_20 rfl (lv_at hl 2 rfl) ?_
  refine li_isub hx hb dX0_layOver_21 ?_
  refine li_icmp_gt (tgt := 36) hx hb (by omega) (by omega) dX0_layOver_22 (by decide) (fun c4 => absurd c4 (by omega)) (fun c4 => ?_)
  refine lv_aload_n hx hb dX0_layOver_25 rfl (lv_at hl 1 rfl) ?_
  refine lv_iconst (v := iI 0) hx hb dX0_layOver_26 rfl ?_
  refine lv_aload_n hx hb dX0_layOver_27 rfl (lv_at hl 0 rfl) ?_
  refine va_get (D := (dC, dI)) (ci := 0) (v := .ref r) (C := RX0) (T := TX0) (N := 2) hx hb hT inX0 hown hK hP 0 rfl rfl 0 (by decide) (hT _ wd56) (fun _ h9 => h9) rfl dX0_layOver_28 ?_
  refine lv_iload_n hx hb dX0_layOver_31 rfl (lv_at hl 3 rfl) ?_
  refine lv_iload_n hx hb dX0_layOver_32 rfl (lv_at hl 2 rfl) ?_
  refine li_copyb hx hb (hml.trans hl.1.symm) hown (hT _ wd307) (hT _ wd245) (hT _ wd244) (hT _ wd37) hK hP hD hS 1 1 0 0 rfl rfl rfl rfl (by omega) (by omega) (by omega) (by omega) (by show 1 ≤ 1; omega) (by show _ ≤ 60; decide +kernel) dX0_layOver_33 (fun H locs hP hD hS => ?_)
  have hP : va_P (dC, dI) vwCl [(b, .inr (0, [.ref r, .int (iI z)])), (r, .inl (cA, w, .inl (fun j => bI ((va_cpy t t (0 : Int).toNat (y : Int).toNat (x : Int).toNat) j))))] H := hP
  have hD : va_D A [(b, .inr (0, [.ref r, .int (iI z)])), (r, .inl (cA, w, .inl (fun j => bI ((va_cpy t t (0 : Int).toNat (y : Int).toNat (x : Int).toNat) j))))] := hD
  have hP9 := hP.sub (ws' := [(b, .inr (0, [.ref r, .int (iI z)])), (r, .inl (cA, w, .inl (fun j => bI ((va_cpy t t (0 : Int).toNat (y : Int).toNat (x : Int).toNat) j))))]) [0, 1] rfl
  have hD9 := hD.sub (ws' := [(b, .inr (0, [.ref r, .int (iI z)])), (r, .inl (cA, w, .inl (fun j => bI ((va_cpy t t (0 : Int).toNat (y : Int).toNat (x : Int).toNat) j))))]) [0, 1] (by decide) rfl
  have hK9 := hK.sub (tys' := [(cA, .byte)]) [0] rfl
  exact mv_vret hx hb hr hlocks (fun tS ht hW => ⟨⟨_, (), rfl, ⟨rfl, rfl, rfl⟩, by rw [ht]; exact hP9, va_K.moved hW.alike hK9, hD9⟩, hS.F ht⟩) hS.2.2 dX0_layOver_36
set_option maxHeartbeats 4000000 in
set_option maxRecDepth 100000 in
theorem c_B_put (l : Launch) (dC : Nat → ClassId) (dI : Nat → Nat → Nat) (sz : Nat) (b : Nat) (r : Nat) (cA : ClassId) (w : Nat) (t : Nat → Int) (z : Int) (L : List Int) (b2 : Nat) (r2 : Nat) (cA2 : ClassId) (w2 : Nat) (t2 : Nat → Int) (z2 : Int) (L2 : List Int) (hok : okB w t z L) (hok2 : okB w2 t2 z2 L2) (hl4 : z + z2 ≤ 4096) : mv_Met l yX0_putBehind wsX0_putBehind ({ frames := 3, cells := (phB w), slots := (phB w), locals := 130 }) (va_Pc [.ref b, .ref b2] (fun U => U.heap.size = sz ∧ va_P (dC, dI) vwCl [(b, .inr (0, [.ref r, .int (iI z)])), (r, .inl (cA, w, .inl (fun j => bI (t j)))), (b2, .inr (0, [.ref r2, .int (iI z2)])), (r2, .inl (cA2, w2, .inl (fun j => bI (t2 j))))] U.heap ∧ va_K (dC, dI) vwCl [(cA, .byte), (cA2, .byte)] U ∧ va_D (fun _ => True) [(b, .inr (0, [.ref r, .int (iI z)])), (r, .inl (cA, w, .inl (fun j => bI (t j)))), (b2, .inr (0, [.ref r2, .int (iI z2)])), (r2, .inl (cA2, w2, .inl (fun j => bI (t2 j))))])) (mv_Q (fun (v : Option Value) (u : Nat × ClassId × Nat × (Nat → Int) × Int) (k n : Nat) => match u with | (r', cA', w', t', z') => okB w' t' z' (L ++ L2) ∧ (z' = z + z2 ∧ 64 ≤ w' ∧ w' ≤ 4096 ∧ z' ≤ (w' : Int)) ∧ v = none ∧ n + phB w' ≤ phB w ∧ k ≤ n) (fun (u : Nat × ClassId × Nat × (Nat → Int) × Int) (tS : State) => match u with | (r', cA', w', t', z') => va_P (dC, dI) vwCl [(b, .inr (0, [.ref r', .int (iI z')])), (r', .inl (cA', w', .inl (fun j => bI (t' j)))), (b2, .inr (0, [.ref r2, .int (iI z2)])), (r2, .inl (cA2, w2, .inl (fun j => bI (t2 j))))] tS.heap ∧ va_K (dC, dI) vwCl [(cA', .byte), (cA2, .byte)] tS ∧ va_D (va_A [(b, .inr (0, [.ref r, .int (iI z)])), (r, .inl (cA, w, .inl (fun j => bI (t j)))), (b2, .inr (0, [.ref r2, .int (iI z2)])), (r2, .inl (cA2, w2, .inl (fun j => bI (t2 j))))] sz) [(b, .inr (0, [.ref r', .int (iI z')])), (r', .inl (cA', w', .inl (fun j => bI (t' j)))), (b2, .inr (0, [.ref r2, .int (iI z2)])), (r2, .inl (cA2, w2, .inl (fun j => bI (t2 j))))]) (va_A [(b, .inr (0, [.ref r, .int (iI z)])), (r, .inl (cA, w, .inl (fun j => bI (t j)))), (b2, .inr (0, [.ref r2, .int (iI z2)])), (r2, .inl (cA2, w2, .inl (fun j => bI (t2 j))))] sz)) (va_A [(b, .inr (0, [.ref r, .int (iI z)])), (r, .inl (cA, w, .inl (fun j => bI (t j)))), (b2, .inr (0, [.ref r2, .int (iI z2)])), (r2, .inl (cA2, w2, .inl (fun j => bI (t2 j))))] sz) := by
  refine mv_ofW (cc := cX0_putBehind) (maxL := 3) (ret := none) (by decide) rfl ?_
  intro p e s m args below meth c s₁ B hml hv
  obtain ⟨rfl, hsz, hP, hK, hD0⟩ := hv
  have hx := B.exec
  have hb := B.bytes
  have hr := B.returns
  have hT : ∀ w ∈ wT, w.before _ s = true := fun w h => atoms_spec (ws := wsX0_putBehind) B.pre w (List.mem_cons_of_mem _ h)
  have hown : s.vm.findClass RX0 = some m.cls := findClass_of_methodNamed B.named
  have hlocks := B.notSynchronized
  subst hsz
  have hD := hD0.self (sz := s.heap.size)
  generalize hAe : va_A [(b, .inr (0, [.ref r, .int (iI z)])), (r, .inl (cA, w, .inl (fun j => bI (t j)))), (b2, .inr (0, [.ref r2, .int (iI z2)])), (r2, .inl (cA2, w2, .inl (fun j => bI (t2 j))))] s.heap.size = A at hD ⊢
  have hA : ∀ q : Nat, s.heap.size ≤ q → A q := fun q h => by rw [← hAe]; exact Or.inr h
  have hS : va_S A s.heap s.heap [] := va_S.rf
  have hP : va_P (dC, dI) vwCl [(b, .inr (0, [.ref r, .int (iI z)])), (r, .inl (cA, w, .inl (fun j => bI (t j)))), (b2, .inr (0, [.ref r2, .int (iI z2)])), (r2, .inl (cA2, w2, .inl (fun j => bI (t2 j))))] s.heap := hP
  have hl := lv_entry ([.ref b, .ref b2]) (n := 3) (Nat.le_of_ble_eq_true rfl)
  rw [lg_entry_eq]
  generalize (lg_sl ([.ref b, .ref b2]) ++ List.replicate (3 - (lg_sl ([.ref b, .ref b2])).length) Slot.unset).toArray = ls at hl ⊢
  have hl : lv_has ls 3 [(0, .ref b), (1, .ref b2)] := hl
  obtain ⟨hw1, hw2, hw3, hw4, hw5, hw6⟩ := id hok
  obtain ⟨hv1, hv2, hv3, hv4, hv5, hv6⟩ := id hok2
  refine lv_aload_n hx hb dX0_putBehind_0 rfl (lv_at hl 0 rfl) ?_
  refine va_get (D := (dC, dI)) (ci := 0) (v := .int (iI z)) (C := RX0) (T := TX0) (N := 2) hx hb hT inX0 hown hK hP 0 rfl rfl 1 (by decide) (hT _ wd57) (fun _ h9 => h9) rfl dX0_putBehind_1 ?_
  refine lv_istore_n (lv' := [(2, .int (iI z)), (0, .ref b), (1, .ref b2)]) hx hb dX0_putBehind_4 rfl hl (by decide) rfl (fun ls hl => ?_)
  refine lv_aload_n hx hb dX0_putBehind_5 rfl (lv_at hl 1 rfl) ?_
  refine lv_aload_n hx hb dX0_putBehind_6 rfl (lv_at hl 2 rfl) ?_
  refine va_get (D := (dC, dI)) (ci := 0) (v := .int (iI z2)) (C := RX0) (T := TX0) (N := 2) hx hb hT inX0 hown hK hP 2 rfl rfl 1 (by decide) (hT _ wd57) (fun _ h9 => h9) rfl dX0_putBehind_7 ?_
  have hPc := hP.sub (ws' := [(b, .inr (0, [.ref r, .int (iI z)]))]) [0] rfl
  have hDc := hD.sub (ws' := [(b, .inr (0, [.ref r, .int (iI z)]))]) [0] (by decide) rfl
  have hKc := hK.sub (tys' := []) [] rfl
  have hFc := va_free (wc := [(b, .inr (0, [.ref r, .int (iI z)]))]) hD hS hA [0] rfl
  refine mv_call (mv_runV (As := [.int (iI z2)]) (rest := []) ⟨hx, hb, hml, hown, hT⟩ (c_B_room l dC dI s.heap.size b r z z2 (by omega) (by omega)) (cwV 1 hT (gV wd224 wd142 wd143 wd27 wd144) rfl rfl rfl (by decide +kernel) ⟨show 0 + 1 ≤ 3 from by omega, show 8 + (2 + 11) + 0 ≤ 130 from by omega⟩) ⟨fun a U g mk q => by obtain ⟨q0, q1, qP, qK, qD⟩ := q; exact ⟨q0, q1, qP, va_K.moved (u := U) (U := U.calling g mk a) (Vm.Alike.refl U.vm) qK, qD⟩, va_recv hKc hPc (ci := 0) (q0 := 0) rfl rfl, fun U hU hW => ⟨rfl, by rw [hU], by rw [hU]; exact hPc, va_K.moved hW.alike hKc, hDc.weaken (fun _ _ _ _ => trivial)⟩⟩ rfl rfl hl.1 rfl (lv_room (Nat.le_of_ble_eq_true rfl)) dX0_putBehind_10 ⟨show 0 + 0 ≤ (phB w) from by omega, show 0 + 0 ≤ (phB w) from by omega⟩) hS (fun q _ h => hFc q h) hFc (fun v3 u k1 n2 tS H1 locs ht hvm hw hB hz1 hk1 hS => ?_)
  obtain ⟨q4, rfl⟩ : ∃ y, y = u := ⟨_, rfl⟩
  obtain ⟨hP1, hK1, hD1⟩ := hB
  rw [ht] at hP1
  have hK1 := va_K.moved hvm.symm hK1
  try dsimp only at hw
  obtain ⟨hP, hD⟩ := va_join (wr := [(r, .inl (cA, w, .inl (fun j => bI (t j)))), (b2, .inr (0, [.ref r2, .int (iI z2)])), (r2, .inl (cA2, w2, .inl (fun j => bI (t2 j))))]) (w1 := [(b, .inr (0, [.ref r, .int (iI z)]))]) hP hD [0] [1, 2, 3] rfl rfl (by decide) (by decide) hk1 hFc hP1 hD1
  have hK := (hK.sub (tys' := [(cA, .byte), (cA2, .byte)]) [0, 1] rfl).app hK1
  generalize H1 = H at hP hS ⊢
  have hP : va_P (dC, dI) vwCl [(r, .inl (cA, w, .inl (fun j => bI (t j)))), (b2, .inr (0, [.ref r2, .int (iI z2)])), (r2, .inl (cA2, w2, .inl (fun j => bI (t2 j)))), (b, .inr (0, [.ref r, .int (iI z)]))] H := hP
  have hD : va_D A [(r, .inl (cA, w, .inl (fun j => bI (t j)))), (b2, .inr (0, [.ref r2, .int (iI z2)])), (r2, .inl (cA2, w2, .inl (fun j => bI (t2 j)))), (b, .inr (0, [.ref r, .int (iI z)]))] := hD
  have hK : va_K (dC, dI) vwCl [(cA, .byte), (cA2, .byte)] s := hK
  obtain ⟨rfl, hq4, rfl, rfl⟩ := hw
  refine W.eq (g2 := F0 m 13 ls [.int (iI q4)]) rfl ?_
  refine li_if_eq (tgt := 37) hx hb (by omega) dX0_putBehind_13 (by decide) (fun c5 => absurd c5 (by omega)) (fun c5 => ?_)
  refine lv_aload_n hx hb dX0_putBehind_16 rfl (lv_at hl 1 rfl) ?_
  refine lv_aload_n hx hb dX0_putBehind_17 rfl (lv_at hl 2 rfl) ?_
  refine va_get (D := (dC, dI)) (ci := 0) (v := .int (iI z2)) (C := RX0) (T := TX0) (N := 2) hx hb hT inX0 hown hK hP 1 rfl rfl 1 (by decide) (hT _ wd57) (fun _ h9 => h9) rfl dX0_putBehind_18 ?_
  have hPc := hP.sub (ws' := [(b, .inr (0, [.ref r, .int (iI z)])), (r, .inl (cA, w, .inl (fun j => bI (t j))))]) [3, 0] rfl
  have hDc := hD.sub (ws' := [(b, .inr (0, [.ref r, .int (iI z)])), (r, .inl (cA, w, .inl (fun j => bI (t j))))]) [3, 0] (by decide) rfl
  have hKc := hK.sub (tys' := [(cA, .byte)]) [0] rfl
  have hFc := va_free (wc := [(b, .inr (0, [.ref r, .int (iI z)])), (r, .inl (cA, w, .inl (fun j => bI (t j))))]) hD hS hA [3, 0] rfl
  refine mv_call (mv_runV (As := [.int (iI z2)]) (rest := []) ⟨hx, hb, hml, hown, hT⟩ (c_B_len l dC dI H.size b r cA w t z z2 (by omega) (by omega) (by omega) (hw5)) (cwV 1 hT (gV wd225 wd227 wd1 wd27 wd228) rfl rfl rfl (by decide +kernel) ⟨show 2 + 1 ≤ 3 from by omega, show 8 + (3 + 11) + 100 ≤ 130 from by omega⟩) ⟨fun a U g mk q => by obtain ⟨q0, q1, qP, qK, qD⟩ := q; exact ⟨q0, q1, qP, va_K.moved (u := U) (U := U.calling g mk a) (Vm.Alike.refl U.vm) qK, qD⟩, va_recv hKc hPc (ci := 0) (q0 := 0) rfl rfl, fun U hU hW => ⟨rfl, by rw [hU], by rw [hU]; exact hPc, va_K.moved hW.alike hKc, hDc.weaken (fun _ _ _ _ => trivial)⟩⟩ rfl rfl hl.1 rfl (lv_room (Nat.le_of_ble_eq_true rfl)) dX0_putBehind_21 ⟨show 0 + 0 + (phB w) ≤ (phB w) from by omega, show 0 + 0 + (phB w) ≤ (phB w) from by omega⟩) hS (fun q _ h => hFc q h) hFc (fun v8 u k6 n7 tS H1 locs ht hvm hw hB hz1 hk1 hS => ?_)
  obtain ⟨r9, cA10, w11, t12, z13⟩ := u
  obtain ⟨hP1, hK1, hD1⟩ := hB
  rw [ht] at hP1
  have hK1 := va_K.moved hvm.symm hK1
  try dsimp only at hw
  obtain ⟨hP, hD⟩ := va_join (wr := [(b2, .inr (0, [.ref r2, .int (iI z2)])), (r2, .inl (cA2, w2, .inl (fun j => bI (t2 j))))]) (w1 := [(b, .inr (0, [.ref r9, .int (iI z13)])), (r9, .inl (cA10, w11, .inl (fun j => bI (t12 j))))]) hP hD [3, 0] [1, 2] rfl rfl (by decide) (by decide) hk1 hFc hP1 hD1
  have hK := (hK.sub (tys' := [(cA2, .byte)]) [1] rfl).app hK1
  generalize H1 = H at hP hS ⊢
  have hP : va_P (dC, dI) vwCl [(b2, .inr (0, [.ref r2, .int (iI z2)])), (r2, .inl (cA2, w2, .inl (fun j => bI (t2 j)))), (b, .inr (0, [.ref r9, .int (iI z13)])), (r9, .inl (cA10, w11, .inl (fun j => bI (t12 j))))] H := hP
  have hD : va_D A [(b2, .inr (0, [.ref r2, .int (iI z2)])), (r2, .inl (cA2, w2, .inl (fun j => bI (t2 j)))), (b, .inr (0, [.ref r9, .int (iI z13)])), (r9, .inl (cA10, w11, .inl (fun j => bI (t12 j))))] := hD
  have hK : va_K (dC, dI) vwCl [(cA2, .byte), (cA10, .byte)] s := hK
  obtain ⟨ev8, hAv8, hBv8, hCv8, hDv8, hEv8, rfl, hFv8, hGv8⟩ := hw
  refine W.eq (g2 := F0 m 24 ls []) rfl ?_
  refine lv_aload_n hx hb dX0_putBehind_24 rfl (lv_at hl 1 rfl) ?_
  refine lv_aload_n hx hb dX0_putBehind_25 rfl (lv_at hl 2 rfl) ?_
  refine va_get (D := (dC, dI)) (ci := 0) (v := .ref r2) (C := RX0) (T := TX0) (N := 2) hx hb hT inX0 hown hK hP 0 rfl rfl 0 (by decide) (hT _ wd56) (fun _ h9 => h9) rfl dX0_putBehind_26 ?_
  refine lv_aload_n hx hb dX0_putBehind_29 rfl (lv_at hl 2 rfl) ?_
  refine va_get (D := (dC, dI)) (ci := 0) (v := .int (iI z2)) (C := RX0) (T := TX0) (N := 2) hx hb hT inX0 hown hK hP 0 rfl rfl 1 (by decide) (hT _ wd57) (fun _ h9 => h9) rfl dX0_putBehind_30 ?_
  refine lv_iload_n hx hb dX0_putBehind_33 rfl (lv_at hl 0 rfl) ?_
  have hPc := hP.sub (ws' := [(b, .inr (0, [.ref r9, .int (iI z13)])), (r9, .inl (cA10, w11, .inl (fun j => bI (t12 j)))), (r2, .inl (cA2, w2, .inl (fun j => bI (t2 j))))]) [2, 3, 1] rfl
  have hDc := hD.sub (ws' := [(b, .inr (0, [.ref r9, .int (iI z13)])), (r9, .inl (cA10, w11, .inl (fun j => bI (t12 j)))), (r2, .inl (cA2, w2, .inl (fun j => bI (t2 j))))]) [2, 3, 1] (by decide) rfl
  have hKc := hK.sub (tys' := [(cA10, .byte), (cA2, .byte)]) [1, 0] rfl
  have hFc := va_free (wc := [(b, .inr (0, [.ref r9, .int (iI z13)])), (r9, .inl (cA10, w11, .inl (fun j => bI (t12 j)))), (r2, .inl (cA2, w2, .inl (fun j => bI (t2 j))))]) hD hS hA [2, 3, 1] rfl
  refine mv_call (mv_runV (As := [.ref r2, .int (iI z2), .int (iI z)]) (rest := []) ⟨hx, hb, hml, hown, hT⟩ (c_B_lay l dC dI H.size b r9 cA10 w11 t12 z13 r2 cA2 w2 t2 z2 z (by omega) (by omega) (by omega)) (cwV 3 hT (gV wd303 wd305 wd3 wd27 wd306) rfl rfl rfl (by decide +kernel) ⟨show 1 + 1 ≤ 3 from by omega, show 8 + (4 + 11) + 60 ≤ 130 from by omega⟩) ⟨fun a U g mk q => by obtain ⟨q0, q1, qP, qK, qD⟩ := q; exact ⟨q0, q1, qP, va_K.moved (u := U) (U := U.calling g mk a) (Vm.Alike.refl U.vm) qK, qD⟩, va_recv hKc hPc (ci := 0) (q0 := 0) rfl rfl, fun U hU hW => ⟨rfl, by rw [hU], by rw [hU]; exact hPc, va_K.moved hW.alike hKc, hDc.weaken (fun _ _ _ _ => trivial)⟩⟩ rfl rfl hl.1 rfl (lv_room (Nat.le_of_ble_eq_true rfl)) dX0_putBehind_34 ⟨show 0 + 0 + k6 + 0 ≤ (phB w) from by omega, show 0 + 0 + n7 + 0 ≤ (phB w) from by omega⟩) hS (fun q _ h => hFc q h) hFc (fun v16 u k14 n15 tS H1 locs ht hvm hw hB hz1 hk1 hS => ?_)
  obtain ⟨hP1, hK1, hD1⟩ := hB
  rw [ht] at hP1
  have hK1 := va_K.moved hvm.symm hK1
  try dsimp only at hw
  obtain ⟨hP, hD⟩ := va_join (wr := [(b2, .inr (0, [.ref r2, .int (iI z2)]))]) (w1 := [(b, .inr (0, [.ref r9, .int (iI z13)])), (r9, .inl (cA10, w11, .inl (fun j => bI ((va_cpy t2 t12 (0 : Int).toNat (z : Int).toNat (z2 : Int).toNat) j)))), (r2, .inl (cA2, w2, .inl (fun j => bI (t2 j))))]) hP hD [2, 3, 1] [0] rfl rfl (by decide) (by decide) hk1 hFc hP1 hD1
  have hK := (hK.sub (tys' := []) [] rfl).app hK1
  generalize H1 = H at hP hS ⊢
  have hP : va_P (dC, dI) vwCl [(b2, .inr (0, [.ref r2, .int (iI z2)])), (b, .inr (0, [.ref r9, .int (iI z13)])), (r9, .inl (cA10, w11, .inl (fun j => bI ((va_cpy t2 t12 (0 : Int).toNat (z : Int).toNat (z2 : Int).toNat) j)))), (r2, .inl (cA2, w2, .inl (fun j => bI (t2 j))))] H := hP
  have hD : va_D A [(b2, .inr (0, [.ref r2, .int (iI z2)])), (b, .inr (0, [.ref r9, .int (iI z13)])), (r9, .inl (cA10, w11, .inl (fun j => bI ((va_cpy t2 t12 (0 : Int).toNat (z : Int).toNat (z2 : Int).toNat) j)))), (r2, .inl (cA2, w2, .inl (fun j => bI (t2 j))))] := hD
  have hK : va_K (dC, dI) vwCl [(cA10, .byte), (cA2, .byte)] s := hK
  obtain ⟨rfl, rfl, rfl⟩ := hw
  refine W.eq (g2 := F0 m 37 ls []) rfl ?_
  have hP9 := hP.sub (ws' := [(b, .inr (0, [.ref r9, .int (iI z13)])), (r9, .inl (cA10, w11, .inl (fun j => bI ((va_cpy t2 t12 (0 : Int).toNat (z : Int).toNat (z2 : Int).toNat) j)))), (b2, .inr (0, [.ref r2, .int (iI z2)])), (r2, .inl (cA2, w2, .inl (fun j => bI (t2 j))))]) [1, 2, 0, 3] rfl
  have hD9 := hD.sub (ws' := [(b, .inr (0, [.ref r9, .int (iI z13)])), (r9, .inl (cA10, w11, .inl (fun j => bI ((va_cpy t2 t12 (0 : Int).toNat (z : Int).toNat (z2 : Int).toNat) j)))), (b2, .inr (0, [.ref r2, .int (iI z2)])), (r2, .inl (cA2, w2, .inl (fun j => bI (t2 j))))]) [1, 2, 0, 3] (by decide) rfl
  have hK9 := hK.sub (tys' := [(cA10, .byte), (cA2, .byte)]) [0, 1] rfl
  exact mv_vret hx hb hr hlocks (fun tS ht hW => ⟨⟨_, (r9, cA10, w11, (va_cpy t2 t12 (0 : Int).toNat (z : Int).toNat (z2 : Int).toNat), z13), rfl, ⟨okB_cat hok hok2 (by omega) hDv8 hEv8 (by omega) (by omega) (by omega), by omega, rfl, by omega, by omega⟩, by rw [ht]; exact hP9, va_K.moved hW.alike hK9, hD9⟩, hS.F ht⟩) hS.2.2 dX0_putBehind_37
set_option maxHeartbeats 4000000 in
set_option maxRecDepth 100000 in
theorem c_B_front (l : Launch) (dC : Nat → ClassId) (dI : Nat → Nat → Nat) (sz : Nat) (b : Nat) (r : Nat) (cA : ClassId) (w : Nat) (t : Nat → Int) (z : Int) (L : List Int) (b2 : Nat) (r2 : Nat) (cA2 : ClassId) (w2 : Nat) (t2 : Nat → Int) (z2 : Int) (L2 : List Int) (hok : okB w t z L) (hok2 : okB w2 t2 z2 L2) (hl4 : z + z2 ≤ 4096) : mv_Met l yX0_putInFront wsX0_putInFront ({ frames := 3, cells := (phB w), slots := (phB w), locals := 130 }) (va_Pc [.ref b, .ref b2] (fun U => U.heap.size = sz ∧ va_P (dC, dI) vwCl [(b, .inr (0, [.ref r, .int (iI z)])), (r, .inl (cA, w, .inl (fun j => bI (t j)))), (b2, .inr (0, [.ref r2, .int (iI z2)])), (r2, .inl (cA2, w2, .inl (fun j => bI (t2 j))))] U.heap ∧ va_K (dC, dI) vwCl [(cA, .byte), (cA2, .byte)] U ∧ va_D (fun _ => True) [(b, .inr (0, [.ref r, .int (iI z)])), (r, .inl (cA, w, .inl (fun j => bI (t j)))), (b2, .inr (0, [.ref r2, .int (iI z2)])), (r2, .inl (cA2, w2, .inl (fun j => bI (t2 j))))])) (mv_Q (fun (v : Option Value) (u : Nat × ClassId × Nat × (Nat → Int) × Int) (k n : Nat) => match u with | (r', cA', w', t', z') => okB w' t' z' (L2 ++ L) ∧ (z' = z + z2 ∧ 64 ≤ w' ∧ w' ≤ 4096 ∧ z' ≤ (w' : Int)) ∧ v = none ∧ n + phB w' ≤ phB w ∧ k ≤ n) (fun (u : Nat × ClassId × Nat × (Nat → Int) × Int) (tS : State) => match u with | (r', cA', w', t', z') => va_P (dC, dI) vwCl [(b, .inr (0, [.ref r', .int (iI z')])), (r', .inl (cA', w', .inl (fun j => bI (t' j)))), (b2, .inr (0, [.ref r2, .int (iI z2)])), (r2, .inl (cA2, w2, .inl (fun j => bI (t2 j))))] tS.heap ∧ va_K (dC, dI) vwCl [(cA', .byte), (cA2, .byte)] tS ∧ va_D (va_A [(b, .inr (0, [.ref r, .int (iI z)])), (r, .inl (cA, w, .inl (fun j => bI (t j)))), (b2, .inr (0, [.ref r2, .int (iI z2)])), (r2, .inl (cA2, w2, .inl (fun j => bI (t2 j))))] sz) [(b, .inr (0, [.ref r', .int (iI z')])), (r', .inl (cA', w', .inl (fun j => bI (t' j)))), (b2, .inr (0, [.ref r2, .int (iI z2)])), (r2, .inl (cA2, w2, .inl (fun j => bI (t2 j))))]) (va_A [(b, .inr (0, [.ref r, .int (iI z)])), (r, .inl (cA, w, .inl (fun j => bI (t j)))), (b2, .inr (0, [.ref r2, .int (iI z2)])), (r2, .inl (cA2, w2, .inl (fun j => bI (t2 j))))] sz)) (va_A [(b, .inr (0, [.ref r, .int (iI z)])), (r, .inl (cA, w, .inl (fun j => bI (t j)))), (b2, .inr (0, [.ref r2, .int (iI z2)])), (r2, .inl (cA2, w2, .inl (fun j => bI (t2 j))))] sz) := by
  refine mv_ofW (cc := cX0_putInFront) (maxL := 4) (ret := none) (by decide) rfl ?_
  intro p e s m args below meth c s₁ B hml hv
  obtain ⟨rfl, hsz, hP, hK, hD0⟩ := hv
  have hx := B.exec
  have hb := B.bytes
  have hr := B.returns
  have hT : ∀ w ∈ wT, w.before _ s = true := fun w h => atoms_spec (ws := wsX0_putInFront) B.pre w (List.mem_cons_of_mem _ h)
  have hown : s.vm.findClass RX0 = some m.cls := findClass_of_methodNamed B.named
  have hlocks := B.notSynchronized
  subst hsz
  have hD := hD0.self (sz := s.heap.size)
  generalize hAe : va_A [(b, .inr (0, [.ref r, .int (iI z)])), (r, .inl (cA, w, .inl (fun j => bI (t j)))), (b2, .inr (0, [.ref r2, .int (iI z2)])), (r2, .inl (cA2, w2, .inl (fun j => bI (t2 j))))] s.heap.size = A at hD ⊢
  have hA : ∀ q : Nat, s.heap.size ≤ q → A q := fun q h => by rw [← hAe]; exact Or.inr h
  have hS : va_S A s.heap s.heap [] := va_S.rf
  have hP : va_P (dC, dI) vwCl [(b, .inr (0, [.ref r, .int (iI z)])), (r, .inl (cA, w, .inl (fun j => bI (t j)))), (b2, .inr (0, [.ref r2, .int (iI z2)])), (r2, .inl (cA2, w2, .inl (fun j => bI (t2 j))))] s.heap := hP
  have hl := lv_entry ([.ref b, .ref b2]) (n := 4) (Nat.le_of_ble_eq_true rfl)
  rw [lg_entry_eq]
  generalize (lg_sl ([.ref b, .ref b2]) ++ List.replicate (4 - (lg_sl ([.ref b, .ref b2])).length) Slot.unset).toArray = ls at hl ⊢
  have hl : lv_has ls 4 [(0, .ref b), (1, .ref b2)] := hl
  obtain ⟨hw1, hw2, hw3, hw4, hw5, hw6⟩ := id hok
  obtain ⟨hv1, hv2, hv3, hv4, hv5, hv6⟩ := id hok2
  refine lv_aload_n hx hb dX0_putInFront_0 rfl (lv_at hl 0 rfl) ?_
  refine va_get (D := (dC, dI)) (ci := 0) (v := .int (iI z)) (C := RX0) (T := TX0) (N := 2) hx hb hT inX0 hown hK hP 0 rfl rfl 1 (by decide) (hT _ wd57) (fun _ h9 => h9) rfl dX0_putInFront_1 ?_
  refine lv_istore_n (lv' := [(2, .int (iI z)), (0, .ref b), (1, .ref b2)]) hx hb dX0_putInFront_4 rfl hl (by decide) rfl (fun ls hl => ?_)
  refine lv_aload_n hx hb dX0_putInFront_5 rfl (lv_at hl 2 rfl) ?_
  refine va_get (D := (dC, dI)) (ci := 0) (v := .int (iI z2)) (C := RX0) (T := TX0) (N := 2) hx hb hT inX0 hown hK hP 2 rfl rfl 1 (by decide) (hT _ wd57) (fun _ h9 => h9) rfl dX0_putInFront_6 ?_
  refine lv_istore_n (lv' := [(3, .int (iI z2)), (2, .int (iI z)), (0, .ref b), (1, .ref b2)]) hx hb dX0_putInFront_9 rfl hl (by decide) rfl (fun ls hl => ?_)
  refine lv_aload_n hx hb dX0_putInFront_10 rfl (lv_at hl 2 rfl) ?_
  refine lv_iload_n hx hb dX0_putInFront_11 rfl (lv_at hl 0 rfl) ?_
  have hPc := hP.sub (ws' := [(b, .inr (0, [.ref r, .int (iI z)]))]) [0] rfl
  have hDc := hD.sub (ws' := [(b, .inr (0, [.ref r, .int (iI z)]))]) [0] (by decide) rfl
  have hKc := hK.sub (tys' := []) [] rfl
  have hFc := va_free (wc := [(b, .inr (0, [.ref r, .int (iI z)]))]) hD hS hA [0] rfl
  refine mv_call (mv_runV (As := [.int (iI z2)]) (rest := []) ⟨hx, hb, hml, hown, hT⟩ (c_B_room l dC dI s.heap.size b r z z2 (by omega) (by omega)) (cwV 1 hT (gV wd224 wd142 wd143 wd27 wd144) rfl rfl rfl (by decide +kernel) ⟨show 0 + 1 ≤ 3 from by omega, show 8 + (2 + 11) + 0 ≤ 130 from by omega⟩) ⟨fun a U g mk q => by obtain ⟨q0, q1, qP, qK, qD⟩ := q; exact ⟨q0, q1, qP, va_K.moved (u := U) (U := U.calling g mk a) (Vm.Alike.refl U.vm) qK, qD⟩, va_recv hKc hPc (ci := 0) (q0 := 0) rfl rfl, fun U hU hW => ⟨rfl, by rw [hU], by rw [hU]; exact hPc, va_K.moved hW.alike hKc, hDc.weaken (fun _ _ _ _ => trivial)⟩⟩ rfl rfl hl.1 rfl (lv_room (Nat.le_of_ble_eq_true rfl)) dX0_putInFront_12 ⟨show 0 + 0 ≤ (phB w) from by omega, show 0 + 0 ≤ (phB w) from by omega⟩) hS (fun q _ h => hFc q h) hFc (fun v3 u k1 n2 tS H1 locs ht hvm hw hB hz1 hk1 hS => ?_)
  obtain ⟨q4, rfl⟩ : ∃ y, y = u := ⟨_, rfl⟩
  obtain ⟨hP1, hK1, hD1⟩ := hB
  rw [ht] at hP1
  have hK1 := va_K.moved hvm.symm hK1
  try dsimp only at hw
  obtain ⟨hP, hD⟩ := va_join (wr := [(r, .inl (cA, w, .inl (fun j => bI (t j)))), (b2, .inr (0, [.ref r2, .int (iI z2)])), (r2, .inl (cA2, w2, .inl (fun j => bI (t2 j))))]) (w1 := [(b, .inr (0, [.ref r, .int (iI z)]))]) hP hD [0] [1, 2, 3] rfl rfl (by decide) (by decide) hk1 hFc hP1 hD1
  have hK := (hK.sub (tys' := [(cA, .byte), (cA2, .byte)]) [0, 1] rfl).app hK1
  generalize H1 = H at hP hS ⊢
  have hP : va_P (dC, dI) vwCl [(r, .inl (cA, w, .inl (fun j => bI (t j)))), (b2, .inr (0, [.ref r2, .int (iI z2)])), (r2, .inl (cA2, w2, .inl (fun j => bI (t2 j)))), (b, .inr (0, [.ref r, .int (iI z)]))] H := hP
  have hD : va_D A [(r, .inl (cA, w, .inl (fun j => bI (t j)))), (b2, .inr (0, [.ref r2, .int (iI z2)])), (r2, .inl (cA2, w2, .inl (fun j => bI (t2 j)))), (b, .inr (0, [.ref r, .int (iI z)]))] := hD
  have hK : va_K (dC, dI) vwCl [(cA, .byte), (cA2, .byte)] s := hK
  obtain ⟨rfl, hq4, rfl, rfl⟩ := hw
  refine W.eq (g2 := F0 m 15 ls [.int (iI q4)]) rfl ?_
  refine li_if_eq (tgt := 43) hx hb (by omega) dX0_putInFront_15 (by decide) (fun c5 => absurd c5 (by omega)) (fun c5 => ?_)
  refine lv_aload_n hx hb dX0_putInFront_18 rfl (lv_at hl 2 rfl) ?_
  refine lv_iload_n hx hb dX0_putInFront_19 rfl (lv_at hl 0 rfl) ?_
  have hPc := hP.sub (ws' := [(b, .inr (0, [.ref r, .int (iI z)])), (r, .inl (cA, w, .inl (fun j => bI (t j))))]) [3, 0] rfl
  have hDc := hD.sub (ws' := [(b, .inr (0, [.ref r, .int (iI z)])), (r, .inl (cA, w, .inl (fun j => bI (t j))))]) [3, 0] (by decide) rfl
  have hKc := hK.sub (tys' := [(cA, .byte)]) [0] rfl
  have hFc := va_free (wc := [(b, .inr (0, [.ref r, .int (iI z)])), (r, .inl (cA, w, .inl (fun j => bI (t j))))]) hD hS hA [3, 0] rfl
  refine mv_call (mv_runV (As := [.int (iI z2)]) (rest := []) ⟨hx, hb, hml, hown, hT⟩ (c_B_len l dC dI H.size b r cA w t z z2 (by omega) (by omega) (by omega) (hw5)) (cwV 1 hT (gV wd225 wd227 wd1 wd27 wd228) rfl rfl rfl (by decide +kernel) ⟨show 2 + 1 ≤ 3 from by omega, show 8 + (3 + 11) + 100 ≤ 130 from by omega⟩) ⟨fun a U g mk q => by obtain ⟨q0, q1, qP, qK, qD⟩ := q; exact ⟨q0, q1, qP, va_K.moved (u := U) (U := U.calling g mk a) (Vm.Alike.refl U.vm) qK, qD⟩, va_recv hKc hPc (ci := 0) (q0 := 0) rfl rfl, fun U hU hW => ⟨rfl, by rw [hU], by rw [hU]; exact hPc, va_K.moved hW.alike hKc, hDc.weaken (fun _ _ _ _ => trivial)⟩⟩ rfl rfl hl.1 rfl (lv_room (Nat.le_of_ble_eq_true rfl)) dX0_putInFront_20 ⟨show 0 + 0 + (phB w) ≤ (phB w) from by omega, show 0 + 0 + (phB w) ≤ (phB w) from by omega⟩) hS (fun q _ h => hFc q h) hFc (fun v8 u k6 n7 tS H1 locs ht hvm hw hB hz1 hk1 hS => ?_)
  obtain ⟨r9, cA10, w11, t12, z13⟩ := u
  obtain ⟨hP1, hK1, hD1⟩ := hB
  rw [ht] at hP1
  have hK1 := va_K.moved hvm.symm hK1
  try dsimp only at hw
  obtain ⟨hP, hD⟩ := va_join (wr := [(b2, .inr (0, [.ref r2, .int (iI z2)])), (r2, .inl (cA2, w2, .inl (fun j => bI (t2 j))))]) (w1 := [(b, .inr (0, [.ref r9, .int (iI z13)])), (r9, .inl (cA10, w11, .inl (fun j => bI (t12 j))))]) hP hD [3, 0] [1, 2] rfl rfl (by decide) (by decide) hk1 hFc hP1 hD1
  have hK := (hK.sub (tys' := [(cA2, .byte)]) [1] rfl).app hK1
  generalize H1 = H at hP hS ⊢
  have hP : va_P (dC, dI) vwCl [(b2, .inr (0, [.ref r2, .int (iI z2)])), (r2, .inl (cA2, w2, .inl (fun j => bI (t2 j)))), (b, .inr (0, [.ref r9, .int (iI z13)])), (r9, .inl (cA10, w11, .inl (fun j => bI (t12 j))))] H := hP
  have hD : va_D A [(b2, .inr (0, [.ref r2, .int (iI z2)])), (r2, .inl (cA2, w2, .inl (fun j => bI (t2 j)))), (b, .inr (0, [.ref r9, .int (iI z13)])), (r9, .inl (cA10, w11, .inl (fun j => bI (t12 j))))] := hD
  have hK : va_K (dC, dI) vwCl [(cA2, .byte), (cA10, .byte)] s := hK
  obtain ⟨ev8, hAv8, hBv8, hCv8, hDv8, hEv8, rfl, hFv8, hGv8⟩ := hw
  refine W.eq (g2 := F0 m 23 ls []) rfl ?_
  refine lv_aload_n hx hb dX0_putInFront_23 rfl (lv_at hl 2 rfl) ?_
  refine lv_aload_n hx hb dX0_putInFront_24 rfl (lv_at hl 2 rfl) ?_
  refine va_get (D := (dC, dI)) (ci := 0) (v := .ref r9) (C := RX0) (T := TX0) (N := 2) hx hb hT inX0 hown hK hP 2 rfl rfl 0 (by decide) (hT _ wd56) (fun _ h9 => h9) rfl dX0_putInFront_25 ?_
  refine lv_iload_n hx hb dX0_putInFront_28 rfl (lv_at hl 1 rfl) ?_
  refine lv_iload_n hx hb dX0_putInFront_29 rfl (lv_at hl 0 rfl) ?_
  have hPc := hP.sub (ws' := [(b, .inr (0, [.ref r9, .int (iI z13)])), (r9, .inl (cA10, w11, .inl (fun j => bI (t12 j))))]) [2, 3] rfl
  have hDc := hD.sub (ws' := [(b, .inr (0, [.ref r9, .int (iI z13)])), (r9, .inl (cA10, w11, .inl (fun j => bI (t12 j))))]) [2, 3] (by decide) rfl
  have hKc := hK.sub (tys' := [(cA10, .byte)]) [1] rfl
  have hFc := va_free (wc := [(b, .inr (0, [.ref r9, .int (iI z13)])), (r9, .inl (cA10, w11, .inl (fun j => bI (t12 j))))]) hD hS hA [2, 3] rfl
  refine mv_call (mv_runV (As := [.ref r9, .int (iI z), .int (iI z2)]) (rest := []) ⟨hx, hb, hml, hown, hT⟩ (c_B_layS l dC dI H.size b r9 cA10 w11 t12 z13 z z2 (by omega) (by omega) (by omega)) (cwV 3 hT (gV wd303 wd305 wd3 wd27 wd306) rfl rfl rfl (by decide +kernel) ⟨show 1 + 1 ≤ 3 from by omega, show 8 + (4 + 11) + 60 ≤ 130 from by omega⟩) ⟨fun a U g mk q => by obtain ⟨q0, q1, qP, qK, qD⟩ := q; exact ⟨q0, q1, qP, va_K.moved (u := U) (U := U.calling g mk a) (Vm.Alike.refl U.vm) qK, qD⟩, va_recv hKc hPc (ci := 0) (q0 := 0) rfl rfl, fun U hU hW => ⟨rfl, by rw [hU], by rw [hU]; exact hPc, va_K.moved hW.alike hKc, hDc.weaken (fun _ _ _ _ => trivial)⟩⟩ rfl rfl hl.1 rfl (lv_room (Nat.le_of_ble_eq_true rfl)) dX0_putInFront_30 ⟨show 0 + 0 + k6 + 0 ≤ (phB w) from by omega, show 0 + 0 + n7 + 0 ≤ (phB w) from by omega⟩) hS (fun q _ h => hFc q h) hFc (fun v16 u k14 n15 tS H1 locs ht hvm hw hB hz1 hk1 hS => ?_)
  obtain ⟨hP1, hK1, hD1⟩ := hB
  rw [ht] at hP1
  have hK1 := va_K.moved hvm.symm hK1
  try dsimp only at hw
  obtain ⟨hP, hD⟩ := va_join (wr := [(b2, .inr (0, [.ref r2, .int (iI z2)])), (r2, .inl (cA2, w2, .inl (fun j => bI (t2 j))))]) (w1 := [(b, .inr (0, [.ref r9, .int (iI z13)])), (r9, .inl (cA10, w11, .inl (fun j => bI ((va_cpy t12 t12 (0 : Int).toNat (z2 : Int).toNat (z : Int).toNat) j))))]) hP hD [2, 3] [0, 1] rfl rfl (by decide) (by decide) hk1 hFc hP1 hD1
  have hK := (hK.sub (tys' := [(cA2, .byte)]) [0] rfl).app hK1
  generalize H1 = H at hP hS ⊢
  have hP : va_P (dC, dI) vwCl [(b2, .inr (0, [.ref r2, .int (iI z2)])), (r2, .inl (cA2, w2, .inl (fun j => bI (t2 j)))), (b, .inr (0, [.ref r9, .int (iI z13)])), (r9, .inl (cA10, w11, .inl (fun j => bI ((va_cpy t12 t12 (0 : Int).toNat (z2 : Int).toNat (z : Int).toNat) j))))] H := hP
  have hD : va_D A [(b2, .inr (0, [.ref r2, .int (iI z2)])), (r2, .inl (cA2, w2, .inl (fun j => bI (t2 j)))), (b, .inr (0, [.ref r9, .int (iI z13)])), (r9, .inl (cA10, w11, .inl (fun j => bI ((va_cpy t12 t12 (0 : Int).toNat (z2 : Int).toNat (z : Int).toNat) j))))] := hD
  have hK : va_K (dC, dI) vwCl [(cA2, .byte), (cA10, .byte)] s := hK
  obtain ⟨rfl, rfl, rfl⟩ := hw
  refine W.eq (g2 := F0 m 33 ls []) rfl ?_
  refine lv_aload_n hx hb dX0_putInFront_33 rfl (lv_at hl 2 rfl) ?_
  refine lv_aload_n hx hb dX0_putInFront_34 rfl (lv_at hl 3 rfl) ?_
  refine va_get (D := (dC, dI)) (ci := 0) (v := .ref r2) (C := RX0) (T := TX0) (N := 2) hx hb hT inX0 hown hK hP 0 rfl rfl 0 (by decide) (hT _ wd56) (fun _ h9 => h9) rfl dX0_putInFront_35 ?_
  refine lv_iload_n hx hb dX0_putInFront_38 rfl (lv_at hl 0 rfl) ?_
  refine lv_iconst (v := iI 0) hx hb dX0_putInFront_39 rfl ?_
  have hPc := hP.sub (ws' := [(b, .inr (0, [.ref r9, .int (iI z13)])), (r9, .inl (cA10, w11, .inl (fun j => bI ((va_cpy t12 t12 (0 : Int).toNat (z2 : Int).toNat (z : Int).toNat) j)))), (r2, .inl (cA2, w2, .inl (fun j => bI (t2 j))))]) [2, 3, 1] rfl
  have hDc := hD.sub (ws' := [(b, .inr (0, [.ref r9, .int (iI z13)])), (r9, .inl (cA10, w11, .inl (fun j => bI ((va_cpy t12 t12 (0 : Int).toNat (z2 : Int).toNat (z : Int).toNat) j)))), (r2, .inl (cA2, w2, .inl (fun j => bI (t2 j))))]) [2, 3, 1] (by decide) rfl
  have hKc := hK.sub (tys' := [(cA10, .byte), (cA2, .byte)]) [1, 0] rfl
  have hFc := va_free (wc := [(b, .inr (0, [.ref r9, .int (iI z13)])), (r9, .inl (cA10, w11, .inl (fun j => bI ((va_cpy t12 t12 (0 : Int).toNat (z2 : Int).toNat (z : Int).toNat) j)))), (r2, .inl (cA2, w2, .inl (fun j => bI (t2 j))))]) hD hS hA [2, 3, 1] rfl
  refine mv_call (mv_runV (As := [.ref r2, .int (iI z2), .int (iI 0)]) (rest := []) ⟨hx, hb, hml, hown, hT⟩ (c_B_lay l dC dI H.size b r9 cA10 w11 (va_cpy t12 t12 (0 : Int).toNat (z2 : Int).toNat (z : Int).toNat) z13 r2 cA2 w2 t2 z2 0 (by omega) (by omega) (by omega)) (cwV 3 hT (gV wd303 wd305 wd3 wd27 wd306) rfl rfl rfl (by decide +kernel) ⟨show 1 + 1 ≤ 3 from by omega, show 8 + (4 + 11) + 60 ≤ 130 from by omega⟩) ⟨fun a U g mk q => by obtain ⟨q0, q1, qP, qK, qD⟩ := q; exact ⟨q0, q1, qP, va_K.moved (u := U) (U := U.calling g mk a) (Vm.Alike.refl U.vm) qK, qD⟩, va_recv hKc hPc (ci := 0) (q0 := 0) rfl rfl, fun U hU hW => ⟨rfl, by rw [hU], by rw [hU]; exact hPc, va_K.moved hW.alike hKc, hDc.weaken (fun _ _ _ _ => trivial)⟩⟩ rfl rfl hl.1 rfl (lv_room (Nat.le_of_ble_eq_true rfl)) dX0_putInFront_40 ⟨show 0 + 0 + k6 + 0 + 0 ≤ (phB w) from by omega, show 0 + 0 + n7 + 0 + 0 ≤ (phB w) from by omega⟩) hS (fun q _ h => hFc q h) hFc (fun v19 u k17 n18 tS H1 locs ht hvm hw hB hz1 hk1 hS => ?_)
  obtain ⟨hP1, hK1, hD1⟩ := hB
  rw [ht] at hP1
  have hK1 := va_K.moved hvm.symm hK1
  try dsimp only at hw
  obtain ⟨hP, hD⟩ := va_join (wr := [(b2, .inr (0, [.ref r2, .int (iI z2)]))]) (w1 := [(b, .inr (0, [.ref r9, .int (iI z13)])), (r9, .inl (cA10, w11, .inl (fun j => bI ((va_cpy t2 (va_cpy t12 t12 (0 : Int).toNat (z2 : Int).toNat (z : Int).toNat) (0 : Int).toNat (0 : Int).toNat (z2 : Int).toNat) j)))), (r2, .inl (cA2, w2, .inl (fun j => bI (t2 j))))]) hP hD [2, 3, 1] [0] rfl rfl (by decide) (by decide) hk1 hFc hP1 hD1
  have hK := (hK.sub (tys' := []) [] rfl).app hK1
  generalize H1 = H at hP hS ⊢
  have hP : va_P (dC, dI) vwCl [(b2, .inr (0, [.ref r2, .int (iI z2)])), (b, .inr (0, [.ref r9, .int (iI z13)])), (r9, .inl (cA10, w11, .inl (fun j => bI ((va_cpy t2 (va_cpy t12 t12 (0 : Int).toNat (z2 : Int).toNat (z : Int).toNat) (0 : Int).toNat (0 : Int).toNat (z2 : Int).toNat) j)))), (r2, .inl (cA2, w2, .inl (fun j => bI (t2 j))))] H := hP
  have hD : va_D A [(b2, .inr (0, [.ref r2, .int (iI z2)])), (b, .inr (0, [.ref r9, .int (iI z13)])), (r9, .inl (cA10, w11, .inl (fun j => bI ((va_cpy t2 (va_cpy t12 t12 (0 : Int).toNat (z2 : Int).toNat (z : Int).toNat) (0 : Int).toNat (0 : Int).toNat (z2 : Int).toNat) j)))), (r2, .inl (cA2, w2, .inl (fun j => bI (t2 j))))] := hD
  have hK : va_K (dC, dI) vwCl [(cA10, .byte), (cA2, .byte)] s := hK
  obtain ⟨rfl, rfl, rfl⟩ := hw
  refine W.eq (g2 := F0 m 43 ls []) rfl ?_
  have hP9 := hP.sub (ws' := [(b, .inr (0, [.ref r9, .int (iI z13)])), (r9, .inl (cA10, w11, .inl (fun j => bI ((va_cpy t2 (va_cpy t12 t12 (0 : Int).toNat (z2 : Int).toNat (z : Int).toNat) (0 : Int).toNat (0 : Int).toNat (z2 : Int).toNat) j)))), (b2, .inr (0, [.ref r2, .int (iI z2)])), (r2, .inl (cA2, w2, .inl (fun j => bI (t2 j))))]) [1, 2, 0, 3] rfl
  have hD9 := hD.sub (ws' := [(b, .inr (0, [.ref r9, .int (iI z13)])), (r9, .inl (cA10, w11, .inl (fun j => bI ((va_cpy t2 (va_cpy t12 t12 (0 : Int).toNat (z2 : Int).toNat (z : Int).toNat) (0 : Int).toNat (0 : Int).toNat (z2 : Int).toNat) j)))), (b2, .inr (0, [.ref r2, .int (iI z2)])), (r2, .inl (cA2, w2, .inl (fun j => bI (t2 j))))]) [1, 2, 0, 3] (by decide) rfl
  have hK9 := hK.sub (tys' := [(cA10, .byte), (cA2, .byte)]) [0, 1] rfl
  exact mv_vret hx hb hr hlocks (fun tS ht hW => ⟨⟨_, (r9, cA10, w11, (va_cpy t2 (va_cpy t12 t12 (0 : Int).toNat (z2 : Int).toNat (z : Int).toNat) (0 : Int).toNat (0 : Int).toNat (z2 : Int).toNat), z13), rfl, ⟨okB_front hok hok2 (by omega) hDv8 hEv8 (by omega) (by omega) (by omega), by omega, rfl, by omega, by omega⟩, by rw [ht]; exact hP9, va_K.moved hW.alike hK9, hD9⟩, hS.F ht⟩) hS.2.2 dX0_putInFront_43
set_option maxHeartbeats 4000000 in
set_option maxRecDepth 100000 in
theorem c_B_become (l : Launch) (dC : Nat → ClassId) (dI : Nat → Nat → Nat) (sz : Nat) (b : Nat) (r : Nat) (cA : ClassId) (w : Nat) (t : Nat → Int) (z : Int) (L : List Int) (b2 : Nat) (r2 : Nat) (cA2 : ClassId) (w2 : Nat) (t2 : Nat → Int) (z2 : Int) (L2 : List Int) (hok : okB w t z L) (hok2 : okB w2 t2 z2 L2) : mv_Met l yX0_become wsX0_become ({ frames := 4, cells := (phB w), slots := (phB w), locals := 160 }) (va_Pc [.ref b, .ref b2] (fun U => U.heap.size = sz ∧ va_P (dC, dI) vwCl [(b, .inr (0, [.ref r, .int (iI z)])), (r, .inl (cA, w, .inl (fun j => bI (t j)))), (b2, .inr (0, [.ref r2, .int (iI z2)])), (r2, .inl (cA2, w2, .inl (fun j => bI (t2 j))))] U.heap ∧ va_K (dC, dI) vwCl [(cA, .byte), (cA2, .byte)] U ∧ va_D (fun _ => True) [(b, .inr (0, [.ref r, .int (iI z)])), (r, .inl (cA, w, .inl (fun j => bI (t j)))), (b2, .inr (0, [.ref r2, .int (iI z2)])), (r2, .inl (cA2, w2, .inl (fun j => bI (t2 j))))])) (mv_Q (fun (v : Option Value) (u : Nat × ClassId × Nat × (Nat → Int) × Int) (k n : Nat) => match u with | (r', cA', w', t', z') => okB w' t' z' L2 ∧ (z' = z2 ∧ 64 ≤ w' ∧ w' ≤ 4096 ∧ z' ≤ (w' : Int)) ∧ v = none ∧ n + phB w' ≤ phB w ∧ k ≤ n) (fun (u : Nat × ClassId × Nat × (Nat → Int) × Int) (tS : State) => match u with | (r', cA', w', t', z') => va_P (dC, dI) vwCl [(b, .inr (0, [.ref r', .int (iI z')])), (r', .inl (cA', w', .inl (fun j => bI (t' j)))), (b2, .inr (0, [.ref r2, .int (iI z2)])), (r2, .inl (cA2, w2, .inl (fun j => bI (t2 j))))] tS.heap ∧ va_K (dC, dI) vwCl [(cA', .byte), (cA2, .byte)] tS ∧ va_D (va_A [(b, .inr (0, [.ref r, .int (iI z)])), (r, .inl (cA, w, .inl (fun j => bI (t j)))), (b2, .inr (0, [.ref r2, .int (iI z2)])), (r2, .inl (cA2, w2, .inl (fun j => bI (t2 j))))] sz) [(b, .inr (0, [.ref r', .int (iI z')])), (r', .inl (cA', w', .inl (fun j => bI (t' j)))), (b2, .inr (0, [.ref r2, .int (iI z2)])), (r2, .inl (cA2, w2, .inl (fun j => bI (t2 j))))]) (va_A [(b, .inr (0, [.ref r, .int (iI z)])), (r, .inl (cA, w, .inl (fun j => bI (t j)))), (b2, .inr (0, [.ref r2, .int (iI z2)])), (r2, .inl (cA2, w2, .inl (fun j => bI (t2 j))))] sz)) (va_A [(b, .inr (0, [.ref r, .int (iI z)])), (r, .inl (cA, w, .inl (fun j => bI (t j)))), (b2, .inr (0, [.ref r2, .int (iI z2)])), (r2, .inl (cA2, w2, .inl (fun j => bI (t2 j))))] sz) := by
  refine mv_ofW (cc := cX0_become) (maxL := 2) (ret := none) (by decide) rfl ?_
  intro p e s m args below meth c s₁ B hml hv
  obtain ⟨rfl, hsz, hP, hK, hD0⟩ := hv
  have hx := B.exec
  have hb := B.bytes
  have hr := B.returns
  have hT : ∀ w ∈ wT, w.before _ s = true := fun w h => atoms_spec (ws := wsX0_become) B.pre w (List.mem_cons_of_mem _ h)
  have hown : s.vm.findClass RX0 = some m.cls := findClass_of_methodNamed B.named
  have hlocks := B.notSynchronized
  subst hsz
  have hD := hD0.self (sz := s.heap.size)
  generalize hAe : va_A [(b, .inr (0, [.ref r, .int (iI z)])), (r, .inl (cA, w, .inl (fun j => bI (t j)))), (b2, .inr (0, [.ref r2, .int (iI z2)])), (r2, .inl (cA2, w2, .inl (fun j => bI (t2 j))))] s.heap.size = A at hD ⊢
  have hA : ∀ q : Nat, s.heap.size ≤ q → A q := fun q h => by rw [← hAe]; exact Or.inr h
  have hS : va_S A s.heap s.heap [] := va_S.rf
  have hP : va_P (dC, dI) vwCl [(b, .inr (0, [.ref r, .int (iI z)])), (r, .inl (cA, w, .inl (fun j => bI (t j)))), (b2, .inr (0, [.ref r2, .int (iI z2)])), (r2, .inl (cA2, w2, .inl (fun j => bI (t2 j))))] s.heap := hP
  have hl := lv_entry ([.ref b, .ref b2]) (n := 2) (Nat.le_of_ble_eq_true rfl)
  rw [lg_entry_eq]
  generalize (lg_sl ([.ref b, .ref b2]) ++ List.replicate (2 - (lg_sl ([.ref b, .ref b2])).length) Slot.unset).toArray = ls at hl ⊢
  have hl : lv_has ls 2 [(0, .ref b), (1, .ref b2)] := hl
  obtain ⟨hw1, hw2, hw3, hw4, hw5, hw6⟩ := id hok
  obtain ⟨hv1, hv2, hv3, hv4, hv5, hv6⟩ := id hok2
  refine lv_aload_n hx hb dX0_become_0 rfl (lv_at hl 0 rfl) ?_
  refine lv_iconst (v := iI 0) hx hb dX0_become_1 rfl ?_
  have hPc := hP.sub (ws' := [(b, .inr (0, [.ref r, .int (iI z)]))]) [0] rfl
  have hDc := hD.sub (ws' := [(b, .inr (0, [.ref r, .int (iI z)]))]) [0] (by decide) rfl
  have hKc := hK.sub (tys' := []) [] rfl
  have hFc := va_free (wc := [(b, .inr (0, [.ref r, .int (iI z)]))]) hD hS hA [0] rfl
  refine mv_call (mv_runV (As := [.int (iI 0)]) (rest := []) ⟨hx, hb, hml, hown, hT⟩ (c_B_cut l dC dI s.heap.size b r z 0 (by omega) (by omega)) (cwV 1 hT (gV wd298 wd279 wd280 wd27 wd281) rfl rfl rfl (by decide +kernel) ⟨show 0 + 1 ≤ 4 from by omega, show 8 + (2 + 11) + 0 ≤ 160 from by omega⟩) ⟨fun a U g mk q => by obtain ⟨q0, q1, qP, qK, qD⟩ := q; exact ⟨q0, q1, qP, va_K.moved (u := U) (U := U.calling g mk a) (Vm.Alike.refl U.vm) qK, qD⟩, va_recv hKc hPc (ci := 0) (q0 := 0) rfl rfl, fun U hU hW => ⟨rfl, by rw [hU], by rw [hU]; exact hPc, va_K.moved hW.alike hKc, hDc.weaken (fun _ _ _ _ => trivial)⟩⟩ rfl rfl hl.1 rfl (lv_room (Nat.le_of_ble_eq_true rfl)) dX0_become_2 ⟨show 0 + 0 ≤ (phB w) from by omega, show 0 + 0 ≤ (phB w) from by omega⟩) hS (fun q _ h => hFc q h) hFc (fun v3 u k1 n2 tS H1 locs ht hvm hw hB hz1 hk1 hS => ?_)
  obtain ⟨y4, rfl⟩ : ∃ y, y = u := ⟨_, rfl⟩
  obtain ⟨hP1, hK1, hD1⟩ := hB
  rw [ht] at hP1
  have hK1 := va_K.moved hvm.symm hK1
  try dsimp only at hw
  obtain ⟨hP, hD⟩ := va_join (wr := [(r, .inl (cA, w, .inl (fun j => bI (t j)))), (b2, .inr (0, [.ref r2, .int (iI z2)])), (r2, .inl (cA2, w2, .inl (fun j => bI (t2 j))))]) (w1 := [(b, .inr (0, [.ref r, .int (iI y4)]))]) hP hD [0] [1, 2, 3] rfl rfl (by decide) (by decide) hk1 hFc hP1 hD1
  have hK := (hK.sub (tys' := [(cA, .byte), (cA2, .byte)]) [0, 1] rfl).app hK1
  generalize H1 = H at hP hS ⊢
  have hP : va_P (dC, dI) vwCl [(r, .inl (cA, w, .inl (fun j => bI (t j)))), (b2, .inr (0, [.ref r2, .int (iI z2)])), (r2, .inl (cA2, w2, .inl (fun j => bI (t2 j)))), (b, .inr (0, [.ref r, .int (iI y4)]))] H := hP
  have hD : va_D A [(r, .inl (cA, w, .inl (fun j => bI (t j)))), (b2, .inr (0, [.ref r2, .int (iI z2)])), (r2, .inl (cA2, w2, .inl (fun j => bI (t2 j)))), (b, .inr (0, [.ref r, .int (iI y4)]))] := hD
  have hK : va_K (dC, dI) vwCl [(cA, .byte), (cA2, .byte)] s := hK
  obtain ⟨hy4, rfl, rfl, rfl⟩ := hw
  refine W.eq (g2 := F0 m 5 ls []) rfl ?_
  refine lv_aload_n hx hb dX0_become_5 rfl (lv_at hl 0 rfl) ?_
  refine lv_aload_n hx hb dX0_become_6 rfl (lv_at hl 1 rfl) ?_
  have hok0 : okB w t y4 [] := (show L.take (y4 : Int).toNat = [] by rw [show (y4 : Int).toNat = 0 by omega]; rfl) ▸ okB_cut hok (by omega)
  have hPc := hP.sub (ws' := [(b, .inr (0, [.ref r, .int (iI y4)])), (r, .inl (cA, w, .inl (fun j => bI (t j)))), (b2, .inr (0, [.ref r2, .int (iI z2)])), (r2, .inl (cA2, w2, .inl (fun j => bI (t2 j))))]) [3, 0, 1, 2] rfl
  have hDc := hD.sub (ws' := [(b, .inr (0, [.ref r, .int (iI y4)])), (r, .inl (cA, w, .inl (fun j => bI (t j)))), (b2, .inr (0, [.ref r2, .int (iI z2)])), (r2, .inl (cA2, w2, .inl (fun j => bI (t2 j))))]) [3, 0, 1, 2] (by decide) rfl
  have hKc := hK.sub (tys' := [(cA, .byte), (cA2, .byte)]) [0, 1] rfl
  have hFc := va_free (wc := [(b, .inr (0, [.ref r, .int (iI y4)])), (r, .inl (cA, w, .inl (fun j => bI (t j)))), (b2, .inr (0, [.ref r2, .int (iI z2)])), (r2, .inl (cA2, w2, .inl (fun j => bI (t2 j))))]) hD hS hA [3, 0, 1, 2] rfl
  refine mv_call (mv_runV (As := [.ref b2]) (rest := []) ⟨hx, hb, hml, hown, hT⟩ (c_B_put l dC dI H.size b r cA w t y4 ([] : List Int) b2 r2 cA2 w2 t2 z2 L2 (hok0) (hok2) (by omega)) (cwV 1 hT (gV wd299 wd300 wd301 wd27 wd302) rfl rfl rfl (by decide +kernel) ⟨show 3 + 1 ≤ 4 from by omega, show 8 + (3 + 11) + 130 ≤ 160 from by omega⟩) ⟨fun a U g mk q => by obtain ⟨q0, q1, qP, qK, qD⟩ := q; exact ⟨q0, q1, qP, va_K.moved (u := U) (U := U.calling g mk a) (Vm.Alike.refl U.vm) qK, qD⟩, va_recv hKc hPc (ci := 0) (q0 := 0) rfl rfl, fun U hU hW => ⟨rfl, by rw [hU], by rw [hU]; exact hPc, va_K.moved hW.alike hKc, hDc.weaken (fun _ _ _ _ => trivial)⟩⟩ rfl rfl hl.1 rfl (lv_room (Nat.le_of_ble_eq_true rfl)) dX0_become_7 ⟨show 0 + 0 + (phB w) ≤ (phB w) from by omega, show 0 + 0 + (phB w) ≤ (phB w) from by omega⟩) hS (fun q _ h => hFc q h) hFc (fun v7 u k5 n6 tS H1 locs ht hvm hw hB hz1 hk1 hS => ?_)
  obtain ⟨r8, cA9, w10, t11, z12⟩ := u
  obtain ⟨hP1, hK1, hD1⟩ := hB
  rw [ht] at hP1
  have hK1 := va_K.moved hvm.symm hK1
  try dsimp only at hw
  obtain ⟨hP, hD⟩ := va_join (wr := []) (w1 := [(b, .inr (0, [.ref r8, .int (iI z12)])), (r8, .inl (cA9, w10, .inl (fun j => bI (t11 j)))), (b2, .inr (0, [.ref r2, .int (iI z2)])), (r2, .inl (cA2, w2, .inl (fun j => bI (t2 j))))]) hP hD [3, 0, 1, 2] [] rfl rfl (by decide) (by decide) hk1 hFc hP1 hD1
  have hK := (hK.sub (tys' := []) [] rfl).app hK1
  generalize H1 = H at hP hS ⊢
  have hP : va_P (dC, dI) vwCl [(b, .inr (0, [.ref r8, .int (iI z12)])), (r8, .inl (cA9, w10, .inl (fun j => bI (t11 j)))), (b2, .inr (0, [.ref r2, .int (iI z2)])), (r2, .inl (cA2, w2, .inl (fun j => bI (t2 j))))] H := hP
  have hD : va_D A [(b, .inr (0, [.ref r8, .int (iI z12)])), (r8, .inl (cA9, w10, .inl (fun j => bI (t11 j)))), (b2, .inr (0, [.ref r2, .int (iI z2)])), (r2, .inl (cA2, w2, .inl (fun j => bI (t2 j))))] := hD
  have hK : va_K (dC, dI) vwCl [(cA9, .byte), (cA2, .byte)] s := hK
  obtain ⟨hokv7, hNv7, rfl, hFv7, hGv7⟩ := hw
  refine W.eq (g2 := F0 m 10 ls []) rfl ?_
  have hP9 := hP.sub (ws' := [(b, .inr (0, [.ref r8, .int (iI z12)])), (r8, .inl (cA9, w10, .inl (fun j => bI (t11 j)))), (b2, .inr (0, [.ref r2, .int (iI z2)])), (r2, .inl (cA2, w2, .inl (fun j => bI (t2 j))))]) [0, 1, 2, 3] rfl
  have hD9 := hD.sub (ws' := [(b, .inr (0, [.ref r8, .int (iI z12)])), (r8, .inl (cA9, w10, .inl (fun j => bI (t11 j)))), (b2, .inr (0, [.ref r2, .int (iI z2)])), (r2, .inl (cA2, w2, .inl (fun j => bI (t2 j))))]) [0, 1, 2, 3] (by decide) rfl
  have hK9 := hK.sub (tys' := [(cA9, .byte), (cA2, .byte)]) [0, 1] rfl
  exact mv_vret hx hb hr hlocks (fun tS ht hW => ⟨⟨_, (r8, cA9, w10, t11, z12), rfl, ⟨hokv7, by omega, rfl, by omega, by omega⟩, by rw [ht]; exact hP9, va_K.moved hW.alike hK9, hD9⟩, hS.F ht⟩) hS.2.2 dX0_become_10
