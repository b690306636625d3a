set_option maxHeartbeats 4000000 in
set_option maxRecDepth 100000 in
theorem c_B_size (l : Launch) (dC : Nat → ClassId) (dI : Nat → Nat → Nat) (sz : Nat) (b : Nat) (r : Nat) (z : Int) : mv_Met l yX0_size wsX0_size ({ frames := 0, cells := 0, slots := 0, locals := 0 }) (va_Pc [.ref b] (fun U => U.heap.size = sz ∧ va_P (dC, dI) vwCl [(b, .inr (0, [.ref r, .int (iI z)]))] U.heap ∧ va_K (dC, dI) vwCl [] U ∧ va_D (fun _ => True) [(b, .inr (0, [.ref r, .int (iI z)]))])) (mv_Q (fun (v : Option Value) (_ : Unit) (k n : Nat) => v = some (.int (iI z)) ∧ k = 0 ∧ n = 0) (fun (_ : Unit) (tS : State) => va_P (dC, dI) vwCl [(b, .inr (0, [.ref r, .int (iI z)]))] tS.heap ∧ va_K (dC, dI) vwCl [] tS ∧ va_D (va_A [(b, .inr (0, [.ref r, .int (iI z)]))] sz) [(b, .inr (0, [.ref r, .int (iI z)]))]) (va_A [(b, .inr (0, [.ref r, .int (iI z)]))] sz)) (va_A [(b, .inr (0, [.ref r, .int (iI z)]))] sz) := by
  refine mv_ofW (cc := cX0_size) (maxL := 1) (ret := (some .int)) (by decide) rfl ?_
  intro p e s m args below meth c s₁ B hml hv
  obtain ⟨rfl, hsz, hP, hK, hD0⟩ := hv
  have hx := B.exec
  have hb := B.bytes
  have hr := B.returns
  have hT : ∀ w ∈ wT, w.before _ s = true := fun w h => atoms_spec (ws := wsX0_size) B.pre w (List.mem_cons_of_mem _ h)
  have hown : s.vm.findClass RX0 = some m.cls := findClass_of_methodNamed B.named
  have hlocks := B.notSynchronized
  subst hsz
  have hD := hD0.self (sz := s.heap.size)
  generalize hAe : va_A [(b, .inr (0, [.ref r, .int (iI z)]))] s.heap.size = A at hD ⊢
  have hA : ∀ q : Nat, s.heap.size ≤ q → A q := fun q h => by rw [← hAe]; exact Or.inr h
  have hS : va_S A s.heap s.heap [] := va_S.rf
  have hP : va_P (dC, dI) vwCl [(b, .inr (0, [.ref r, .int (iI z)]))] s.heap := hP
  have hl := lv_entry ([.ref b]) (n := 1) (Nat.le_of_ble_eq_true rfl)
  rw [lg_entry_eq]
  generalize (lg_sl ([.ref b]) ++ List.replicate (1 - (lg_sl ([.ref b])).length) Slot.unset).toArray = ls at hl ⊢
  have hl : lv_has ls 1 [(0, .ref b)] := hl
  refine lv_aload_n hx hb dX0_size_0 rfl (lv_at hl 0 rfl) ?_
  refine va_get (D := (dC, dI)) (ci := 0) (v := .int (iI z)) (C := RX0) (T := TX0) (N := 2) hx hb hT inX0 hown hK hP 0 rfl rfl 1 (by decide) (hT _ wd57) (fun _ h9 => h9) rfl dX0_size_1 ?_
  have hP9 := hP.sub (ws' := [(b, .inr (0, [.ref r, .int (iI z)]))]) [0] rfl
  have hD9 := hD.sub (ws' := [(b, .inr (0, [.ref r, .int (iI z)]))]) [0] (by decide) rfl
  have hK9 := hK.sub (tys' := []) [] rfl
  exact mv_iret hx hb hr hlocks (fun tS ht hW => ⟨⟨_, (), rfl, ⟨rfl, rfl, rfl⟩, by rw [ht]; exact hP9, va_K.moved hW.alike hK9, hD9⟩, hS.F ht⟩) hS.2.2 dX0_size_4
set_option maxHeartbeats 4000000 in
set_option maxRecDepth 100000 in
theorem c_B_room (l : Launch) (dC : Nat → ClassId) (dI : Nat → Nat → Nat) (sz : Nat) (b : Nat) (r : Nat) (z : Int) (i : Int) (hz : 0 ≤ z ∧ z ≤ 4096) (hi : -2147483648 ≤ i ∧ i < 2147483648) : mv_Met l yX0_hasRoomFor wsX0_hasRoomFor ({ frames := 0, cells := 0, slots := 0, locals := 0 }) (va_Pc [.ref b, .int (iI i)] (fun U => U.heap.size = sz ∧ va_P (dC, dI) vwCl [(b, .inr (0, [.ref r, .int (iI z)]))] U.heap ∧ va_K (dC, dI) vwCl [] U ∧ va_D (fun _ => True) [(b, .inr (0, [.ref r, .int (iI z)]))])) (mv_Q (fun (v : Option Value) (u : Int) (k n : Nat) => match u with | (q) => v = some (.int (iI q)) ∧ (q = 1 ∧ 0 ≤ i ∧ i ≤ 4096 - z ∨ q = 0 ∧ (i < 0 ∨ 4096 - z < i)) ∧ k = 0 ∧ n = 0) (fun (u : Int) (tS : State) => match u with | (q) => va_P (dC, dI) vwCl [(b, .inr (0, [.ref r, .int (iI z)]))] tS.heap ∧ va_K (dC, dI) vwCl [] tS ∧ va_D (va_A [(b, .inr (0, [.ref r, .int (iI z)]))] sz) [(b, .inr (0, [.ref r, .int (iI z)]))]) (va_A [(b, .inr (0, [.ref r, .int (iI z)]))] sz)) (va_A [(b, .inr (0, [.ref r, .int (iI z)]))] sz) := by
  refine mv_ofW (cc := cX0_hasRoomFor) (maxL := 2) (ret := (some .boolean)) (by decide) rfl ?_
  intro p e s m args below meth c s₁ B hml hv
  obtain ⟨rfl, hsz, hP, hK, hD0⟩ := hv
  have hx := B.exec
  have hb := B.bytes
  have hr := B.returns
  have hT : ∀ w ∈ wT, w.before _ s = true := fun w h => atoms_spec (ws := wsX0_hasRoomFor) B.pre w (List.mem_cons_of_mem _ h)
  have hown : s.vm.findClass RX0 = some m.cls := findClass_of_methodNamed B.named
  have hlocks := B.notSynchronized
  subst hsz
  have hD := hD0.self (sz := s.heap.size)
  generalize hAe : va_A [(b, .inr (0, [.ref r, .int (iI z)]))] s.heap.size = A at hD ⊢
  have hA : ∀ q : Nat, s.heap.size ≤ q → A q := fun q h => by rw [← hAe]; exact Or.inr h
  have hS : va_S A s.heap s.heap [] := va_S.rf
  have hP : va_P (dC, dI) vwCl [(b, .inr (0, [.ref r, .int (iI z)]))] s.heap := hP
  have hl := lv_entry ([.ref b, .int (iI i)]) (n := 2) (Nat.le_of_ble_eq_true rfl)
  rw [lg_entry_eq]
  generalize (lg_sl ([.ref b, .int (iI i)]) ++ List.replicate (2 - (lg_sl ([.ref b, .int (iI i)])).length) Slot.unset).toArray = ls at hl ⊢
  have hl : lv_has ls 2 [(0, .ref b), (1, .int (iI i))] := hl
  refine lv_iload_n hx hb dX0_hasRoomFor_0 rfl (lv_at hl 1 rfl) ?_
  refine li_if_lt (tgt := 20) hx hb (by omega) dX0_hasRoomFor_1 (by decide) (fun c1 => ?_) (fun c1 => ?_)
  · skip
    refine lv_iconst (v := iI 0) hx hb dX0_hasRoomFor_20 rfl ?_
    have hP9 := hP.sub (ws' := [(b, .inr (0, [.ref r, .int (iI z)]))]) [0] rfl
    have hD9 := hD.sub (ws' := [(b, .inr (0, [.ref r, .int (iI z)]))]) [0] (by decide) rfl
    have hK9 := hK.sub (tys' := []) [] rfl
    exact mv_zret hx hb hr (zb_n (by omega)) hlocks (fun tS ht hW => ⟨⟨_, (0), rfl, ⟨rfl, by omega, rfl, rfl⟩, by rw [ht]; exact hP9, va_K.moved hW.alike hK9, hD9⟩, hS.F ht⟩) hS.2.2 dX0_hasRoomFor_21
  · skip
    refine lv_iload_n hx hb dX0_hasRoomFor_4 rfl (lv_at hl 1 rfl) ?_
    refine lv_sipush (v := iI 4096) hx hb dX0_hasRoomFor_5 (by decide +kernel) ?_
    refine lv_aload_n hx hb dX0_hasRoomFor_8 rfl (lv_at hl 0 rfl) ?_
    refine va_get (D := (dC, dI)) (ci := 0) (v := .int (iI z)) (C := RX0) (T := TX0) (N := 2) hx hb hT inX0 hown hK hP 0 rfl rfl 1 (by decide) (hT _ wd57) (fun _ h9 => h9) rfl dX0_hasRoomFor_9 ?_
    refine li_isub hx hb dX0_hasRoomFor_12 ?_
    refine li_icmp_gt (tgt := 20) hx hb (by omega) (by omega) dX0_hasRoomFor_13 (by decide) (fun c2 => ?_) (fun c2 => ?_)
    · skip
      refine lv_iconst (v := iI 0) hx hb dX0_hasRoomFor_20 rfl ?_
      have hP9 := hP.sub (ws' := [(b, .inr (0, [.ref r, .int (iI z)]))]) [0] rfl
      have hD9 := hD.sub (ws' := [(b, .inr (0, [.ref r, .int (iI z)]))]) [0] (by decide) rfl
      have hK9 := hK.sub (tys' := []) [] rfl
      exact mv_zret hx hb hr (zb_n (by omega)) hlocks (fun tS ht hW => ⟨⟨_, (0), rfl, ⟨rfl, by omega, rfl, rfl⟩, by rw [ht]; exact hP9, va_K.moved hW.alike hK9, hD9⟩, hS.F ht⟩) hS.2.2 dX0_hasRoomFor_21
    · skip
      refine lv_iconst (v := iI 1) hx hb dX0_hasRoomFor_16 rfl ?_
      refine lv_goto (tgt := 21) hx hb dX0_hasRoomFor_17 (by decide) ?_
      have hP9 := hP.sub (ws' := [(b, .inr (0, [.ref r, .int (iI z)]))]) [0] rfl
      have hD9 := hD.sub (ws' := [(b, .inr (0, [.ref r, .int (iI z)]))]) [0] (by decide) rfl
      have hK9 := hK.sub (tys' := []) [] rfl
      exact mv_zret hx hb hr (zb_n (by omega)) hlocks (fun tS ht hW => ⟨⟨_, (1), rfl, ⟨rfl, by omega, rfl, rfl⟩, by rw [ht]; exact hP9, va_K.moved hW.alike hK9, hD9⟩, hS.F ht⟩) hS.2.2 dX0_hasRoomFor_21
set_option maxHeartbeats 4000000 in
set_option maxRecDepth 100000 in
theorem c_B_at (l : Launch) (dC : Nat → ClassId) (dI : Nat → Nat → Nat) (sz : Nat) (b : Nat) (r : Nat) (cA : ClassId) (w : Nat) (t : Nat → Int) (z : Int) (L : List Int) (i : Int) (hok : okB w t z L) (hi : -2147483648 ≤ i ∧ i < 2147483648) : mv_Met l yX0_at wsX0_at ({ frames := 0, cells := 0, slots := 0, locals := 0 }) (va_Pc [.ref b, .int (iI i)] (fun U => U.heap.size = sz ∧ va_P (dC, dI) vwCl [(b, .inr (0, [.ref r, .int (iI z)])), (r, .inl (cA, w, .inl (fun j => bI (t j))))] U.heap ∧ va_K (dC, dI) vwCl [(cA, .byte)] U ∧ va_D (fun _ => True) [(b, .inr (0, [.ref r, .int (iI z)])), (r, .inl (cA, w, .inl (fun j => bI (t j))))])) (mv_Q (fun (v : Option Value) (_ : Unit) (k n : Nat) => v = some (.int (iI (gd L i))) ∧ k = 0 ∧ n = 0) (fun (_ : Unit) (tS : State) => va_P (dC, dI) vwCl [(b, .inr (0, [.ref r, .int (iI z)])), (r, .inl (cA, w, .inl (fun j => bI (t j))))] tS.heap ∧ va_K (dC, dI) vwCl [(cA, .byte)] tS ∧ va_D (va_A [(b, .inr (0, [.ref r, .int (iI z)])), (r, .inl (cA, w, .inl (fun j => bI (t j))))] sz) [(b, .inr (0, [.ref r, .int (iI z)])), (r, .inl (cA, w, .inl (fun j => bI (t j))))]) (va_A [(b, .inr (0, [.ref r, .int (iI z)])), (r, .inl (cA, w, .inl (fun j => bI (t j))))] sz)) (va_A [(b, .inr (0, [.ref r, .int (iI z)])), (r, .inl (cA, w, .inl (fun j => bI (t j))))] sz) := by
  refine mv_ofW (cc := cX0_at) (maxL := 2) (ret := (some .int)) (by decide) rfl ?_
  intro p e s m args below meth c s₁ B hml hv
  obtain ⟨rfl, hsz, hP, hK, hD0⟩ := hv
  have hx := B.exec
  have hb := B.bytes
  have hr := B.returns
  have hT : ∀ w ∈ wT, w.before _ s = true := fun w h => atoms_spec (ws := wsX0_at) B.pre w (List.mem_cons_of_mem _ h)
  have hown : s.vm.findClass RX0 = some m.cls := findClass_of_methodNamed B.named
  have hlocks := B.notSynchronized
  subst hsz
  have hD := hD0.self (sz := s.heap.size)
  generalize hAe : va_A [(b, .inr (0, [.ref r, .int (iI z)])), (r, .inl (cA, w, .inl (fun j => bI (t j))))] s.heap.size = A at hD ⊢
  have hA : ∀ q : Nat, s.heap.size ≤ q → A q := fun q h => by rw [← hAe]; exact Or.inr h
  have hS : va_S A s.heap s.heap [] := va_S.rf
  have hP : va_P (dC, dI) vwCl [(b, .inr (0, [.ref r, .int (iI z)])), (r, .inl (cA, w, .inl (fun j => bI (t j))))] s.heap := hP
  have hl := lv_entry ([.ref b, .int (iI i)]) (n := 2) (Nat.le_of_ble_eq_true rfl)
  rw [lg_entry_eq]
  generalize (lg_sl ([.ref b, .int (iI i)]) ++ List.replicate (2 - (lg_sl ([.ref b, .int (iI i)])).length) Slot.unset).toArray = ls at hl ⊢
  have hl : lv_has ls 2 [(0, .ref b), (1, .int (iI i))] := hl
  obtain ⟨hw1, hw2, hw3, hw4, hw5, hw6⟩ := id hok
  refine lv_iload_n hx hb dX0_at_0 rfl (lv_at hl 1 rfl) ?_
  refine li_if_lt (tgt := 34) hx hb (by omega) dX0_at_1 (by decide) (fun c1 => ?_) (fun c1 => ?_)
  · skip
    refine lv_iconst (v := iI 0) hx hb dX0_at_34 rfl ?_
    have hP9 := hP.sub (ws' := [(b, .inr (0, [.ref r, .int (iI z)])), (r, .inl (cA, w, .inl (fun j => bI (t j))))]) [0, 1] rfl
    have hD9 := hD.sub (ws' := [(b, .inr (0, [.ref r, .int (iI z)])), (r, .inl (cA, w, .inl (fun j => bI (t j))))]) [0, 1] (by decide) rfl
    have hK9 := hK.sub (tys' := [(cA, .byte)]) [0] rfl
    exact mv_iret hx hb hr hlocks (fun tS ht hW => ⟨⟨_, (), rfl, ⟨sI (gd_out (by omega)), rfl, rfl⟩, by rw [ht]; exact hP9, va_K.moved hW.alike hK9, hD9⟩, hS.F ht⟩) hS.2.2 dX0_at_35
  · skip
    refine lv_iload_n hx hb dX0_at_4 rfl (lv_at hl 1 rfl) ?_
    refine lv_aload_n hx hb dX0_at_5 rfl (lv_at hl 0 rfl) ?_
    refine va_get (D := (dC, dI)) (ci := 0) (v := .int (iI z)) (C := RX0) (T := TX0) (N := 2) hx hb hT inX0 hown hK hP 0 rfl rfl 1 (by decide) (hT _ wd57) (fun _ h9 => h9) rfl dX0_at_6 ?_
    refine li_icmp_ge (tgt := 34) hx hb (by omega) (by omega) dX0_at_9 (by decide) (fun c2 => ?_) (fun c2 => ?_)
    · skip
      refine lv_iconst (v := iI 0) hx hb dX0_at_34 rfl ?_
      have hP9 := hP.sub (ws' := [(b, .inr (0, [.ref r, .int (iI z)])), (r, .inl (cA, w, .inl (fun j => bI (t j))))]) [0, 1] rfl
      have hD9 := hD.sub (ws' := [(b, .inr (0, [.ref r, .int (iI z)])), (r, .inl (cA, w, .inl (fun j => bI (t j))))]) [0, 1] (by decide) rfl
      have hK9 := hK.sub (tys' := [(cA, .byte)]) [0] rfl
      exact mv_iret hx hb hr hlocks (fun tS ht hW => ⟨⟨_, (), rfl, ⟨sI (gd_out (by omega)), rfl, rfl⟩, by rw [ht]; exact hP9, va_K.moved hW.alike hK9, hD9⟩, hS.F ht⟩) hS.2.2 dX0_at_35
    · skip
      refine lv_iload_n hx hb dX0_at_12 rfl (lv_at hl 1 rfl) ?_
      refine lv_aload_n hx hb dX0_at_13 rfl (lv_at hl 0 rfl) ?_
      refine va_get (D := (dC, dI)) (ci := 0) (v := .ref r) (C := RX0) (T := TX0) (N := 2) hx hb hT inX0 hown hK hP 0 rfl rfl 0 (by decide) (hT _ wd56) (fun _ h9 => h9) rfl dX0_at_14 ?_
      refine li_alen hx hb hK hP 1 0 rfl rfl dX0_at_17 ?_
      refine li_icmp_ge (tgt := 34) hx hb (by omega) (by omega) dX0_at_18 (by decide) (fun c3 => absurd c3 (by omega)) (fun c3 => ?_)
      refine lv_aload_n hx hb dX0_at_21 rfl (lv_at hl 0 rfl) ?_
      refine va_get (D := (dC, dI)) (ci := 0) (v := .ref r) (C := RX0) (T := TX0) (N := 2) hx hb hT inX0 hown hK hP 0 rfl rfl 0 (by decide) (hT _ wd56) (fun _ h9 => h9) rfl dX0_at_22 ?_
      refine lv_iload_n hx hb dX0_at_25 rfl (lv_at hl 1 rfl) ?_
      refine li_bald hx hb hK hP 1 0 rfl rfl (z := i) (by omega) (by omega) dX0_at_26 ?_
      refine lv_sipush (v := iI 255) hx hb dX0_at_27 (by decide +kernel) ?_
      refine li_bandb hx hb dX0_at_30 ?_
      refine lv_goto (tgt := 35) hx hb dX0_at_31 (by decide) ?_
      have hP9 := hP.sub (ws' := [(b, .inr (0, [.ref r, .int (iI z)])), (r, .inl (cA, w, .inl (fun j => bI (t j))))]) [0, 1] rfl
      have hD9 := hD.sub (ws' := [(b, .inr (0, [.ref r, .int (iI z)])), (r, .inl (cA, w, .inl (fun j => bI (t j))))]) [0, 1] (by decide) rfl
      have hK9 := hK.sub (tys' := [(cA, .byte)]) [0] rfl
      exact mv_iret hx hb hr hlocks (fun tS ht hW => ⟨⟨_, (), rfl, ⟨sI (gd_in hok (by omega)), rfl, rfl⟩, by rw [ht]; exact hP9, va_K.moved hW.alike hK9, hD9⟩, hS.F ht⟩) hS.2.2 dX0_at_35
set_option maxHeartbeats 4000000 in
set_option maxRecDepth 100000 in
theorem c_B_cut (l : Launch) (dC : Nat → ClassId) (dI : Nat → Nat → Nat) (sz : Nat) (b : Nat) (r : Nat) (z : Int) (i : Int) (hz : 0 ≤ z ∧ z ≤ 4096) (hi : -2147483648 ≤ i ∧ i < 2147483648) : mv_Met l yX0_cut wsX0_cut ({ frames := 0, cells := 0, slots := 0, locals := 0 }) (va_Pc [.ref b, .int (iI i)] (fun U => U.heap.size = sz ∧ va_P (dC, dI) vwCl [(b, .inr (0, [.ref r, .int (iI z)]))] U.heap ∧ va_K (dC, dI) vwCl [] U ∧ va_D (fun _ => True) [(b, .inr (0, [.ref r, .int (iI z)]))])) (mv_Q (fun (v : Option Value) (u : Int) (k n : Nat) => match u with | (y) => (0 ≤ i ∧ i < z ∧ y = i ∨ (i < 0 ∨ z ≤ i) ∧ y = z) ∧ v = none ∧ k = 0 ∧ n = 0) (fun (u : Int) (tS : State) => match u with | (y) => va_P (dC, dI) vwCl [(b, .inr (0, [.ref r, .int (iI y)]))] tS.heap ∧ va_K (dC, dI) vwCl [] tS ∧ va_D (va_A [(b, .inr (0, [.ref r, .int (iI z)]))] sz) [(b, .inr (0, [.ref r, .int (iI y)]))]) (va_A [(b, .inr (0, [.ref r, .int (iI z)]))] sz)) (va_A [(b, .inr (0, [.ref r, .int (iI z)]))] sz) := by
  refine mv_ofW (cc := cX0_cut) (maxL := 2) (ret := none) (by decide) rfl ?_
  intro p e s m args below meth c s₁ B hml hv
  obtain ⟨rfl, hsz, hP, hK, hD0⟩ := hv
  have hx := B.exec
  have hb := B.bytes
  have hr := B.returns
  have hT : ∀ w ∈ wT, w.before _ s = true := fun w h => atoms_spec (ws := wsX0_cut) B.pre w (List.mem_cons_of_mem _ h)
  have hown : s.vm.findClass RX0 = some m.cls := findClass_of_methodNamed B.named
  have hlocks := B.notSynchronized
  subst hsz
  have hD := hD0.self (sz := s.heap.size)
  generalize hAe : va_A [(b, .inr (0, [.ref r, .int (iI z)]))] s.heap.size = A at hD ⊢
  have hA : ∀ q : Nat, s.heap.size ≤ q → A q := fun q h => by rw [← hAe]; exact Or.inr h
  have hS : va_S A s.heap s.heap [] := va_S.rf
  have hP : va_P (dC, dI) vwCl [(b, .inr (0, [.ref r, .int (iI z)]))] s.heap := hP
  have hl := lv_entry ([.ref b, .int (iI i)]) (n := 2) (Nat.le_of_ble_eq_true rfl)
  rw [lg_entry_eq]
  generalize (lg_sl ([.ref b, .int (iI i)]) ++ List.replicate (2 - (lg_sl ([.ref b, .int (iI i)])).length) Slot.unset).toArray = ls at hl ⊢
  have hl : lv_has ls 2 [(0, .ref b), (1, .int (iI i))] := hl
  refine lv_iload_n hx hb dX0_cut_0 rfl (lv_at hl 1 rfl) ?_
  refine li_if_lt (tgt := 17) hx hb (by omega) dX0_cut_1 (by decide) (fun c1 => ?_) (fun c1 => ?_)
  · skip
    have hP9 := hP.sub (ws' := [(b, .inr (0, [.ref r, .int (iI z)]))]) [0] rfl
    have hD9 := hD.sub (ws' := [(b, .inr (0, [.ref r, .int (iI z)]))]) [0] (by decide) rfl
    have hK9 := hK.sub (tys' := []) [] rfl
    exact mv_vret hx hb hr hlocks (fun tS ht hW => ⟨⟨_, (z), rfl, ⟨by omega, rfl, rfl, rfl⟩, by rw [ht]; exact hP9, va_K.moved hW.alike hK9, hD9⟩, hS.F ht⟩) hS.2.2 dX0_cut_17
  · skip
    refine lv_iload_n hx hb dX0_cut_4 rfl (lv_at hl 1 rfl) ?_
    refine lv_aload_n hx hb dX0_cut_5 rfl (lv_at hl 0 rfl) ?_
    refine va_get (D := (dC, dI)) (ci := 0) (v := .int (iI z)) (C := RX0) (T := TX0) (N := 2) hx hb hT inX0 hown hK hP 0 rfl rfl 1 (by decide) (hT _ wd57) (fun _ h9 => h9) rfl dX0_cut_6 ?_
    refine li_icmp_ge (tgt := 17) hx hb (by omega) (by omega) dX0_cut_9 (by decide) (fun c2 => ?_) (fun c2 => ?_)
    · skip
      have hP9 := hP.sub (ws' := [(b, .inr (0, [.ref r, .int (iI z)]))]) [0] rfl
      have hD9 := hD.sub (ws' := [(b, .inr (0, [.ref r, .int (iI z)]))]) [0] (by decide) rfl
      have hK9 := hK.sub (tys' := []) [] rfl
      exact mv_vret hx hb hr hlocks (fun tS ht hW => ⟨⟨_, (z), rfl, ⟨by omega, rfl, rfl, rfl⟩, by rw [ht]; exact hP9, va_K.moved hW.alike hK9, hD9⟩, hS.F ht⟩) hS.2.2 dX0_cut_17
    · skip
      refine lv_aload_n hx hb dX0_cut_12 rfl (lv_at hl 0 rfl) ?_
      refine lv_iload_n hx hb dX0_cut_13 rfl (lv_at hl 1 rfl) ?_
      refine va_put (D := (dC, dI)) (ci := 0) (v := .int (iI i)) (ty := .int) (C := RX0) (T := TX0) (N := 2) hx hb hT inX0 tyX0 tyX0_ok nX0 hown hK hP hD hS 0 rfl rfl 1 (by decide) (hT _ wd57) (fun _ h9 => h9) rfl (by decide +kernel) rfl rfl (Nat.le_of_ble_eq_true rfl) dX0_cut_14 (fun H locs hP hD hS => ?_)
      have hP : va_P (dC, dI) vwCl [(b, .inr (0, [.ref r, .int (iI i)]))] H := hP
      have hD : va_D A [(b, .inr (0, [.ref r, .int (iI i)]))] := hD
      have hP9 := hP.sub (ws' := [(b, .inr (0, [.ref r, .int (iI i)]))]) [0] rfl
      have hD9 := hD.sub (ws' := [(b, .inr (0, [.ref r, .int (iI i)]))]) [0] (by decide) rfl
      have hK9 := hK.sub (tys' := []) [] rfl
      exact mv_vret hx hb hr hlocks (fun tS ht hW => ⟨⟨_, (i), rfl, ⟨by omega, rfl, rfl, rfl⟩, by rw [ht]; exact hP9, va_K.moved hW.alike hK9, hD9⟩, hS.F ht⟩) hS.2.2 dX0_cut_17
set_option maxHeartbeats 4000000 in
set_option maxRecDepth 100000 in
theorem c_B_set (l : Launch) (dC : Nat → ClassId) (dI : Nat → Nat → Nat) (sz : Nat) (b : Nat) (r : Nat) (cA : ClassId) (w : Nat) (t : Nat → Int) (z : Int) (i : Int) (x : Int) (hw : w ≤ 4096) (hi : 0 ≤ i ∧ i < w) : mv_Met l yX0_set wsX0_set ({ frames := 0, cells := 0, slots := 0, locals := 0 }) (va_Pc [.ref b, .int (iI i), .int (iI x)] (fun U => U.heap.size = sz ∧ va_P (dC, dI) vwCl [(b, .inr (0, [.ref r, .int (iI z)])), (r, .inl (cA, w, .inl (fun j => bI (t j))))] U.heap ∧ va_K (dC, dI) vwCl [(cA, .byte)] U ∧ va_D (fun _ => True) [(b, .inr (0, [.ref r, .int (iI z)])), (r, .inl (cA, w, .inl (fun j => bI (t j))))])) (mv_Q (fun (v : Option Value) (_ : Unit) (k n : Nat) => v = none ∧ k = 0 ∧ n = 0) (fun (_ : Unit) (tS : State) => va_P (dC, dI) vwCl [(b, .inr (0, [.ref r, .int (iI z)])), (r, .inl (cA, w, .inl (fun j => bI ((vf_upd t (i : Int).toNat x) j))))] tS.heap ∧ va_K (dC, dI) vwCl [(cA, .byte)] tS ∧ va_D (va_A [(b, .inr (0, [.ref r, .int (iI z)])), (r, .inl (cA, w, .inl (fun j => bI (t j))))] sz) [(b, .inr (0, [.ref r, .int (iI z)])), (r, .inl (cA, w, .inl (fun j => bI ((vf_upd t (i : Int).toNat x) j))))]) (va_A [(b, .inr (0, [.ref r, .int (iI z)])), (r, .inl (cA, w, .inl (fun j => bI (t j))))] sz)) (va_A [(b, .inr (0, [.ref r, .int (iI z)])), (r, .inl (cA, w, .inl (fun j => bI (t j))))] sz) := by
  refine mv_ofW (cc := cX0_set) (maxL := 3) (ret := none) (by decide) rfl ?_
  intro p e s m args below meth c s₁ B hml hv
  obtain ⟨rfl, hsz, hP, hK, hD0⟩ := hv
  have hx := B.exec
  have hb := B.bytes
  have hr := B.returns
  have hT : ∀ w ∈ wT, w.before _ s = true := fun w h => atoms_spec (ws := wsX0_set) B.pre w (List.mem_cons_of_mem _ h)
  have hown : s.vm.findClass RX0 = some m.cls := findClass_of_methodNamed B.named
  have hlocks := B.notSynchronized
  subst hsz
  have hD := hD0.self (sz := s.heap.size)
  generalize hAe : va_A [(b, .inr (0, [.ref r, .int (iI z)])), (r, .inl (cA, w, .inl (fun j => bI (t j))))] s.heap.size = A at hD ⊢
  have hA : ∀ q : Nat, s.heap.size ≤ q → A q := fun q h => by rw [← hAe]; exact Or.inr h
  have hS : va_S A s.heap s.heap [] := va_S.rf
  have hP : va_P (dC, dI) vwCl [(b, .inr (0, [.ref r, .int (iI z)])), (r, .inl (cA, w, .inl (fun j => bI (t j))))] s.heap := hP
  have hl := lv_entry ([.ref b, .int (iI i), .int (iI x)]) (n := 3) (Nat.le_of_ble_eq_true rfl)
  rw [lg_entry_eq]
  generalize (lg_sl ([.ref b, .int (iI i), .int (iI x)]) ++ List.replicate (3 - (lg_sl ([.ref b, .int (iI i), .int (iI x)])).length) Slot.unset).toArray = ls at hl ⊢
  have hl : lv_has ls 3 [(0, .ref b), (1, .int (iI i)), (2, .int (iI x))] := hl
  refine lv_iload_n hx hb dX0_set_0 rfl (lv_at hl 1 rfl) ?_
  refine li_if_lt (tgt := 21) hx hb (by omega) dX0_set_1 (by decide) (fun c1 => absurd c1 (by omega)) (fun c1 => ?_)
  refine lv_iload_n hx hb dX0_set_4 rfl (lv_at hl 1 rfl) ?_
  refine lv_aload_n hx hb dX0_set_5 rfl (lv_at hl 0 rfl) ?_
  refine va_get (D := (dC, dI)) (ci := 0) (v := .ref r) (C := RX0) (T := TX0) (N := 2) hx hb hT inX0 hown hK hP 0 rfl rfl 0 (by decide) (hT _ wd56) (fun _ h9 => h9) rfl dX0_set_6 ?_
  refine li_alen hx hb hK hP 1 0 rfl rfl dX0_set_9 ?_
  refine li_icmp_ge (tgt := 21) hx hb (by omega) (by omega) dX0_set_10 (by decide) (fun c2 => absurd c2 (by omega)) (fun c2 => ?_)
  refine lv_aload_n hx hb dX0_set_13 rfl (lv_at hl 0 rfl) ?_
  refine va_get (D := (dC, dI)) (ci := 0) (v := .ref r) (C := RX0) (T := TX0) (N := 2) hx hb hT inX0 hown hK hP 0 rfl rfl 0 (by decide) (hT _ wd56) (fun _ h9 => h9) rfl dX0_set_14 ?_
  refine lv_iload_n hx hb dX0_set_17 rfl (lv_at hl 1 rfl) ?_
  refine lv_iload_n hx hb dX0_set_18 rfl (lv_at hl 2 rfl) ?_
  refine li_i2b hx hb dX0_set_19 ?_
  refine li_bast hx hb hK hP hD hS 1 0 rfl rfl (z := i) (by omega) (by omega) dX0_set_20 (fun H locs hP hD hS => ?_)
  have hP : va_P (dC, dI) vwCl [(b, .inr (0, [.ref r, .int (iI z)])), (r, .inl (cA, w, .inl (fun j => bI ((vf_upd t (i : Int).toNat x) j))))] H := hP
  have hD : va_D A [(b, .inr (0, [.ref r, .int (iI z)])), (r, .inl (cA, w, .inl (fun j => bI ((vf_upd t (i : Int).toNat x) j))))] := hD
  have hP9 := hP.sub (ws' := [(b, .inr (0, [.ref r, .int (iI z)])), (r, .inl (cA, w, .inl (fun j => bI ((vf_upd t (i : Int).toNat x) j))))]) [0, 1] rfl
  have hD9 := hD.sub (ws' := [(b, .inr (0, [.ref r, .int (iI z)])), (r, .inl (cA, w, .inl (fun j => bI ((vf_upd t (i : Int).toNat x) j))))]) [0, 1] (by decide) rfl
  have hK9 := hK.sub (tys' := [(cA, .byte)]) [0] rfl
  exact mv_vret hx hb hr hlocks (fun tS ht hW => ⟨⟨_, (), rfl, ⟨rfl, rfl, rfl⟩, by rw [ht]; exact hP9, va_K.moved hW.alike hK9, hD9⟩, hS.F ht⟩) hS.2.2 dX0_set_21
