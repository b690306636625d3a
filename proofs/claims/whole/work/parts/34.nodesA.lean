set_option maxHeartbeats 4000000 in
set_option maxRecDepth 100000 in
theorem c_icmp (l : Launch) (dC : Nat → ClassId) (dI : Nat → Nat → Nat) (sz : Nat) (x : Int) (y : Int) (hx4 : -2147483648 ≤ x ∧ x < 2147483648) (hy : -2147483648 ≤ y ∧ y < 2147483648) : mv_Met l yJI_compare wsJI_compare ({ frames := 0, cells := 0, slots := 0, locals := 0 }) (va_Pc [.int (iI x), .int (iI y)] (fun U => U.heap.size = sz ∧ va_P (dC, dI) vwCl [] U.heap ∧ va_K (dC, dI) vwCl [] U ∧ va_D (fun _ => True) [])) (mv_Q (fun (v : Option Value) (u : Int) (k n : Nat) => match u with | (q') => v = some (.int (iI q')) ∧ (x < y ∧ q' = -1 ∨ x = y ∧ q' = 0 ∨ y < x ∧ q' = 1) ∧ k = 0 ∧ n = 0) (fun (u : Int) (tS : State) => match u with | (q') => va_P (dC, dI) vwCl [] tS.heap ∧ va_K (dC, dI) vwCl [] tS ∧ va_D (va_A [] sz) []) (va_A [] sz)) (va_A [] sz) := by
  refine mv_ofW (cc := cJI_compare) (maxL := 2) (ret := (some .int)) (by decide) rfl ?_
  intro p e s m args below meth c s₁ B hml hv
  obtain ⟨rfl, hsz, hP, hK, hD0⟩ := hv
  have hx := B.exec
  have hb := B.bytes
  have hr := B.returns
  have hT : ∀ w ∈ wT, w.before _ s = true := fun w h => atoms_spec (ws := wsJI_compare) B.pre w (List.mem_cons_of_mem _ h)
  have hown : s.vm.findClass RJI = some m.cls := findClass_of_methodNamed B.named
  have hlocks := B.notSynchronized
  subst hsz
  have hD := hD0.self (sz := s.heap.size)
  generalize hAe : va_A [] s.heap.size = A at hD ⊢
  have hA : ∀ q : Nat, s.heap.size ≤ q → A q := fun q h => by rw [← hAe]; exact Or.inr h
  have hS : va_S A s.heap s.heap [] := va_S.rf
  have hP : va_P (dC, dI) vwCl [] s.heap := hP
  have hl := lv_entry ([.int (iI x), .int (iI y)]) (n := 2) (Nat.le_of_ble_eq_true rfl)
  rw [lg_entry_eq]
  generalize (lg_sl ([.int (iI x), .int (iI y)]) ++ List.replicate (2 - (lg_sl ([.int (iI x), .int (iI y)])).length) Slot.unset).toArray = ls at hl ⊢
  have hl : lv_has ls 2 [(0, .int (iI x)), (1, .int (iI y))] := hl
  refine lv_iload_n hx hb dJI_compare_0 rfl (lv_at hl 0 rfl) ?_
  refine lv_iload_n hx hb dJI_compare_1 rfl (lv_at hl 1 rfl) ?_
  refine li_icmp_ge (tgt := 9) hx hb (by omega) (by omega) dJI_compare_2 (by decide) (fun c1 => ?_) (fun c1 => ?_)
  · skip
    refine lv_iload_n hx hb dJI_compare_9 rfl (lv_at hl 0 rfl) ?_
    refine lv_iload_n hx hb dJI_compare_10 rfl (lv_at hl 1 rfl) ?_
    refine li_icmp_ne (tgt := 18) hx hb (by omega) (by omega) dJI_compare_11 (by decide) (fun c2 => ?_) (fun c2 => ?_)
    · skip
      refine lv_iconst (v := iI 1) hx hb dJI_compare_18 rfl ?_
      have hP9 := hP.sub (ws' := []) [] rfl
      have hD9 := hD.sub (ws' := []) [] (by decide) rfl
      have hK9 := hK.sub (tys' := []) [] rfl
      exact mv_iret hx hb hr hlocks (fun tS ht hW => ⟨⟨_, (1), rfl, ⟨rfl, by omega, rfl, rfl⟩, by rw [ht]; exact hP9, va_K.moved hW.alike hK9, hD9⟩, hS.F ht⟩) hS.2.2 dJI_compare_19
    · skip
      refine lv_iconst (v := iI 0) hx hb dJI_compare_14 rfl ?_
      refine lv_goto (tgt := 19) hx hb dJI_compare_15 (by decide) ?_
      have hP9 := hP.sub (ws' := []) [] rfl
      have hD9 := hD.sub (ws' := []) [] (by decide) rfl
      have hK9 := hK.sub (tys' := []) [] rfl
      exact mv_iret hx hb hr hlocks (fun tS ht hW => ⟨⟨_, (0), rfl, ⟨rfl, by omega, rfl, rfl⟩, by rw [ht]; exact hP9, va_K.moved hW.alike hK9, hD9⟩, hS.F ht⟩) hS.2.2 dJI_compare_19
  · skip
    refine lv_iconst (v := iI (-1)) hx hb dJI_compare_5 rfl ?_
    refine lv_goto (tgt := 19) hx hb dJI_compare_6 (by decide) ?_
    have hP9 := hP.sub (ws' := []) [] rfl
    have hD9 := hD.sub (ws' := []) [] (by decide) rfl
    have hK9 := hK.sub (tys' := []) [] rfl
    exact mv_iret hx hb hr hlocks (fun tS ht hW => ⟨⟨_, ((-1)), rfl, ⟨rfl, by omega, rfl, rfl⟩, by rw [ht]; exact hP9, va_K.moved hW.alike hK9, hD9⟩, hS.F ht⟩) hS.2.2 dJI_compare_19
set_option maxHeartbeats 4000000 in
set_option maxRecDepth 100000 in
theorem c_N_size (l : Launch) (dC : Nat → ClassId) (dI : Nat → Nat → Nat) (sz : Nat) (nd : Nat) (b : Nat) (h : Nat) (rw : Nat) (mn : Int) (sx : Int) : mv_Met l yX2_size wsX2_size ({ frames := 0, cells := 0, slots := 0, locals := 0 }) (va_Pc [.ref nd] (fun U => U.heap.size = sz ∧ va_P (dC, dI) vwCl [(nd, .inr (2, [.ref b, .ref h, .ref rw, .int (iI mn), .int (iI sx)]))] U.heap ∧ va_K (dC, dI) vwCl [] U ∧ va_D (fun _ => True) [(nd, .inr (2, [.ref b, .ref h, .ref rw, .int (iI mn), .int (iI sx)]))])) (mv_Q (fun (v : Option Value) (_ : Unit) (k n : Nat) => v = some (.int (iI mn)) ∧ k = 0 ∧ n = 0) (fun (_ : Unit) (tS : State) => va_P (dC, dI) vwCl [(nd, .inr (2, [.ref b, .ref h, .ref rw, .int (iI mn), .int (iI sx)]))] tS.heap ∧ va_K (dC, dI) vwCl [] tS ∧ va_D (va_A [(nd, .inr (2, [.ref b, .ref h, .ref rw, .int (iI mn), .int (iI sx)]))] sz) [(nd, .inr (2, [.ref b, .ref h, .ref rw, .int (iI mn), .int (iI sx)]))]) (va_A [(nd, .inr (2, [.ref b, .ref h, .ref rw, .int (iI mn), .int (iI sx)]))] sz)) (va_A [(nd, .inr (2, [.ref b, .ref h, .ref rw, .int (iI mn), .int (iI sx)]))] sz) := by
  refine mv_ofW (cc := cX2_size) (maxL := 1) (ret := (some .int)) (by decide) rfl ?_
  intro p e s m args below meth c s₁ B hml hv
  obtain ⟨rfl, hsz, hP, hK, hD0⟩ := hv
  have hx := B.exec
  have hb := B.bytes
  have hr := B.returns
  have hT : ∀ w ∈ wT, w.before _ s = true := fun w h => atoms_spec (ws := wsX2_size) B.pre w (List.mem_cons_of_mem _ h)
  have hown : s.vm.findClass RX2 = some m.cls := findClass_of_methodNamed B.named
  have hlocks := B.notSynchronized
  subst hsz
  have hD := hD0.self (sz := s.heap.size)
  generalize hAe : va_A [(nd, .inr (2, [.ref b, .ref h, .ref rw, .int (iI mn), .int (iI sx)]))] s.heap.size = A at hD ⊢
  have hA : ∀ q : Nat, s.heap.size ≤ q → A q := fun q h => by rw [← hAe]; exact Or.inr h
  have hS : va_S A s.heap s.heap [] := va_S.rf
  have hP : va_P (dC, dI) vwCl [(nd, .inr (2, [.ref b, .ref h, .ref rw, .int (iI mn), .int (iI sx)]))] s.heap := hP
  have hl := lv_entry ([.ref nd]) (n := 1) (Nat.le_of_ble_eq_true rfl)
  rw [lg_entry_eq]
  generalize (lg_sl ([.ref nd]) ++ List.replicate (1 - (lg_sl ([.ref nd])).length) Slot.unset).toArray = ls at hl ⊢
  have hl : lv_has ls 1 [(0, .ref nd)] := hl
  refine lv_aload_n hx hb dX2_size_0 rfl (lv_at hl 0 rfl) ?_
  refine va_get (D := (dC, dI)) (ci := 2) (v := .int (iI mn)) (C := RX2) (T := TX2) (N := 5) hx hb hT inX2 hown hK hP 0 rfl rfl 3 (by decide) (hT _ wd106) (fun _ h9 => h9) rfl dX2_size_1 ?_
  have hP9 := hP.sub (ws' := [(nd, .inr (2, [.ref b, .ref h, .ref rw, .int (iI mn), .int (iI sx)]))]) [0] rfl
  have hD9 := hD.sub (ws' := [(nd, .inr (2, [.ref b, .ref h, .ref rw, .int (iI mn), .int (iI sx)]))]) [0] (by decide) rfl
  have hK9 := hK.sub (tys' := []) [] rfl
  exact mv_iret hx hb hr hlocks (fun tS ht hW => ⟨⟨_, (), rfl, ⟨rfl, rfl, rfl⟩, by rw [ht]; exact hP9, va_K.moved hW.alike hK9, hD9⟩, hS.F ht⟩) hS.2.2 dX2_size_4
set_option maxHeartbeats 4000000 in
set_option maxRecDepth 100000 in
theorem c_N_has (l : Launch) (dC : Nat → ClassId) (dI : Nat → Nat → Nat) (sz : Nat) (nd : Nat) (b : Nat) (h : Nat) (rw : Nat) (mn : Int) (sx : Int) (a : Int) (hm : 0 ≤ mn ∧ mn ≤ 2048) (ha : -2147483648 ≤ a ∧ a < 2147483648) : mv_Met l yX2_has wsX2_has ({ frames := 0, cells := 0, slots := 0, locals := 0 }) (va_Pc [.ref nd, .int (iI a)] (fun U => U.heap.size = sz ∧ va_P (dC, dI) vwCl [(nd, .inr (2, [.ref b, .ref h, .ref rw, .int (iI mn), .int (iI sx)]))] U.heap ∧ va_K (dC, dI) vwCl [] U ∧ va_D (fun _ => True) [(nd, .inr (2, [.ref b, .ref h, .ref rw, .int (iI mn), .int (iI sx)]))])) (mv_Q (fun (v : Option Value) (u : Int) (k n : Nat) => match u with | (q') => v = some (.int (iI q')) ∧ (q' = 1 ∧ 0 ≤ a ∧ a < mn ∨ q' = 0 ∧ (a < 0 ∨ mn ≤ a)) ∧ k = 0 ∧ n = 0) (fun (u : Int) (tS : State) => match u with | (q') => va_P (dC, dI) vwCl [(nd, .inr (2, [.ref b, .ref h, .ref rw, .int (iI mn), .int (iI sx)]))] tS.heap ∧ va_K (dC, dI) vwCl [] tS ∧ va_D (va_A [(nd, .inr (2, [.ref b, .ref h, .ref rw, .int (iI mn), .int (iI sx)]))] sz) [(nd, .inr (2, [.ref b, .ref h, .ref rw, .int (iI mn), .int (iI sx)]))]) (va_A [(nd, .inr (2, [.ref b, .ref h, .ref rw, .int (iI mn), .int (iI sx)]))] sz)) (va_A [(nd, .inr (2, [.ref b, .ref h, .ref rw, .int (iI mn), .int (iI sx)]))] sz) := by
  refine mv_ofW (cc := cX2_has) (maxL := 2) (ret := (some .boolean)) (by decide) rfl ?_
  intro p e s m args below meth c s₁ B hml hv
  obtain ⟨rfl, hsz, hP, hK, hD0⟩ := hv
  have hx := B.exec
  have hb := B.bytes
  have hr := B.returns
  have hT : ∀ w ∈ wT, w.before _ s = true := fun w h => atoms_spec (ws := wsX2_has) B.pre w (List.mem_cons_of_mem _ h)
  have hown : s.vm.findClass RX2 = some m.cls := findClass_of_methodNamed B.named
  have hlocks := B.notSynchronized
  subst hsz
  have hD := hD0.self (sz := s.heap.size)
  generalize hAe : va_A [(nd, .inr (2, [.ref b, .ref h, .ref rw, .int (iI mn), .int (iI sx)]))] s.heap.size = A at hD ⊢
  have hA : ∀ q : Nat, s.heap.size ≤ q → A q := fun q h => by rw [← hAe]; exact Or.inr h
  have hS : va_S A s.heap s.heap [] := va_S.rf
  have hP : va_P (dC, dI) vwCl [(nd, .inr (2, [.ref b, .ref h, .ref rw, .int (iI mn), .int (iI sx)]))] s.heap := hP
  have hl := lv_entry ([.ref nd, .int (iI a)]) (n := 2) (Nat.le_of_ble_eq_true rfl)
  rw [lg_entry_eq]
  generalize (lg_sl ([.ref nd, .int (iI a)]) ++ List.replicate (2 - (lg_sl ([.ref nd, .int (iI a)])).length) Slot.unset).toArray = ls at hl ⊢
  have hl : lv_has ls 2 [(0, .ref nd), (1, .int (iI a))] := hl
  refine lv_iload_n hx hb dX2_has_0 rfl (lv_at hl 1 rfl) ?_
  refine li_if_lt (tgt := 16) hx hb (by omega) dX2_has_1 (by decide) (fun c1 => ?_) (fun c1 => ?_)
  · skip
    refine lv_iconst (v := iI 0) hx hb dX2_has_16 rfl ?_
    have hP9 := hP.sub (ws' := [(nd, .inr (2, [.ref b, .ref h, .ref rw, .int (iI mn), .int (iI sx)]))]) [0] rfl
    have hD9 := hD.sub (ws' := [(nd, .inr (2, [.ref b, .ref h, .ref rw, .int (iI mn), .int (iI sx)]))]) [0] (by decide) rfl
    have hK9 := hK.sub (tys' := []) [] rfl
    exact mv_zret hx hb hr (zb_n (by omega)) hlocks (fun tS ht hW => ⟨⟨_, (0), rfl, ⟨rfl, by omega, rfl, rfl⟩, by rw [ht]; exact hP9, va_K.moved hW.alike hK9, hD9⟩, hS.F ht⟩) hS.2.2 dX2_has_17
  · skip
    refine lv_iload_n hx hb dX2_has_4 rfl (lv_at hl 1 rfl) ?_
    refine lv_aload_n hx hb dX2_has_5 rfl (lv_at hl 0 rfl) ?_
    refine va_get (D := (dC, dI)) (ci := 2) (v := .int (iI mn)) (C := RX2) (T := TX2) (N := 5) hx hb hT inX2 hown hK hP 0 rfl rfl 3 (by decide) (hT _ wd106) (fun _ h9 => h9) rfl dX2_has_6 ?_
    refine li_icmp_ge (tgt := 16) hx hb (by omega) (by omega) dX2_has_9 (by decide) (fun c2 => ?_) (fun c2 => ?_)
    · skip
      refine lv_iconst (v := iI 0) hx hb dX2_has_16 rfl ?_
      have hP9 := hP.sub (ws' := [(nd, .inr (2, [.ref b, .ref h, .ref rw, .int (iI mn), .int (iI sx)]))]) [0] rfl
      have hD9 := hD.sub (ws' := [(nd, .inr (2, [.ref b, .ref h, .ref rw, .int (iI mn), .int (iI sx)]))]) [0] (by decide) rfl
      have hK9 := hK.sub (tys' := []) [] rfl
      exact mv_zret hx hb hr (zb_n (by omega)) hlocks (fun tS ht hW => ⟨⟨_, (0), rfl, ⟨rfl, by omega, rfl, rfl⟩, by rw [ht]; exact hP9, va_K.moved hW.alike hK9, hD9⟩, hS.F ht⟩) hS.2.2 dX2_has_17
    · skip
      refine lv_iconst (v := iI 1) hx hb dX2_has_12 rfl ?_
      refine lv_goto (tgt := 17) hx hb dX2_has_13 (by decide) ?_
      have hP9 := hP.sub (ws' := [(nd, .inr (2, [.ref b, .ref h, .ref rw, .int (iI mn), .int (iI sx)]))]) [0] rfl
      have hD9 := hD.sub (ws' := [(nd, .inr (2, [.ref b, .ref h, .ref rw, .int (iI mn), .int (iI sx)]))]) [0] (by decide) rfl
      have hK9 := hK.sub (tys' := []) [] rfl
      exact mv_zret hx hb hr (zb_n (by omega)) hlocks (fun tS ht hW => ⟨⟨_, (1), rfl, ⟨rfl, by omega, rfl, rfl⟩, by rw [ht]; exact hP9, va_K.moved hW.alike hK9, hD9⟩, hS.F ht⟩) hS.2.2 dX2_has_17
set_option maxHeartbeats 4000000 in
set_option maxRecDepth 100000 in
theorem c_N_ix (l : Launch) (dC : Nat → ClassId) (dI : Nat → Nat → Nat) (sz : Nat) (nd : Nat) (b : Nat) (h : Nat) (rw : Nat) (mn : Int) (sx : Int) (a : Int) (f : Int) (hm : 0 ≤ mn ∧ mn ≤ 2048) (ha : -2147483648 ≤ a ∧ a < 2147483648) (hf : -2147483648 ≤ f ∧ f < 2147483648) : mv_Met l yX2_indexOf wsX2_indexOf ({ frames := 1, cells := 0, slots := 0, locals := 40 }) (va_Pc [.ref nd, .int (iI a), .int (iI f)] (fun U => U.heap.size = sz ∧ va_P (dC, dI) vwCl [(nd, .inr (2, [.ref b, .ref h, .ref rw, .int (iI mn), .int (iI sx)]))] U.heap ∧ va_K (dC, dI) vwCl [] U ∧ va_D (fun _ => True) [(nd, .inr (2, [.ref b, .ref h, .ref rw, .int (iI mn), .int (iI sx)]))])) (mv_Q (fun (v : Option Value) (u : Int) (k n : Nat) => match u with | (q') => v = some (.int (iI q')) ∧ (0 ≤ a ∧ a < mn ∧ 0 ≤ f ∧ f < 8 ∧ q' = a * 8 + f ∨ (a < 0 ∨ mn ≤ a ∨ f < 0 ∨ 8 ≤ f) ∧ q' = -1) ∧ k = 0 ∧ n = 0) (fun (u : Int) (tS : State) => match u with | (q') => va_P (dC, dI) vwCl [(nd, .inr (2, [.ref b, .ref h, .ref rw, .int (iI mn), .int (iI sx)]))] tS.heap ∧ va_K (dC, dI) vwCl [] tS ∧ va_D (va_A [(nd, .inr (2, [.ref b, .ref h, .ref rw, .int (iI mn), .int (iI sx)]))] sz) [(nd, .inr (2, [.ref b, .ref h, .ref rw, .int (iI mn), .int (iI sx)]))]) (va_A [(nd, .inr (2, [.ref b, .ref h, .ref rw, .int (iI mn), .int (iI sx)]))] sz)) (va_A [(nd, .inr (2, [.ref b, .ref h, .ref rw, .int (iI mn), .int (iI sx)]))] sz) := by
  refine mv_ofW (cc := cX2_indexOf) (maxL := 3) (ret := (some .int)) (by decide) rfl ?_
  intro p e s m args below meth c s₁ B hml hv
  obtain ⟨rfl, hsz, hP, hK, hD0⟩ := hv
  have hx := B.exec
  have hb := B.bytes
  have hr := B.returns
  have hT : ∀ w ∈ wT, w.before _ s = true := fun w h => atoms_spec (ws := wsX2_indexOf) B.pre w (List.mem_cons_of_mem _ h)
  have hown : s.vm.findClass RX2 = some m.cls := findClass_of_methodNamed B.named
  have hlocks := B.notSynchronized
  subst hsz
  have hD := hD0.self (sz := s.heap.size)
  generalize hAe : va_A [(nd, .inr (2, [.ref b, .ref h, .ref rw, .int (iI mn), .int (iI sx)]))] s.heap.size = A at hD ⊢
  have hA : ∀ q : Nat, s.heap.size ≤ q → A q := fun q h => by rw [← hAe]; exact Or.inr h
  have hS : va_S A s.heap s.heap [] := va_S.rf
  have hP : va_P (dC, dI) vwCl [(nd, .inr (2, [.ref b, .ref h, .ref rw, .int (iI mn), .int (iI sx)]))] s.heap := hP
  have hl := lv_entry ([.ref nd, .int (iI a), .int (iI f)]) (n := 3) (Nat.le_of_ble_eq_true rfl)
  rw [lg_entry_eq]
  generalize (lg_sl ([.ref nd, .int (iI a), .int (iI f)]) ++ List.replicate (3 - (lg_sl ([.ref nd, .int (iI a), .int (iI f)])).length) Slot.unset).toArray = ls at hl ⊢
  have hl : lv_has ls 3 [(0, .ref nd), (1, .int (iI a)), (2, .int (iI f))] := hl
  refine lv_aload_n hx hb dX2_indexOf_0 rfl (lv_at hl 0 rfl) ?_
  refine lv_iload_n hx hb dX2_indexOf_1 rfl (lv_at hl 1 rfl) ?_
  have hPc := hP.sub (ws' := [(nd, .inr (2, [.ref b, .ref h, .ref rw, .int (iI mn), .int (iI sx)]))]) [0] rfl
  have hDc := hD.sub (ws' := [(nd, .inr (2, [.ref b, .ref h, .ref rw, .int (iI mn), .int (iI sx)]))]) [0] (by decide) rfl
  have hKc := hK.sub (tys' := []) [] rfl
  have hFc := va_free (wc := [(nd, .inr (2, [.ref b, .ref h, .ref rw, .int (iI mn), .int (iI sx)]))]) hD hS hA [0] rfl
  refine mv_call (mv_runV (As := [.int (iI a)]) (rest := []) ⟨hx, hb, hml, hown, hT⟩ (c_N_has l dC dI s.heap.size nd b h rw mn sx a (by omega) (by omega)) (cwV 1 hT (gV wd357 wd358 wd359 wd28 wd360) rfl rfl rfl (by decide +kernel) ⟨show 0 + 1 ≤ 1 from by omega, show 8 + (2 + 11) + 0 ≤ 40 from by omega⟩) ⟨fun a U g mk q => by obtain ⟨q0, q1, qP, qK, qD⟩ := q; exact ⟨q0, q1, qP, va_K.moved (u := U) (U := U.calling g mk a) (Vm.Alike.refl U.vm) qK, qD⟩, va_recv hKc hPc (ci := 2) (q0 := 0) rfl rfl, fun U hU hW => ⟨rfl, by rw [hU], by rw [hU]; exact hPc, va_K.moved hW.alike hKc, hDc.weaken (fun _ _ _ _ => trivial)⟩⟩ rfl rfl hl.1 rfl (lv_room (Nat.le_of_ble_eq_true rfl)) dX2_indexOf_2 ⟨show 0 + 0 ≤ 0 from by omega, show 0 + 0 ≤ 0 from by omega⟩) hS (fun q _ h => hFc q h) hFc (fun v3 u k1 n2 tS H1 locs ht hvm hw hB hz1 hk1 hS => ?_)
  obtain ⟨q4, rfl⟩ : ∃ y, y = u := ⟨_, rfl⟩
  obtain ⟨hP1, hK1, hD1⟩ := hB
  rw [ht] at hP1
  have hK1 := va_K.moved hvm.symm hK1
  try dsimp only at hw
  obtain ⟨hP, hD⟩ := va_join (wr := []) (w1 := [(nd, .inr (2, [.ref b, .ref h, .ref rw, .int (iI mn), .int (iI sx)]))]) hP hD [0] [] rfl rfl (by decide) (by decide) hk1 hFc hP1 hD1
  have hK := (hK.sub (tys' := []) [] rfl).app hK1
  generalize H1 = H at hP hS ⊢
  have hP : va_P (dC, dI) vwCl [(nd, .inr (2, [.ref b, .ref h, .ref rw, .int (iI mn), .int (iI sx)]))] H := hP
  have hD : va_D A [(nd, .inr (2, [.ref b, .ref h, .ref rw, .int (iI mn), .int (iI sx)]))] := hD
  have hK : va_K (dC, dI) vwCl [] s := hK
  obtain ⟨rfl, hqv3, rfl, rfl⟩ := hw
  refine W.eq (g2 := F0 m 5 ls [.int (iI q4)]) rfl ?_
  refine li_if_eq (tgt := 27) hx hb (by omega) dX2_indexOf_5 (by decide) (fun c5 => ?_) (fun c5 => ?_)
  · skip
    refine lv_iconst (v := iI (-1)) hx hb dX2_indexOf_27 rfl ?_
    have hP9 := hP.sub (ws' := [(nd, .inr (2, [.ref b, .ref h, .ref rw, .int (iI mn), .int (iI sx)]))]) [0] rfl
    have hD9 := hD.sub (ws' := [(nd, .inr (2, [.ref b, .ref h, .ref rw, .int (iI mn), .int (iI sx)]))]) [0] (by decide) rfl
    have hK9 := hK.sub (tys' := []) [] rfl
    exact mv_iret hx hb hr hlocks (fun tS ht hW => ⟨⟨_, ((-1)), rfl, ⟨rfl, by omega, rfl, rfl⟩, by rw [ht]; exact hP9, va_K.moved hW.alike hK9, hD9⟩, hS.F ht⟩) hS.2.2 dX2_indexOf_28
  · skip
    refine lv_iload_n hx hb dX2_indexOf_8 rfl (lv_at hl 2 rfl) ?_
    refine li_if_lt (tgt := 27) hx hb (by omega) dX2_indexOf_9 (by decide) (fun c6 => ?_) (fun c6 => ?_)
    · skip
      refine lv_iconst (v := iI (-1)) hx hb dX2_indexOf_27 rfl ?_
      have hP9 := hP.sub (ws' := [(nd, .inr (2, [.ref b, .ref h, .ref rw, .int (iI mn), .int (iI sx)]))]) [0] rfl
      have hD9 := hD.sub (ws' := [(nd, .inr (2, [.ref b, .ref h, .ref rw, .int (iI mn), .int (iI sx)]))]) [0] (by decide) rfl
      have hK9 := hK.sub (tys' := []) [] rfl
      exact mv_iret hx hb hr hlocks (fun tS ht hW => ⟨⟨_, ((-1)), rfl, ⟨rfl, by omega, rfl, rfl⟩, by rw [ht]; exact hP9, va_K.moved hW.alike hK9, hD9⟩, hS.F ht⟩) hS.2.2 dX2_indexOf_28
    · skip
      refine lv_iload_n hx hb dX2_indexOf_12 rfl (lv_at hl 2 rfl) ?_
      refine lv_bipush (v := iI 8) hx hb dX2_indexOf_13 (by decide +kernel) ?_
      refine li_icmp_ge (tgt := 27) hx hb (by omega) (by omega) dX2_indexOf_15 (by decide) (fun c7 => ?_) (fun c7 => ?_)
      · skip
        refine lv_iconst (v := iI (-1)) hx hb dX2_indexOf_27 rfl ?_
        have hP9 := hP.sub (ws' := [(nd, .inr (2, [.ref b, .ref h, .ref rw, .int (iI mn), .int (iI sx)]))]) [0] rfl
        have hD9 := hD.sub (ws' := [(nd, .inr (2, [.ref b, .ref h, .ref rw, .int (iI mn), .int (iI sx)]))]) [0] (by decide) rfl
        have hK9 := hK.sub (tys' := []) [] rfl
        exact mv_iret hx hb hr hlocks (fun tS ht hW => ⟨⟨_, ((-1)), rfl, ⟨rfl, by omega, rfl, rfl⟩, by rw [ht]; exact hP9, va_K.moved hW.alike hK9, hD9⟩, hS.F ht⟩) hS.2.2 dX2_indexOf_28
      · skip
        refine lv_iload_n hx hb dX2_indexOf_18 rfl (lv_at hl 1 rfl) ?_
        refine lv_bipush (v := iI 8) hx hb dX2_indexOf_19 (by decide +kernel) ?_
        refine li_imul hx hb dX2_indexOf_21 ?_
        refine lv_iload_n hx hb dX2_indexOf_22 rfl (lv_at hl 2 rfl) ?_
        refine li_iadd hx hb dX2_indexOf_23 ?_
        refine lv_goto (tgt := 28) hx hb dX2_indexOf_24 (by decide) ?_
        have hP9 := hP.sub (ws' := [(nd, .inr (2, [.ref b, .ref h, .ref rw, .int (iI mn), .int (iI sx)]))]) [0] rfl
        have hD9 := hD.sub (ws' := [(nd, .inr (2, [.ref b, .ref h, .ref rw, .int (iI mn), .int (iI sx)]))]) [0] (by decide) rfl
        have hK9 := hK.sub (tys' := []) [] rfl
        exact mv_iret hx hb hr hlocks (fun tS ht hW => ⟨⟨_, (((a * 8) + f)), rfl, ⟨rfl, by omega, rfl, rfl⟩, by rw [ht]; exact hP9, va_K.moved hW.alike hK9, hD9⟩, hS.F ht⟩) hS.2.2 dX2_indexOf_28
set_option maxHeartbeats 4000000 in
set_option maxRecDepth 100000 in
theorem c_N_get (l : Launch) (dC : Nat → ClassId) (dI : Nat → Nat → Nat) (sz : Nat) (nd : Nat) (b : Nat) (h : Nat) (rw : Nat) (mn : Int) (sx : Int) (cR : ClassId) (M : Nat) (V : Nat → Int) (a : Int) (f : Int) (hM : 64 ≤ M ∧ M ≤ 16384) (hm : 0 ≤ mn ∧ mn ≤ 2048) (h8 : 8 * mn ≤ M) (hV6 : ∀ j, -2147483648 ≤ V j ∧ V j < 2147483648) (ha : -2147483648 ≤ a ∧ a < 2147483648) (hf : 0 ≤ f ∧ f < 8) : mv_Met l yX2_get wsX2_get ({ frames := 2, cells := 0, slots := 0, locals := 70 }) (va_Pc [.ref nd, .int (iI a), .int (iI f)] (fun U => U.heap.size = sz ∧ va_P (dC, dI) vwCl [(nd, .inr (2, [.ref b, .ref h, .ref rw, .int (iI mn), .int (iI sx)])), (rw, .inl (cR, M, .inl (fun j => iI (V j))))] U.heap ∧ va_K (dC, dI) vwCl [(cR, .int)] U ∧ va_D (fun _ => True) [(nd, .inr (2, [.ref b, .ref h, .ref rw, .int (iI mn), .int (iI sx)])), (rw, .inl (cR, M, .inl (fun j => iI (V j))))])) (mv_Q (fun (v : Option Value) (u : Int) (k n : Nat) => match u with | (q') => v = some (.int (iI q')) ∧ (0 ≤ a ∧ a < mn ∧ q' = V (a * 8 + f).toNat ∨ (a < 0 ∨ mn ≤ a) ∧ q' = 0) ∧ (-2147483648 ≤ q' ∧ q' < 2147483648) ∧ k = 0 ∧ n = 0) (fun (u : Int) (tS : State) => match u with | (q') => va_P (dC, dI) vwCl [(nd, .inr (2, [.ref b, .ref h, .ref rw, .int (iI mn), .int (iI sx)])), (rw, .inl (cR, M, .inl (fun j => iI (V j))))] tS.heap ∧ va_K (dC, dI) vwCl [(cR, .int)] tS ∧ va_D (va_A [(nd, .inr (2, [.ref b, .ref h, .ref rw, .int (iI mn), .int (iI sx)])), (rw, .inl (cR, M, .inl (fun j => iI (V j))))] sz) [(nd, .inr (2, [.ref b, .ref h, .ref rw, .int (iI mn), .int (iI sx)])), (rw, .inl (cR, M, .inl (fun j => iI (V j))))]) (va_A [(nd, .inr (2, [.ref b, .ref h, .ref rw, .int (iI mn), .int (iI sx)])), (rw, .inl (cR, M, .inl (fun j => iI (V j))))] sz)) (va_A [(nd, .inr (2, [.ref b, .ref h, .ref rw, .int (iI mn), .int (iI sx)])), (rw, .inl (cR, M, .inl (fun j => iI (V j))))] sz) := by
  refine mv_ofW (cc := cX2_get) (maxL := 4) (ret := (some .int)) (by decide) rfl ?_
  intro p e s m args below meth c s₁ B hml hv
  obtain ⟨rfl, hsz, hP, hK, hD0⟩ := hv
  have hx := B.exec
  have hb := B.bytes
  have hr := B.returns
  have hT : ∀ w ∈ wT, w.before _ s = true := fun w h => atoms_spec (ws := wsX2_get) B.pre w (List.mem_cons_of_mem _ h)
  have hown : s.vm.findClass RX2 = some m.cls := findClass_of_methodNamed B.named
  have hlocks := B.notSynchronized
  subst hsz
  have hD := hD0.self (sz := s.heap.size)
  generalize hAe : va_A [(nd, .inr (2, [.ref b, .ref h, .ref rw, .int (iI mn), .int (iI sx)])), (rw, .inl (cR, M, .inl (fun j => iI (V j))))] s.heap.size = A at hD ⊢
  have hA : ∀ q : Nat, s.heap.size ≤ q → A q := fun q h => by rw [← hAe]; exact Or.inr h
  have hS : va_S A s.heap s.heap [] := va_S.rf
  have hP : va_P (dC, dI) vwCl [(nd, .inr (2, [.ref b, .ref h, .ref rw, .int (iI mn), .int (iI sx)])), (rw, .inl (cR, M, .inl (fun j => iI (V j))))] s.heap := hP
  have hl := lv_entry ([.ref nd, .int (iI a), .int (iI f)]) (n := 4) (Nat.le_of_ble_eq_true rfl)
  rw [lg_entry_eq]
  generalize (lg_sl ([.ref nd, .int (iI a), .int (iI f)]) ++ List.replicate (4 - (lg_sl ([.ref nd, .int (iI a), .int (iI f)])).length) Slot.unset).toArray = ls at hl ⊢
  have hl : lv_has ls 4 [(0, .ref nd), (1, .int (iI a)), (2, .int (iI f))] := hl
  refine lv_aload_n hx hb dX2_get_0 rfl (lv_at hl 0 rfl) ?_
  refine lv_iload_n hx hb dX2_get_1 rfl (lv_at hl 1 rfl) ?_
  refine lv_iload_n hx hb dX2_get_2 rfl (lv_at hl 2 rfl) ?_
  have hPc := hP.sub (ws' := [(nd, .inr (2, [.ref b, .ref h, .ref rw, .int (iI mn), .int (iI sx)]))]) [0] rfl
  have hDc := hD.sub (ws' := [(nd, .inr (2, [.ref b, .ref h, .ref rw, .int (iI mn), .int (iI sx)]))]) [0] (by decide) rfl
  have hKc := hK.sub (tys' := []) [] rfl
  have hFc := va_free (wc := [(nd, .inr (2, [.ref b, .ref h, .ref rw, .int (iI mn), .int (iI sx)]))]) hD hS hA [0] rfl
  refine mv_call (mv_runV (As := [.int (iI a), .int (iI f)]) (rest := []) ⟨hx, hb, hml, hown, hT⟩ (c_N_ix l dC dI s.heap.size nd b h rw mn sx a f (by omega) (by omega) (by omega)) (cwV 2 hT (gV wd353 wd355 wd10 wd28 wd356) rfl rfl rfl (by decide +kernel) ⟨show 1 + 1 ≤ 2 from by omega, show 8 + (3 + 11) + 40 ≤ 70 from by omega⟩) ⟨fun a U g mk q => by obtain ⟨q0, q1, qP, qK, qD⟩ := q; exact ⟨q0, q1, qP, va_K.moved (u := U) (U := U.calling g mk a) (Vm.Alike.refl U.vm) qK, qD⟩, va_recv hKc hPc (ci := 2) (q0 := 0) rfl rfl, fun U hU hW => ⟨rfl, by rw [hU], by rw [hU]; exact hPc, va_K.moved hW.alike hKc, hDc.weaken (fun _ _ _ _ => trivial)⟩⟩ rfl rfl hl.1 rfl (lv_room (Nat.le_of_ble_eq_true rfl)) dX2_get_3 ⟨show 0 + 0 ≤ 0 from by omega, show 0 + 0 ≤ 0 from by omega⟩) hS (fun q _ h => hFc q h) hFc (fun v3 u k1 n2 tS H1 locs ht hvm hw hB hz1 hk1 hS => ?_)
  obtain ⟨q4, rfl⟩ : ∃ y, y = u := ⟨_, rfl⟩
  obtain ⟨hP1, hK1, hD1⟩ := hB
  rw [ht] at hP1
  have hK1 := va_K.moved hvm.symm hK1
  try dsimp only at hw
  obtain ⟨hP, hD⟩ := va_join (wr := [(rw, .inl (cR, M, .inl (fun j => iI (V j))))]) (w1 := [(nd, .inr (2, [.ref b, .ref h, .ref rw, .int (iI mn), .int (iI sx)]))]) hP hD [0] [1] rfl rfl (by decide) (by decide) hk1 hFc hP1 hD1
  have hK := (hK.sub (tys' := [(cR, .int)]) [0] rfl).app hK1
  generalize H1 = H at hP hS ⊢
  have hP : va_P (dC, dI) vwCl [(rw, .inl (cR, M, .inl (fun j => iI (V j)))), (nd, .inr (2, [.ref b, .ref h, .ref rw, .int (iI mn), .int (iI sx)]))] H := hP
  have hD : va_D A [(rw, .inl (cR, M, .inl (fun j => iI (V j)))), (nd, .inr (2, [.ref b, .ref h, .ref rw, .int (iI mn), .int (iI sx)]))] := hD
  have hK : va_K (dC, dI) vwCl [(cR, .int)] s := hK
  obtain ⟨rfl, hqv3, rfl, rfl⟩ := hw
  refine W.eq (g2 := F0 m 6 ls [.int (iI q4)]) rfl ?_
  refine lv_istore_n (lv' := [(3, .int (iI q4)), (0, .ref nd), (1, .int (iI a)), (2, .int (iI f))]) hx hb dX2_get_6 rfl hl (by decide) rfl (fun ls hl => ?_)
  refine lv_iload_n hx hb dX2_get_7 rfl (lv_at hl 0 rfl) ?_
  refine li_if_lt (tgt := 29) hx hb (by omega) dX2_get_8 (by decide) (fun c5 => ?_) (fun c5 => ?_)
  · skip
    refine lv_iconst (v := iI 0) hx hb dX2_get_29 rfl ?_
    have hP9 := hP.sub (ws' := [(nd, .inr (2, [.ref b, .ref h, .ref rw, .int (iI mn), .int (iI sx)])), (rw, .inl (cR, M, .inl (fun j => iI (V j))))]) [1, 0] rfl
    have hD9 := hD.sub (ws' := [(nd, .inr (2, [.ref b, .ref h, .ref rw, .int (iI mn), .int (iI sx)])), (rw, .inl (cR, M, .inl (fun j => iI (V j))))]) [1, 0] (by decide) rfl
    have hK9 := hK.sub (tys' := [(cR, .int)]) [0] rfl
    exact mv_iret hx hb hr hlocks (fun tS ht hW => ⟨⟨_, (0), rfl, ⟨rfl, Or.inr (by omega), by omega, rfl, rfl⟩, by rw [ht]; exact hP9, va_K.moved hW.alike hK9, hD9⟩, hS.F ht⟩) hS.2.2 dX2_get_30
  · skip
    refine lv_iload_n hx hb dX2_get_11 rfl (lv_at hl 0 rfl) ?_
    refine lv_aload_n hx hb dX2_get_12 rfl (lv_at hl 1 rfl) ?_
    refine va_get (D := (dC, dI)) (ci := 2) (v := .ref rw) (C := RX2) (T := TX2) (N := 5) hx hb hT inX2 hown hK hP 1 rfl rfl 2 (by decide) (hT _ wd105) (fun _ h9 => h9) rfl dX2_get_13 ?_
    refine li_alen hx hb hK hP 0 0 rfl rfl dX2_get_16 ?_
    refine li_icmp_ge (tgt := 29) hx hb (by omega) (by omega) dX2_get_17 (by decide) (fun c6 => absurd c6 (by omega)) (fun c6 => ?_)
    refine lv_aload_n hx hb dX2_get_20 rfl (lv_at hl 1 rfl) ?_
    refine va_get (D := (dC, dI)) (ci := 2) (v := .ref rw) (C := RX2) (T := TX2) (N := 5) hx hb hT inX2 hown hK hP 1 rfl rfl 2 (by decide) (hT _ wd105) (fun _ h9 => h9) rfl dX2_get_21 ?_
    refine lv_iload_n hx hb dX2_get_24 rfl (lv_at hl 0 rfl) ?_
    refine li_iald hx hb hK hP 0 0 rfl rfl (z := q4) (by omega) (by omega) dX2_get_25 ?_
    refine lv_goto (tgt := 30) hx hb dX2_get_26 (by decide) ?_
    have hP9 := hP.sub (ws' := [(nd, .inr (2, [.ref b, .ref h, .ref rw, .int (iI mn), .int (iI sx)])), (rw, .inl (cR, M, .inl (fun j => iI (V j))))]) [1, 0] rfl
    have hD9 := hD.sub (ws' := [(nd, .inr (2, [.ref b, .ref h, .ref rw, .int (iI mn), .int (iI sx)])), (rw, .inl (cR, M, .inl (fun j => iI (V j))))]) [1, 0] (by decide) rfl
    have hK9 := hK.sub (tys' := [(cR, .int)]) [0] rfl
    exact mv_iret hx hb hr hlocks (fun tS ht hW => ⟨⟨_, ((V (q4 : Int).toNat)), rfl, ⟨rfl, Or.inl ⟨by omega, by omega, by rw [show q4 = a * 8 + f by omega]⟩, hV6 _, rfl, rfl⟩, by rw [ht]; exact hP9, va_K.moved hW.alike hK9, hD9⟩, hS.F ht⟩) hS.2.2 dX2_get_30
set_option maxHeartbeats 4000000 in
set_option maxRecDepth 100000 in
theorem c_N_put (l : Launch) (dC : Nat → ClassId) (dI : Nat → Nat → Nat) (sz : Nat) (nd : Nat) (b : Nat) (h : Nat) (rw : Nat) (mn : Int) (sx : Int) (cR : ClassId) (M : Nat) (V : Nat → Int) (a : Int) (f : Int) (x : Int) (hM : 64 ≤ M ∧ M ≤ 16384) (hm : 0 ≤ mn ∧ mn ≤ 2048) (h8 : 8 * mn ≤ M) (ha : -2147483648 ≤ a ∧ a < 2147483648) (hf : 0 ≤ f ∧ f < 8) : mv_Met l yX2_put wsX2_put ({ frames := 2, cells := 0, slots := 0, locals := 70 }) (va_Pc [.ref nd, .int (iI a), .int (iI f), .int (iI x)] (fun U => U.heap.size = sz ∧ va_P (dC, dI) vwCl [(nd, .inr (2, [.ref b, .ref h, .ref rw, .int (iI mn), .int (iI sx)])), (rw, .inl (cR, M, .inl (fun j => iI (V j))))] U.heap ∧ va_K (dC, dI) vwCl [(cR, .int)] U ∧ va_D (fun _ => True) [(nd, .inr (2, [.ref b, .ref h, .ref rw, .int (iI mn), .int (iI sx)])), (rw, .inl (cR, M, .inl (fun j => iI (V j))))])) (mv_Q (fun (v : Option Value) (u : (Nat → Int)) (k n : Nat) => match u with | (V') => (0 ≤ a ∧ a < mn ∧ V' = vf_upd V (a * 8 + f).toNat x ∨ (a < 0 ∨ mn ≤ a) ∧ V' = V) ∧ v = none ∧ k = 0 ∧ n = 0) (fun (u : (Nat → Int)) (tS : State) => match u with | (V') => va_P (dC, dI) vwCl [(nd, .inr (2, [.ref b, .ref h, .ref rw, .int (iI mn), .int (iI sx)])), (rw, .inl (cR, M, .inl (fun j => iI (V' j))))] tS.heap ∧ va_K (dC, dI) vwCl [(cR, .int)] tS ∧ va_D (va_A [(nd, .inr (2, [.ref b, .ref h, .ref rw, .int (iI mn), .int (iI sx)])), (rw, .inl (cR, M, .inl (fun j => iI (V j))))] sz) [(nd, .inr (2, [.ref b, .ref h, .ref rw, .int (iI mn), .int (iI sx)])), (rw, .inl (cR, M, .inl (fun j => iI (V' j))))]) (va_A [(nd, .inr (2, [.ref b, .ref h, .ref rw, .int (iI mn), .int (iI sx)])), (rw, .inl (cR, M, .inl (fun j => iI (V j))))] sz)) (va_A [(nd, .inr (2, [.ref b, .ref h, .ref rw, .int (iI mn), .int (iI sx)])), (rw, .inl (cR, M, .inl (fun j => iI (V j))))] sz) := by
  refine mv_ofW (cc := cX2_put) (maxL := 5) (ret := none) (by decide) rfl ?_
  intro p e s m args below meth c s₁ B hml hv
  obtain ⟨rfl, hsz, hP, hK, hD0⟩ := hv
  have hx := B.exec
  have hb := B.bytes
  have hr := B.returns
  have hT : ∀ w ∈ wT, w.before _ s = true := fun w h => atoms_spec (ws := wsX2_put) B.pre w (List.mem_cons_of_mem _ h)
  have hown : s.vm.findClass RX2 = some m.cls := findClass_of_methodNamed B.named
  have hlocks := B.notSynchronized
  subst hsz
  have hD := hD0.self (sz := s.heap.size)
  generalize hAe : va_A [(nd, .inr (2, [.ref b, .ref h, .ref rw, .int (iI mn), .int (iI sx)])), (rw, .inl (cR, M, .inl (fun j => iI (V j))))] s.heap.size = A at hD ⊢
  have hA : ∀ q : Nat, s.heap.size ≤ q → A q := fun q h => by rw [← hAe]; exact Or.inr h
  have hS : va_S A s.heap s.heap [] := va_S.rf
  have hP : va_P (dC, dI) vwCl [(nd, .inr (2, [.ref b, .ref h, .ref rw, .int (iI mn), .int (iI sx)])), (rw, .inl (cR, M, .inl (fun j => iI (V j))))] s.heap := hP
  have hl := lv_entry ([.ref nd, .int (iI a), .int (iI f), .int (iI x)]) (n := 5) (Nat.le_of_ble_eq_true rfl)
  rw [lg_entry_eq]
  generalize (lg_sl ([.ref nd, .int (iI a), .int (iI f), .int (iI x)]) ++ List.replicate (5 - (lg_sl ([.ref nd, .int (iI a), .int (iI f), .int (iI x)])).length) Slot.unset).toArray = ls at hl ⊢
  have hl : lv_has ls 5 [(0, .ref nd), (1, .int (iI a)), (2, .int (iI f)), (3, .int (iI x))] := hl
  refine lv_aload_n hx hb dX2_put_0 rfl (lv_at hl 0 rfl) ?_
  refine lv_iload_n hx hb dX2_put_1 rfl (lv_at hl 1 rfl) ?_
  refine lv_iload_n hx hb dX2_put_2 rfl (lv_at hl 2 rfl) ?_
  have hPc := hP.sub (ws' := [(nd, .inr (2, [.ref b, .ref h, .ref rw, .int (iI mn), .int (iI sx)]))]) [0] rfl
  have hDc := hD.sub (ws' := [(nd, .inr (2, [.ref b, .ref h, .ref rw, .int (iI mn), .int (iI sx)]))]) [0] (by decide) rfl
  have hKc := hK.sub (tys' := []) [] rfl
  have hFc := va_free (wc := [(nd, .inr (2, [.ref b, .ref h, .ref rw, .int (iI mn), .int (iI sx)]))]) hD hS hA [0] rfl
  refine mv_call (mv_runV (As := [.int (iI a), .int (iI f)]) (rest := []) ⟨hx, hb, hml, hown, hT⟩ (c_N_ix l dC dI s.heap.size nd b h rw mn sx a f (by omega) (by omega) (by omega)) (cwV 2 hT (gV wd353 wd355 wd10 wd28 wd356) rfl rfl rfl (by decide +kernel) ⟨show 1 + 1 ≤ 2 from by omega, show 8 + (3 + 11) + 40 ≤ 70 from by omega⟩) ⟨fun a U g mk q => by obtain ⟨q0, q1, qP, qK, qD⟩ := q; exact ⟨q0, q1, qP, va_K.moved (u := U) (U := U.calling g mk a) (Vm.Alike.refl U.vm) qK, qD⟩, va_recv hKc hPc (ci := 2) (q0 := 0) rfl rfl, fun U hU hW => ⟨rfl, by rw [hU], by rw [hU]; exact hPc, va_K.moved hW.alike hKc, hDc.weaken (fun _ _ _ _ => trivial)⟩⟩ rfl rfl hl.1 rfl (lv_room (Nat.le_of_ble_eq_true rfl)) dX2_put_3 ⟨show 0 + 0 ≤ 0 from by omega, show 0 + 0 ≤ 0 from by omega⟩) hS (fun q _ h => hFc q h) hFc (fun v3 u k1 n2 tS H1 locs ht hvm hw hB hz1 hk1 hS => ?_)
  obtain ⟨q4, rfl⟩ : ∃ y, y = u := ⟨_, rfl⟩
  obtain ⟨hP1, hK1, hD1⟩ := hB
  rw [ht] at hP1
  have hK1 := va_K.moved hvm.symm hK1
  try dsimp only at hw
  obtain ⟨hP, hD⟩ := va_join (wr := [(rw, .inl (cR, M, .inl (fun j => iI (V j))))]) (w1 := [(nd, .inr (2, [.ref b, .ref h, .ref rw, .int (iI mn), .int (iI sx)]))]) hP hD [0] [1] rfl rfl (by decide) (by decide) hk1 hFc hP1 hD1
  have hK := (hK.sub (tys' := [(cR, .int)]) [0] rfl).app hK1
  generalize H1 = H at hP hS ⊢
  have hP : va_P (dC, dI) vwCl [(rw, .inl (cR, M, .inl (fun j => iI (V j)))), (nd, .inr (2, [.ref b, .ref h, .ref rw, .int (iI mn), .int (iI sx)]))] H := hP
  have hD : va_D A [(rw, .inl (cR, M, .inl (fun j => iI (V j)))), (nd, .inr (2, [.ref b, .ref h, .ref rw, .int (iI mn), .int (iI sx)]))] := hD
  have hK : va_K (dC, dI) vwCl [(cR, .int)] s := hK
  obtain ⟨rfl, hqv3, rfl, rfl⟩ := hw
  refine W.eq (g2 := F0 m 6 ls [.int (iI q4)]) rfl ?_
  refine lv_istore (lv' := [(4, .int (iI q4)), (0, .ref nd), (1, .int (iI a)), (2, .int (iI f)), (3, .int (iI x))]) hx hb dX2_put_6 hl (by decide) rfl (fun ls hl => ?_)
  refine lv_iload hx hb dX2_put_8 (lv_at hl 0 rfl) ?_
  refine li_if_lt (tgt := 31) hx hb (by omega) dX2_put_10 (by decide) (fun c5 => ?_) (fun c5 => ?_)
  · skip
    have hP9 := hP.sub (ws' := [(nd, .inr (2, [.ref b, .ref h, .ref rw, .int (iI mn), .int (iI sx)])), (rw, .inl (cR, M, .inl (fun j => iI (V j))))]) [1, 0] rfl
    have hD9 := hD.sub (ws' := [(nd, .inr (2, [.ref b, .ref h, .ref rw, .int (iI mn), .int (iI sx)])), (rw, .inl (cR, M, .inl (fun j => iI (V j))))]) [1, 0] (by decide) rfl
    have hK9 := hK.sub (tys' := [(cR, .int)]) [0] rfl
    exact mv_vret hx hb hr hlocks (fun tS ht hW => ⟨⟨_, (V), rfl, ⟨Or.inr ⟨by omega, rfl⟩, rfl, rfl, rfl⟩, by rw [ht]; exact hP9, va_K.moved hW.alike hK9, hD9⟩, hS.F ht⟩) hS.2.2 dX2_put_31
  · skip
    refine lv_iload hx hb dX2_put_13 (lv_at hl 0 rfl) ?_
    refine lv_aload_n hx hb dX2_put_15 rfl (lv_at hl 1 rfl) ?_
    refine va_get (D := (dC, dI)) (ci := 2) (v := .ref rw) (C := RX2) (T := TX2) (N := 5) hx hb hT inX2 hown hK hP 1 rfl rfl 2 (by decide) (hT _ wd105) (fun _ h9 => h9) rfl dX2_put_16 ?_
    refine li_alen hx hb hK hP 0 0 rfl rfl dX2_put_19 ?_
    refine li_icmp_ge (tgt := 31) hx hb (by omega) (by omega) dX2_put_20 (by decide) (fun c6 => absurd c6 (by omega)) (fun c6 => ?_)
    refine lv_aload_n hx hb dX2_put_23 rfl (lv_at hl 1 rfl) ?_
    refine va_get (D := (dC, dI)) (ci := 2) (v := .ref rw) (C := RX2) (T := TX2) (N := 5) hx hb hT inX2 hown hK hP 1 rfl rfl 2 (by decide) (hT _ wd105) (fun _ h9 => h9) rfl dX2_put_24 ?_
    refine lv_iload hx hb dX2_put_27 (lv_at hl 0 rfl) ?_
    refine lv_iload_n hx hb dX2_put_29 rfl (lv_at hl 4 rfl) ?_
    refine li_iast hx hb hK hP hD hS 0 0 rfl rfl (z := q4) (by omega) (by omega) dX2_put_30 (fun H locs hP hD hS => ?_)
    have hP : va_P (dC, dI) vwCl [(rw, .inl (cR, M, .inl (fun j => iI ((vf_upd V (q4 : Int).toNat x) j)))), (nd, .inr (2, [.ref b, .ref h, .ref rw, .int (iI mn), .int (iI sx)]))] H := hP
    have hD : va_D A [(rw, .inl (cR, M, .inl (fun j => iI ((vf_upd V (q4 : Int).toNat x) j)))), (nd, .inr (2, [.ref b, .ref h, .ref rw, .int (iI mn), .int (iI sx)]))] := hD
    have hP9 := hP.sub (ws' := [(nd, .inr (2, [.ref b, .ref h, .ref rw, .int (iI mn), .int (iI sx)])), (rw, .inl (cR, M, .inl (fun j => iI ((vf_upd V (q4 : Int).toNat x) j))))]) [1, 0] rfl
    have hD9 := hD.sub (ws' := [(nd, .inr (2, [.ref b, .ref h, .ref rw, .int (iI mn), .int (iI sx)])), (rw, .inl (cR, M, .inl (fun j => iI ((vf_upd V (q4 : Int).toNat x) j))))]) [1, 0] (by decide) rfl
    have hK9 := hK.sub (tys' := [(cR, .int)]) [0] rfl
    exact mv_vret hx hb hr hlocks (fun tS ht hW => ⟨⟨_, ((vf_upd V (q4 : Int).toNat x)), rfl, ⟨Or.inl ⟨by omega, by omega, by rw [show q4 = a * 8 + f by omega]⟩, rfl, rfl, rfl⟩, by rw [ht]; exact hP9, va_K.moved hW.alike hK9, hD9⟩, hS.F ht⟩) hS.2.2 dX2_put_31
set_option maxHeartbeats 4000000 in
set_option maxRecDepth 100000 in
theorem c_N_putV (l : Launch) (dC : Nat → ClassId) (dI : Nat → Nat → Nat) (sz : Nat) (nd : Nat) (b : Nat) (h : Nat) (rw : Nat) (mn : Int) (sx : Int) (cR : ClassId) (M : Nat) (V : Nat → Int) (a : Int) (f : Int) (x : Int) (hM : 64 ≤ M ∧ M ≤ 16384) (hm : 0 ≤ mn ∧ mn ≤ 2048) (h8 : 8 * mn ≤ M) (ha : 0 ≤ a ∧ a < mn) (hf : 0 ≤ f ∧ f < 8) : mv_Met l yX2_put wsX2_put ({ frames := 2, cells := 0, slots := 0, locals := 70 }) (va_Pc [.ref nd, .int (iI a), .int (iI f), .int (iI x)] (fun U => U.heap.size = sz ∧ va_P (dC, dI) vwCl [(nd, .inr (2, [.ref b, .ref h, .ref rw, .int (iI mn), .int (iI sx)])), (rw, .inl (cR, M, .inl (fun j => iI (V j))))] U.heap ∧ va_K (dC, dI) vwCl [(cR, .int)] U ∧ va_D (fun _ => True) [(nd, .inr (2, [.ref b, .ref h, .ref rw, .int (iI mn), .int (iI sx)])), (rw, .inl (cR, M, .inl (fun j => iI (V j))))])) (mv_Q (fun (v : Option Value) (_ : Unit) (k n : Nat) => v = none ∧ k = 0 ∧ n = 0) (fun (_ : Unit) (tS : State) => va_P (dC, dI) vwCl [(nd, .inr (2, [.ref b, .ref h, .ref rw, .int (iI mn), .int (iI sx)])), (rw, .inl (cR, M, .inl (fun j => iI ((vf_upd V (a * 8 + f).toNat x) j))))] tS.heap ∧ va_K (dC, dI) vwCl [(cR, .int)] tS ∧ va_D (va_A [(nd, .inr (2, [.ref b, .ref h, .ref rw, .int (iI mn), .int (iI sx)])), (rw, .inl (cR, M, .inl (fun j => iI (V j))))] sz) [(nd, .inr (2, [.ref b, .ref h, .ref rw, .int (iI mn), .int (iI sx)])), (rw, .inl (cR, M, .inl (fun j => iI ((vf_upd V (a * 8 + f).toNat x) j))))]) (va_A [(nd, .inr (2, [.ref b, .ref h, .ref rw, .int (iI mn), .int (iI sx)])), (rw, .inl (cR, M, .inl (fun j => iI (V j))))] sz)) (va_A [(nd, .inr (2, [.ref b, .ref h, .ref rw, .int (iI mn), .int (iI sx)])), (rw, .inl (cR, M, .inl (fun j => iI (V j))))] sz) := by
  refine mv_ofW (cc := cX2_put) (maxL := 5) (ret := none) (by decide) rfl ?_
  intro p e s m args below meth c s₁ B hml hv
  obtain ⟨rfl, hsz, hP, hK, hD0⟩ := hv
  have hx := B.exec
  have hb := B.bytes
  have hr := B.returns
  have hT : ∀ w ∈ wT, w.before _ s = true := fun w h => atoms_spec (ws := wsX2_put) B.pre w (List.mem_cons_of_mem _ h)
  have hown : s.vm.findClass RX2 = some m.cls := findClass_of_methodNamed B.named
  have hlocks := B.notSynchronized
  subst hsz
  have hD := hD0.self (sz := s.heap.size)
  generalize hAe : va_A [(nd, .inr (2, [.ref b, .ref h, .ref rw, .int (iI mn), .int (iI sx)])), (rw, .inl (cR, M, .inl (fun j => iI (V j))))] s.heap.size = A at hD ⊢
  have hA : ∀ q : Nat, s.heap.size ≤ q → A q := fun q h => by rw [← hAe]; exact Or.inr h
  have hS : va_S A s.heap s.heap [] := va_S.rf
  have hP : va_P (dC, dI) vwCl [(nd, .inr (2, [.ref b, .ref h, .ref rw, .int (iI mn), .int (iI sx)])), (rw, .inl (cR, M, .inl (fun j => iI (V j))))] s.heap := hP
  have hl := lv_entry ([.ref nd, .int (iI a), .int (iI f), .int (iI x)]) (n := 5) (Nat.le_of_ble_eq_true rfl)
  rw [lg_entry_eq]
  generalize (lg_sl ([.ref nd, .int (iI a), .int (iI f), .int (iI x)]) ++ List.replicate (5 - (lg_sl ([.ref nd, .int (iI a), .int (iI f), .int (iI x)])).length) Slot.unset).toArray = ls at hl ⊢
  have hl : lv_has ls 5 [(0, .ref nd), (1, .int (iI a)), (2, .int (iI f)), (3, .int (iI x))] := hl
  refine lv_aload_n hx hb dX2_put_0 rfl (lv_at hl 0 rfl) ?_
  refine lv_iload_n hx hb dX2_put_1 rfl (lv_at hl 1 rfl) ?_
  refine lv_iload_n hx hb dX2_put_2 rfl (lv_at hl 2 rfl) ?_
  have hPc := hP.sub (ws' := [(nd, .inr (2, [.ref b, .ref h, .ref rw, .int (iI mn), .int (iI sx)]))]) [0] rfl
  have hDc := hD.sub (ws' := [(nd, .inr (2, [.ref b, .ref h, .ref rw, .int (iI mn), .int (iI sx)]))]) [0] (by decide) rfl
  have hKc := hK.sub (tys' := []) [] rfl
  have hFc := va_free (wc := [(nd, .inr (2, [.ref b, .ref h, .ref rw, .int (iI mn), .int (iI sx)]))]) hD hS hA [0] rfl
  refine mv_call (mv_runV (As := [.int (iI a), .int (iI f)]) (rest := []) ⟨hx, hb, hml, hown, hT⟩ (c_N_ix l dC dI s.heap.size nd b h rw mn sx a f (by omega) (by omega) (by omega)) (cwV 2 hT (gV wd353 wd355 wd10 wd28 wd356) rfl rfl rfl (by decide +kernel) ⟨show 1 + 1 ≤ 2 from by omega, show 8 + (3 + 11) + 40 ≤ 70 from by omega⟩) ⟨fun a U g mk q => by obtain ⟨q0, q1, qP, qK, qD⟩ := q; exact ⟨q0, q1, qP, va_K.moved (u := U) (U := U.calling g mk a) (Vm.Alike.refl U.vm) qK, qD⟩, va_recv hKc hPc (ci := 2) (q0 := 0) rfl rfl, fun U hU hW => ⟨rfl, by rw [hU], by rw [hU]; exact hPc, va_K.moved hW.alike hKc, hDc.weaken (fun _ _ _ _ => trivial)⟩⟩ rfl rfl hl.1 rfl (lv_room (Nat.le_of_ble_eq_true rfl)) dX2_put_3 ⟨show 0 + 0 ≤ 0 from by omega, show 0 + 0 ≤ 0 from by omega⟩) hS (fun q _ h => hFc q h) hFc (fun v3 u k1 n2 tS H1 locs ht hvm hw hB hz1 hk1 hS => ?_)
  obtain ⟨q4, rfl⟩ : ∃ y, y = u := ⟨_, rfl⟩
  obtain ⟨hP1, hK1, hD1⟩ := hB
  rw [ht] at hP1
  have hK1 := va_K.moved hvm.symm hK1
  try dsimp only at hw
  obtain ⟨hP, hD⟩ := va_join (wr := [(rw, .inl (cR, M, .inl (fun j => iI (V j))))]) (w1 := [(nd, .inr (2, [.ref b, .ref h, .ref rw, .int (iI mn), .int (iI sx)]))]) hP hD [0] [1] rfl rfl (by decide) (by decide) hk1 hFc hP1 hD1
  have hK := (hK.sub (tys' := [(cR, .int)]) [0] rfl).app hK1
  generalize H1 = H at hP hS ⊢
  have hP : va_P (dC, dI) vwCl [(rw, .inl (cR, M, .inl (fun j => iI (V j)))), (nd, .inr (2, [.ref b, .ref h, .ref rw, .int (iI mn), .int (iI sx)]))] H := hP
  have hD : va_D A [(rw, .inl (cR, M, .inl (fun j => iI (V j)))), (nd, .inr (2, [.ref b, .ref h, .ref rw, .int (iI mn), .int (iI sx)]))] := hD
  have hK : va_K (dC, dI) vwCl [(cR, .int)] s := hK
  obtain ⟨rfl, hqv3, rfl, rfl⟩ := hw
  refine W.eq (g2 := F0 m 6 ls [.int (iI q4)]) rfl ?_
  refine lv_istore (lv' := [(4, .int (iI q4)), (0, .ref nd), (1, .int (iI a)), (2, .int (iI f)), (3, .int (iI x))]) hx hb dX2_put_6 hl (by decide) rfl (fun ls hl => ?_)
  refine lv_iload hx hb dX2_put_8 (lv_at hl 0 rfl) ?_
  refine li_if_lt (tgt := 31) hx hb (by omega) dX2_put_10 (by decide) (fun c5 => absurd c5 (by omega)) (fun c5 => ?_)
  refine lv_iload hx hb dX2_put_13 (lv_at hl 0 rfl) ?_
  refine lv_aload_n hx hb dX2_put_15 rfl (lv_at hl 1 rfl) ?_
  refine va_get (D := (dC, dI)) (ci := 2) (v := .ref rw) (C := RX2) (T := TX2) (N := 5) hx hb hT inX2 hown hK hP 1 rfl rfl 2 (by decide) (hT _ wd105) (fun _ h9 => h9) rfl dX2_put_16 ?_
  refine li_alen hx hb hK hP 0 0 rfl rfl dX2_put_19 ?_
  refine li_icmp_ge (tgt := 31) hx hb (by omega) (by omega) dX2_put_20 (by decide) (fun c6 => absurd c6 (by omega)) (fun c6 => ?_)
  refine lv_aload_n hx hb dX2_put_23 rfl (lv_at hl 1 rfl) ?_
  refine va_get (D := (dC, dI)) (ci := 2) (v := .ref rw) (C := RX2) (T := TX2) (N := 5) hx hb hT inX2 hown hK hP 1 rfl rfl 2 (by decide) (hT _ wd105) (fun _ h9 => h9) rfl dX2_put_24 ?_
  refine lv_iload hx hb dX2_put_27 (lv_at hl 0 rfl) ?_
  refine lv_iload_n hx hb dX2_put_29 rfl (lv_at hl 4 rfl) ?_
  refine li_iast hx hb hK hP hD hS 0 0 rfl rfl (z := q4) (by omega) (by omega) dX2_put_30 (fun H locs hP hD hS => ?_)
  have hP : va_P (dC, dI) vwCl [(rw, .inl (cR, M, .inl (fun j => iI ((vf_upd V (q4 : Int).toNat x) j)))), (nd, .inr (2, [.ref b, .ref h, .ref rw, .int (iI mn), .int (iI sx)]))] H := hP
  have hD : va_D A [(rw, .inl (cR, M, .inl (fun j => iI ((vf_upd V (q4 : Int).toNat x) j)))), (nd, .inr (2, [.ref b, .ref h, .ref rw, .int (iI mn), .int (iI sx)]))] := hD
  have eix : q4 = a * 8 + f := by omega
  rw [eix] at hP hD
  have hP : va_P (dC, dI) vwCl [(rw, .inl (cR, M, .inl (fun j => iI ((vf_upd V (a * 8 + f).toNat x) j)))), (nd, .inr (2, [.ref b, .ref h, .ref rw, .int (iI mn), .int (iI sx)]))] H := hP
  have hD : va_D A [(rw, .inl (cR, M, .inl (fun j => iI ((vf_upd V (a * 8 + f).toNat x) j)))), (nd, .inr (2, [.ref b, .ref h, .ref rw, .int (iI mn), .int (iI sx)]))] := hD
  have hP9 := hP.sub (ws' := [(nd, .inr (2, [.ref b, .ref h, .ref rw, .int (iI mn), .int (iI sx)])), (rw, .inl (cR, M, .inl (fun j => iI ((vf_upd V (a * 8 + f).toNat x) j))))]) [1, 0] rfl
  have hD9 := hD.sub (ws' := [(nd, .inr (2, [.ref b, .ref h, .ref rw, .int (iI mn), .int (iI sx)])), (rw, .inl (cR, M, .inl (fun j => iI ((vf_upd V (a * 8 + f).toNat x) j))))]) [1, 0] (by decide) rfl
  have hK9 := hK.sub (tys' := [(cR, .int)]) [0] rfl
  exact mv_vret hx hb hr hlocks (fun tS ht hW => ⟨⟨_, (), rfl, ⟨rfl, rfl, rfl⟩, by rw [ht]; exact hP9, va_K.moved hW.alike hK9, hD9⟩, hS.F ht⟩) hS.2.2 dX2_put_31
set_option maxHeartbeats 4000000 in
set_option maxRecDepth 100000 in
theorem c_N_cat (l : Launch) (dC : Nat → ClassId) (dI : Nat → Nat → Nat) (sz : Nat) (nd : Nat) (b : Nat) (h : Nat) (rw : Nat) (mn : Int) (sx : Int) (cR : ClassId) (M : Nat) (V : Nat → Int) (r : Nat) (cA : ClassId) (w : Nat) (t : Nat → Int) (z : Int) (L : List Int) (a : Int) (i : Int) (hoN : okN M V mn) (hok : okB w t z L) (ha : 0 ≤ a ∧ a < mn) (hi : -5000 ≤ i ∧ i ≤ 5000) : mv_Met l yX2_contentsAt wsX2_contentsAt ({ frames := 3, cells := 0, slots := 0, locals := 100 }) (va_Pc [.ref nd, .int (iI a), .int (iI i)] (fun U => U.heap.size = sz ∧ va_P (dC, dI) vwCl [(nd, .inr (2, [.ref b, .ref h, .ref rw, .int (iI mn), .int (iI sx)])), (rw, .inl (cR, M, .inl (fun j => iI (V j)))), (b, .inr (0, [.ref r, .int (iI z)])), (r, .inl (cA, w, .inl (fun j => bI (t j))))] U.heap ∧ va_K (dC, dI) vwCl [(cR, .int), (cA, .byte)] U ∧ va_D (fun _ => True) [(nd, .inr (2, [.ref b, .ref h, .ref rw, .int (iI mn), .int (iI sx)])), (rw, .inl (cR, M, .inl (fun j => iI (V j)))), (b, .inr (0, [.ref r, .int (iI z)])), (r, .inl (cA, w, .inl (fun j => bI (t j))))])) (mv_Q (fun (v : Option Value) (_ : Unit) (k n : Nat) => v = some (.int (iI (cat L V a i))) ∧ k = 0 ∧ n = 0) (fun (_ : Unit) (tS : State) => va_P (dC, dI) vwCl [(nd, .inr (2, [.ref b, .ref h, .ref rw, .int (iI mn), .int (iI sx)])), (rw, .inl (cR, M, .inl (fun j => iI (V j)))), (b, .inr (0, [.ref r, .int (iI z)])), (r, .inl (cA, w, .inl (fun j => bI (t j))))] tS.heap ∧ va_K (dC, dI) vwCl [(cR, .int), (cA, .byte)] tS ∧ va_D (va_A [(nd, .inr (2, [.ref b, .ref h, .ref rw, .int (iI mn), .int (iI sx)])), (rw, .inl (cR, M, .inl (fun j => iI (V j)))), (b, .inr (0, [.ref r, .int (iI z)])), (r, .inl (cA, w, .inl (fun j => bI (t j))))] sz) [(nd, .inr (2, [.ref b, .ref h, .ref rw, .int (iI mn), .int (iI sx)])), (rw, .inl (cR, M, .inl (fun j => iI (V j)))), (b, .inr (0, [.ref r, .int (iI z)])), (r, .inl (cA, w, .inl (fun j => bI (t j))))]) (va_A [(nd, .inr (2, [.ref b, .ref h, .ref rw, .int (iI mn), .int (iI sx)])), (rw, .inl (cR, M, .inl (fun j => iI (V j)))), (b, .inr (0, [.ref r, .int (iI z)])), (r, .inl (cA, w, .inl (fun j => bI (t j))))] sz)) (va_A [(nd, .inr (2, [.ref b, .ref h, .ref rw, .int (iI mn), .int (iI sx)])), (rw, .inl (cR, M, .inl (fun j => iI (V j)))), (b, .inr (0, [.ref r, .int (iI z)])), (r, .inl (cA, w, .inl (fun j => bI (t j))))] sz) := by
  refine mv_ofW (cc := cX2_contentsAt) (maxL := 3) (ret := (some .int)) (by decide) rfl ?_
  intro p e s m args below meth c s₁ B hml hv
  obtain ⟨rfl, hsz, hP, hK, hD0⟩ := hv
  have hx := B.exec
  have hb := B.bytes
  have hr := B.returns
  have hT : ∀ w ∈ wT, w.before _ s = true := fun w h => atoms_spec (ws := wsX2_contentsAt) B.pre w (List.mem_cons_of_mem _ h)
  have hown : s.vm.findClass RX2 = some m.cls := findClass_of_methodNamed B.named
  have hlocks := B.notSynchronized
  subst hsz
  have hD := hD0.self (sz := s.heap.size)
  generalize hAe : va_A [(nd, .inr (2, [.ref b, .ref h, .ref rw, .int (iI mn), .int (iI sx)])), (rw, .inl (cR, M, .inl (fun j => iI (V j)))), (b, .inr (0, [.ref r, .int (iI z)])), (r, .inl (cA, w, .inl (fun j => bI (t j))))] s.heap.size = A at hD ⊢
  have hA : ∀ q : Nat, s.heap.size ≤ q → A q := fun q h => by rw [← hAe]; exact Or.inr h
  have hS : va_S A s.heap s.heap [] := va_S.rf
  have hP : va_P (dC, dI) vwCl [(nd, .inr (2, [.ref b, .ref h, .ref rw, .int (iI mn), .int (iI sx)])), (rw, .inl (cR, M, .inl (fun j => iI (V j)))), (b, .inr (0, [.ref r, .int (iI z)])), (r, .inl (cA, w, .inl (fun j => bI (t j))))] s.heap := hP
  have hl := lv_entry ([.ref nd, .int (iI a), .int (iI i)]) (n := 3) (Nat.le_of_ble_eq_true rfl)
  rw [lg_entry_eq]
  generalize (lg_sl ([.ref nd, .int (iI a), .int (iI i)]) ++ List.replicate (3 - (lg_sl ([.ref nd, .int (iI a), .int (iI i)])).length) Slot.unset).toArray = ls at hl ⊢
  have hl : lv_has ls 3 [(0, .ref nd), (1, .int (iI a)), (2, .int (iI i))] := hl
  obtain ⟨hn1, hn2, hn3, hn4, hn5, hn6, hn7⟩ := id hoN
  obtain ⟨hw1, hw2, hw3, hw4, hw5, hw6⟩ := id hok
  have hna := hn7 a ha.1 ha.2
  refine lv_iload_n hx hb dX2_contentsAt_0 rfl (lv_at hl 2 rfl) ?_
  refine li_if_lt (tgt := 32) hx hb (by omega) dX2_contentsAt_1 (by decide) (fun c1 => ?_) (fun c1 => ?_)
  · skip
    refine lv_iconst (v := iI 0) hx hb dX2_contentsAt_32 rfl ?_
    have hP9 := hP.sub (ws' := [(nd, .inr (2, [.ref b, .ref h, .ref rw, .int (iI mn), .int (iI sx)])), (rw, .inl (cR, M, .inl (fun j => iI (V j)))), (b, .inr (0, [.ref r, .int (iI z)])), (r, .inl (cA, w, .inl (fun j => bI (t j))))]) [0, 1, 2, 3] rfl
    have hD9 := hD.sub (ws' := [(nd, .inr (2, [.ref b, .ref h, .ref rw, .int (iI mn), .int (iI sx)])), (rw, .inl (cR, M, .inl (fun j => iI (V j)))), (b, .inr (0, [.ref r, .int (iI z)])), (r, .inl (cA, w, .inl (fun j => bI (t j))))]) [0, 1, 2, 3] (by decide) rfl
    have hK9 := hK.sub (tys' := [(cR, .int), (cA, .byte)]) [0, 1] rfl
    exact mv_iret hx hb hr hlocks (fun tS ht hW => ⟨⟨_, (), rfl, ⟨sI (cat_out (by omega)), rfl, rfl⟩, by rw [ht]; exact hP9, va_K.moved hW.alike hK9, hD9⟩, hS.F ht⟩) hS.2.2 dX2_contentsAt_33
  · skip
    refine lv_iload_n hx hb dX2_contentsAt_4 rfl (lv_at hl 2 rfl) ?_
    refine lv_aload_n hx hb dX2_contentsAt_5 rfl (lv_at hl 0 rfl) ?_
    refine lv_iload_n hx hb dX2_contentsAt_6 rfl (lv_at hl 1 rfl) ?_
    refine lv_iconst (v := iI 5) hx hb dX2_contentsAt_7 rfl ?_
    have hPc := hP.sub (ws' := [(nd, .inr (2, [.ref b, .ref h, .ref rw, .int (iI mn), .int (iI sx)])), (rw, .inl (cR, M, .inl (fun j => iI (V j))))]) [0, 1] rfl
    have hDc := hD.sub (ws' := [(nd, .inr (2, [.ref b, .ref h, .ref rw, .int (iI mn), .int (iI sx)])), (rw, .inl (cR, M, .inl (fun j => iI (V j))))]) [0, 1] (by decide) rfl
    have hKc := hK.sub (tys' := [(cR, .int)]) [0] rfl
    have hFc := va_free (wc := [(nd, .inr (2, [.ref b, .ref h, .ref rw, .int (iI mn), .int (iI sx)])), (rw, .inl (cR, M, .inl (fun j => iI (V j))))]) hD hS hA [0, 1] rfl
    refine mv_call (mv_runV (As := [.int (iI a), .int (iI 5)]) (rest := [.int (iI i)]) ⟨hx, hb, hml, hown, hT⟩ (c_N_get l dC dI s.heap.size nd b h rw mn sx cR M V a 5 (by omega) (by omega) (by omega) (hn6) (by omega) (by omega)) (cwV 2 hT (gV wd361 wd362 wd363 wd28 wd364) rfl rfl rfl (by decide +kernel) ⟨show 2 + 1 ≤ 3 from by omega, show 8 + (4 + 11) + 70 ≤ 100 from by omega⟩) ⟨fun a U g mk q => by obtain ⟨q0, q1, qP, qK, qD⟩ := q; exact ⟨q0, q1, qP, va_K.moved (u := U) (U := U.calling g mk a) (Vm.Alike.refl U.vm) qK, qD⟩, va_recv hKc hPc (ci := 2) (q0 := 0) rfl rfl, fun U hU hW => ⟨rfl, by rw [hU], by rw [hU]; exact hPc, va_K.moved hW.alike hKc, hDc.weaken (fun _ _ _ _ => trivial)⟩⟩ rfl rfl hl.1 rfl (lv_room (Nat.le_of_ble_eq_true rfl)) dX2_contentsAt_8 ⟨show 0 + 0 ≤ 0 from by omega, show 0 + 0 ≤ 0 from by omega⟩) hS (fun q _ h => hFc q h) hFc (fun v4 u k2 n3 tS H1 locs ht hvm hw hB hz1 hk1 hS => ?_)
    obtain ⟨q5, rfl⟩ : ∃ y, y = u := ⟨_, rfl⟩
    obtain ⟨hP1, hK1, hD1⟩ := hB
    rw [ht] at hP1
    have hK1 := va_K.moved hvm.symm hK1
    try dsimp only at hw
    obtain ⟨hP, hD⟩ := va_join (wr := [(b, .inr (0, [.ref r, .int (iI z)])), (r, .inl (cA, w, .inl (fun j => bI (t j))))]) (w1 := [(nd, .inr (2, [.ref b, .ref h, .ref rw, .int (iI mn), .int (iI sx)])), (rw, .inl (cR, M, .inl (fun j => iI (V j))))]) hP hD [0, 1] [2, 3] rfl rfl (by decide) (by decide) hk1 hFc hP1 hD1
    have hK := (hK.sub (tys' := [(cA, .byte)]) [1] rfl).app hK1
    generalize H1 = H at hP hS ⊢
    have hP : va_P (dC, dI) vwCl [(b, .inr (0, [.ref r, .int (iI z)])), (r, .inl (cA, w, .inl (fun j => bI (t j)))), (nd, .inr (2, [.ref b, .ref h, .ref rw, .int (iI mn), .int (iI sx)])), (rw, .inl (cR, M, .inl (fun j => iI (V j))))] H := hP
    have hD : va_D A [(b, .inr (0, [.ref r, .int (iI z)])), (r, .inl (cA, w, .inl (fun j => bI (t j)))), (nd, .inr (2, [.ref b, .ref h, .ref rw, .int (iI mn), .int (iI sx)])), (rw, .inl (cR, M, .inl (fun j => iI (V j))))] := hD
    have hK : va_K (dC, dI) vwCl [(cA, .byte), (cR, .int)] s := hK
    obtain ⟨rfl, hqv4, hrv4, rfl, rfl⟩ := hw
    refine W.eq (g2 := F0 m 11 ls [.int (iI q5), .int (iI i)]) rfl ?_
    refine li_icmp_ge (tgt := 32) hx hb (by omega) (by omega) dX2_contentsAt_11 (by decide) (fun c6 => ?_) (fun c6 => ?_)
    · skip
      refine lv_iconst (v := iI 0) hx hb dX2_contentsAt_32 rfl ?_
      have hP9 := hP.sub (ws' := [(nd, .inr (2, [.ref b, .ref h, .ref rw, .int (iI mn), .int (iI sx)])), (rw, .inl (cR, M, .inl (fun j => iI (V j)))), (b, .inr (0, [.ref r, .int (iI z)])), (r, .inl (cA, w, .inl (fun j => bI (t j))))]) [2, 3, 0, 1] rfl
      have hD9 := hD.sub (ws' := [(nd, .inr (2, [.ref b, .ref h, .ref rw, .int (iI mn), .int (iI sx)])), (rw, .inl (cR, M, .inl (fun j => iI (V j)))), (b, .inr (0, [.ref r, .int (iI z)])), (r, .inl (cA, w, .inl (fun j => bI (t j))))]) [2, 3, 0, 1] (by decide) rfl
      have hK9 := hK.sub (tys' := [(cR, .int), (cA, .byte)]) [1, 0] rfl
      exact mv_iret hx hb hr hlocks (fun tS ht hW => ⟨⟨_, (), rfl, ⟨sI (cat_out (by omega)), rfl, rfl⟩, by rw [ht]; exact hP9, va_K.moved hW.alike hK9, hD9⟩, hS.F ht⟩) hS.2.2 dX2_contentsAt_33
    · skip
      refine lv_aload_n hx hb dX2_contentsAt_14 rfl (lv_at hl 0 rfl) ?_
      refine va_get (D := (dC, dI)) (ci := 2) (v := .ref b) (C := RX2) (T := TX2) (N := 5) hx hb hT inX2 hown hK hP 2 rfl rfl 0 (by decide) (hT _ wd103) (fun _ h9 => h9) rfl dX2_contentsAt_15 ?_
      refine lv_aload_n hx hb dX2_contentsAt_18 rfl (lv_at hl 0 rfl) ?_
      refine lv_iload_n hx hb dX2_contentsAt_19 rfl (lv_at hl 1 rfl) ?_
      refine lv_iconst (v := iI 4) hx hb dX2_contentsAt_20 rfl ?_
      have hPc := hP.sub (ws' := [(nd, .inr (2, [.ref b, .ref h, .ref rw, .int (iI mn), .int (iI sx)])), (rw, .inl (cR, M, .inl (fun j => iI (V j))))]) [2, 3] rfl
      have hDc := hD.sub (ws' := [(nd, .inr (2, [.ref b, .ref h, .ref rw, .int (iI mn), .int (iI sx)])), (rw, .inl (cR, M, .inl (fun j => iI (V j))))]) [2, 3] (by decide) rfl
      have hKc := hK.sub (tys' := [(cR, .int)]) [1] rfl
      have hFc := va_free (wc := [(nd, .inr (2, [.ref b, .ref h, .ref rw, .int (iI mn), .int (iI sx)])), (rw, .inl (cR, M, .inl (fun j => iI (V j))))]) hD hS hA [2, 3] rfl
      refine mv_call (mv_runV (As := [.int (iI a), .int (iI 4)]) (rest := [.ref b]) ⟨hx, hb, hml, hown, hT⟩ (c_N_get l dC dI H.size nd b h rw mn sx cR M V a 4 (by omega) (by omega) (by omega) (hn6) (by omega) (by omega)) (cwV 2 hT (gV wd361 wd362 wd363 wd28 wd364) rfl rfl rfl (by decide +kernel) ⟨show 2 + 1 ≤ 3 from by omega, show 8 + (4 + 11) + 70 ≤ 100 from by omega⟩) ⟨fun a U g mk q => by obtain ⟨q0, q1, qP, qK, qD⟩ := q; exact ⟨q0, q1, qP, va_K.moved (u := U) (U := U.calling g mk a) (Vm.Alike.refl U.vm) qK, qD⟩, va_recv hKc hPc (ci := 2) (q0 := 0) rfl rfl, fun U hU hW => ⟨rfl, by rw [hU], by rw [hU]; exact hPc, va_K.moved hW.alike hKc, hDc.weaken (fun _ _ _ _ => trivial)⟩⟩ rfl rfl hl.1 rfl (lv_room (Nat.le_of_ble_eq_true rfl)) dX2_contentsAt_21 ⟨show 0 + 0 + 0 ≤ 0 from by omega, show 0 + 0 + 0 ≤ 0 from by omega⟩) hS (fun q _ h => hFc q h) hFc (fun v9 u k7 n8 tS H1 locs ht hvm hw hB hz1 hk1 hS => ?_)
      obtain ⟨q10, rfl⟩ : ∃ y, y = u := ⟨_, rfl⟩
      obtain ⟨hP1, hK1, hD1⟩ := hB
      rw [ht] at hP1
      have hK1 := va_K.moved hvm.symm hK1
      try dsimp only at hw
      obtain ⟨hP, hD⟩ := va_join (wr := [(b, .inr (0, [.ref r, .int (iI z)])), (r, .inl (cA, w, .inl (fun j => bI (t j))))]) (w1 := [(nd, .inr (2, [.ref b, .ref h, .ref rw, .int (iI mn), .int (iI sx)])), (rw, .inl (cR, M, .inl (fun j => iI (V j))))]) hP hD [2, 3] [0, 1] rfl rfl (by decide) (by decide) hk1 hFc hP1 hD1
      have hK := (hK.sub (tys' := [(cA, .byte)]) [0] rfl).app hK1
      generalize H1 = H at hP hS ⊢
      have hP : va_P (dC, dI) vwCl [(b, .inr (0, [.ref r, .int (iI z)])), (r, .inl (cA, w, .inl (fun j => bI (t j)))), (nd, .inr (2, [.ref b, .ref h, .ref rw, .int (iI mn), .int (iI sx)])), (rw, .inl (cR, M, .inl (fun j => iI (V j))))] H := hP
      have hD : va_D A [(b, .inr (0, [.ref r, .int (iI z)])), (r, .inl (cA, w, .inl (fun j => bI (t j)))), (nd, .inr (2, [.ref b, .ref h, .ref rw, .int (iI mn), .int (iI sx)])), (rw, .inl (cR, M, .inl (fun j => iI (V j))))] := hD
      have hK : va_K (dC, dI) vwCl [(cA, .byte), (cR, .int)] s := hK
      obtain ⟨rfl, hqv9, hrv9, rfl, rfl⟩ := hw
      refine W.eq (g2 := F0 m 24 ls [.int (iI q10), .ref b]) rfl ?_
      refine lv_iload_n hx hb dX2_contentsAt_24 rfl (lv_at hl 2 rfl) ?_
      refine li_iadd hx hb dX2_contentsAt_25 ?_
      have hPc := hP.sub (ws' := [(b, .inr (0, [.ref r, .int (iI z)])), (r, .inl (cA, w, .inl (fun j => bI (t j))))]) [0, 1] rfl
      have hDc := hD.sub (ws' := [(b, .inr (0, [.ref r, .int (iI z)])), (r, .inl (cA, w, .inl (fun j => bI (t j))))]) [0, 1] (by decide) rfl
      have hKc := hK.sub (tys' := [(cA, .byte)]) [0] rfl
      have hFc := va_free (wc := [(b, .inr (0, [.ref r, .int (iI z)])), (r, .inl (cA, w, .inl (fun j => bI (t j))))]) hD hS hA [0, 1] rfl
      refine mv_call (mv_runV (As := [.int (iI (q10 + i))]) (rest := []) ⟨hx, hb, hml, hown, hT⟩ (c_B_at l dC dI H.size b r cA w t z L (q10 + i) (hok) (by omega)) (cwV 1 hT (gV wd369 wd322 wd323 wd27 wd324) rfl rfl rfl (by decide +kernel) ⟨show 0 + 1 ≤ 3 from by omega, show 8 + (2 + 11) + 0 ≤ 100 from by omega⟩) ⟨fun a U g mk q => by obtain ⟨q0, q1, qP, qK, qD⟩ := q; exact ⟨q0, q1, qP, va_K.moved (u := U) (U := U.calling g mk a) (Vm.Alike.refl U.vm) qK, qD⟩, va_recv hKc hPc (ci := 0) (q0 := 0) rfl rfl, fun U hU hW => ⟨rfl, by rw [hU], by rw [hU]; exact hPc, va_K.moved hW.alike hKc, hDc.weaken (fun _ _ _ _ => trivial)⟩⟩ rfl rfl hl.1 rfl (lv_room (Nat.le_of_ble_eq_true rfl)) dX2_contentsAt_26 ⟨show 0 + 0 + 0 + 0 ≤ 0 from by omega, show 0 + 0 + 0 + 0 ≤ 0 from by omega⟩) hS (fun q _ h => hFc q h) hFc (fun v13 u k11 n12 tS H1 locs ht hvm hw hB hz1 hk1 hS => ?_)
      obtain ⟨hP1, hK1, hD1⟩ := hB
      rw [ht] at hP1
      have hK1 := va_K.moved hvm.symm hK1
      try dsimp only at hw
      obtain ⟨hP, hD⟩ := va_join (wr := [(nd, .inr (2, [.ref b, .ref h, .ref rw, .int (iI mn), .int (iI sx)])), (rw, .inl (cR, M, .inl (fun j => iI (V j))))]) (w1 := [(b, .inr (0, [.ref r, .int (iI z)])), (r, .inl (cA, w, .inl (fun j => bI (t j))))]) hP hD [0, 1] [2, 3] rfl rfl (by decide) (by decide) hk1 hFc hP1 hD1
      have hK := (hK.sub (tys' := [(cR, .int)]) [1] rfl).app hK1
      generalize H1 = H at hP hS ⊢
      have hP : va_P (dC, dI) vwCl [(nd, .inr (2, [.ref b, .ref h, .ref rw, .int (iI mn), .int (iI sx)])), (rw, .inl (cR, M, .inl (fun j => iI (V j)))), (b, .inr (0, [.ref r, .int (iI z)])), (r, .inl (cA, w, .inl (fun j => bI (t j))))] H := hP
      have hD : va_D A [(nd, .inr (2, [.ref b, .ref h, .ref rw, .int (iI mn), .int (iI sx)])), (rw, .inl (cR, M, .inl (fun j => iI (V j)))), (b, .inr (0, [.ref r, .int (iI z)])), (r, .inl (cA, w, .inl (fun j => bI (t j))))] := hD
      have hK : va_K (dC, dI) vwCl [(cR, .int), (cA, .byte)] s := hK
      obtain ⟨rfl, rfl, rfl⟩ := hw
      refine W.eq (g2 := F0 m 29 ls [.int (iI (gd L (q10 + i)))]) rfl ?_
      refine lv_goto (tgt := 33) hx hb dX2_contentsAt_29 (by decide) ?_
      have hP9 := hP.sub (ws' := [(nd, .inr (2, [.ref b, .ref h, .ref rw, .int (iI mn), .int (iI sx)])), (rw, .inl (cR, M, .inl (fun j => iI (V j)))), (b, .inr (0, [.ref r, .int (iI z)])), (r, .inl (cA, w, .inl (fun j => bI (t j))))]) [0, 1, 2, 3] rfl
      have hD9 := hD.sub (ws' := [(nd, .inr (2, [.ref b, .ref h, .ref rw, .int (iI mn), .int (iI sx)])), (rw, .inl (cR, M, .inl (fun j => iI (V j)))), (b, .inr (0, [.ref r, .int (iI z)])), (r, .inl (cA, w, .inl (fun j => bI (t j))))]) [0, 1, 2, 3] (by decide) rfl
      have hK9 := hK.sub (tys' := [(cR, .int), (cA, .byte)]) [0, 1] rfl
      exact mv_iret hx hb hr hlocks (fun tS ht hW => ⟨⟨_, (), rfl, ⟨sI (by rw [← cat_in (by omega)]; congr 1; omega), rfl, rfl⟩, by rw [ht]; exact hP9, va_K.moved hW.alike hK9, hD9⟩, hS.F ht⟩) hS.2.2 dX2_contentsAt_33
set_option maxHeartbeats 4000000 in
set_option maxRecDepth 100000 in
theorem c_N_hnum (l : Launch) (dC : Nat → ClassId) (dI : Nat → Nat → Nat) (sz : Nat) (nd : Nat) (b : Nat) (h : Nat) (rw : Nat) (mn : Int) (sx : Int) (cR : ClassId) (M : Nat) (V : Nat → Int) (r : Nat) (cA : ClassId) (w : Nat) (t : Nat → Int) (z : Int) (L : List Int) (a : Int) (hoN : okN M V mn) (hok : okB w t z L) (ha : 0 ≤ a ∧ a < mn) : mv_Met l yX2_holdsNumber wsX2_holdsNumber ({ frames := 4, cells := 0, slots := 0, locals := 130 }) (va_Pc [.ref nd, .int (iI a)] (fun U => U.heap.size = sz ∧ va_P (dC, dI) vwCl [(nd, .inr (2, [.ref b, .ref h, .ref rw, .int (iI mn), .int (iI sx)])), (rw, .inl (cR, M, .inl (fun j => iI (V j)))), (b, .inr (0, [.ref r, .int (iI z)])), (r, .inl (cA, w, .inl (fun j => bI (t j))))] U.heap ∧ va_K (dC, dI) vwCl [(cR, .int), (cA, .byte)] U ∧ va_D (fun _ => True) [(nd, .inr (2, [.ref b, .ref h, .ref rw, .int (iI mn), .int (iI sx)])), (rw, .inl (cR, M, .inl (fun j => iI (V j)))), (b, .inr (0, [.ref r, .int (iI z)])), (r, .inl (cA, w, .inl (fun j => bI (t j))))])) (mv_Q (fun (v : Option Value) (u : Int) (k n : Nat) => match u with | (q') => v = some (.int (iI q')) ∧ (q' = 1 ∧ hnum L V a ∨ q' = 0 ∧ ¬ hnum L V a) ∧ k = 0 ∧ n = 0) (fun (u : Int) (tS : State) => match u with | (q') => va_P (dC, dI) vwCl [(nd, .inr (2, [.ref b, .ref h, .ref rw, .int (iI mn), .int (iI sx)])), (rw, .inl (cR, M, .inl (fun j => iI (V j)))), (b, .inr (0, [.ref r, .int (iI z)])), (r, .inl (cA, w, .inl (fun j => bI (t j))))] tS.heap ∧ va_K (dC, dI) vwCl [(cR, .int), (cA, .byte)] tS ∧ va_D (va_A [(nd, .inr (2, [.ref b, .ref h, .ref rw, .int (iI mn), .int (iI sx)])), (rw, .inl (cR, M, .inl (fun j => iI (V j)))), (b, .inr (0, [.ref r, .int (iI z)])), (r, .inl (cA, w, .inl (fun j => bI (t j))))] sz) [(nd, .inr (2, [.ref b, .ref h, .ref rw, .int (iI mn), .int (iI sx)])), (rw, .inl (cR, M, .inl (fun j => iI (V j)))), (b, .inr (0, [.ref r, .int (iI z)])), (r, .inl (cA, w, .inl (fun j => bI (t j))))]) (va_A [(nd, .inr (2, [.ref b, .ref h, .ref rw, .int (iI mn), .int (iI sx)])), (rw, .inl (cR, M, .inl (fun j => iI (V j)))), (b, .inr (0, [.ref r, .int (iI z)])), (r, .inl (cA, w, .inl (fun j => bI (t j))))] sz)) (va_A [(nd, .inr (2, [.ref b, .ref h, .ref rw, .int (iI mn), .int (iI sx)])), (rw, .inl (cR, M, .inl (fun j => iI (V j)))), (b, .inr (0, [.ref r, .int (iI z)])), (r, .inl (cA, w, .inl (fun j => bI (t j))))] sz) := by
  refine mv_ofW (cc := cX2_holdsNumber) (maxL := 4) (ret := (some .boolean)) (by decide) rfl ?_
  intro p e s m args below meth c s₁ B hml hv
  obtain ⟨rfl, hsz, hP, hK, hD0⟩ := hv
  have hx := B.exec
  have hb := B.bytes
  have hr := B.returns
  have hT : ∀ w ∈ wT, w.before _ s = true := fun w h => atoms_spec (ws := wsX2_holdsNumber) B.pre w (List.mem_cons_of_mem _ h)
  have hown : s.vm.findClass RX2 = some m.cls := findClass_of_methodNamed B.named
  have hlocks := B.notSynchronized
  subst hsz
  have hD := hD0.self (sz := s.heap.size)
  generalize hAe : va_A [(nd, .inr (2, [.ref b, .ref h, .ref rw, .int (iI mn), .int (iI sx)])), (rw, .inl (cR, M, .inl (fun j => iI (V j)))), (b, .inr (0, [.ref r, .int (iI z)])), (r, .inl (cA, w, .inl (fun j => bI (t j))))] s.heap.size = A at hD ⊢
  have hA : ∀ q : Nat, s.heap.size ≤ q → A q := fun q h => by rw [← hAe]; exact Or.inr h
  have hS : va_S A s.heap s.heap [] := va_S.rf
  have hP : va_P (dC, dI) vwCl [(nd, .inr (2, [.ref b, .ref h, .ref rw, .int (iI mn), .int (iI sx)])), (rw, .inl (cR, M, .inl (fun j => iI (V j)))), (b, .inr (0, [.ref r, .int (iI z)])), (r, .inl (cA, w, .inl (fun j => bI (t j))))] s.heap := hP
  have hl := lv_entry ([.ref nd, .int (iI a)]) (n := 4) (Nat.le_of_ble_eq_true rfl)
  rw [lg_entry_eq]
  generalize (lg_sl ([.ref nd, .int (iI a)]) ++ List.replicate (4 - (lg_sl ([.ref nd, .int (iI a)])).length) Slot.unset).toArray = ls at hl ⊢
  have hl : lv_has ls 4 [(0, .ref nd), (1, .int (iI a))] := hl
  obtain ⟨hn1, hn2, hn3, hn4, hn5, hn6, hn7⟩ := id hoN
  obtain ⟨hw1, hw2, hw3, hw4, hw5, hw6⟩ := id hok
  have hc0 := cat_rng hok V a 0
  have hc1 := cat_rng hok V a 1
  have hna := hn7 a ha.1 ha.2
  refine lv_aload_n hx hb dX2_holdsNumber_0 rfl (lv_at hl 0 rfl) ?_
  refine lv_iload_n hx hb dX2_holdsNumber_1 rfl (lv_at hl 1 rfl) ?_
  refine lv_iconst (v := iI 5) hx hb dX2_holdsNumber_2 rfl ?_
  have hPc := hP.sub (ws' := [(nd, .inr (2, [.ref b, .ref h, .ref rw, .int (iI mn), .int (iI sx)])), (rw, .inl (cR, M, .inl (fun j => iI (V j))))]) [0, 1] rfl
  have hDc := hD.sub (ws' := [(nd, .inr (2, [.ref b, .ref h, .ref rw, .int (iI mn), .int (iI sx)])), (rw, .inl (cR, M, .inl (fun j => iI (V j))))]) [0, 1] (by decide) rfl
  have hKc := hK.sub (tys' := [(cR, .int)]) [0] rfl
  have hFc := va_free (wc := [(nd, .inr (2, [.ref b, .ref h, .ref rw, .int (iI mn), .int (iI sx)])), (rw, .inl (cR, M, .inl (fun j => iI (V j))))]) hD hS hA [0, 1] rfl
  refine mv_call (mv_runV (As := [.int (iI a), .int (iI 5)]) (rest := []) ⟨hx, hb, hml, hown, hT⟩ (c_N_get l dC dI s.heap.size nd b h rw mn sx cR M V a 5 (by omega) (by omega) (by omega) (hn6) (by omega) (by omega)) (cwV 2 hT (gV wd361 wd362 wd363 wd28 wd364) rfl rfl rfl (by decide +kernel) ⟨show 2 + 1 ≤ 4 from by omega, show 8 + (4 + 11) + 70 ≤ 130 from by omega⟩) ⟨fun a U g mk q => by obtain ⟨q0, q1, qP, qK, qD⟩ := q; exact ⟨q0, q1, qP, va_K.moved (u := U) (U := U.calling g mk a) (Vm.Alike.refl U.vm) qK, qD⟩, va_recv hKc hPc (ci := 2) (q0 := 0) rfl rfl, fun U hU hW => ⟨rfl, by rw [hU], by rw [hU]; exact hPc, va_K.moved hW.alike hKc, hDc.weaken (fun _ _ _ _ => trivial)⟩⟩ rfl rfl hl.1 rfl (lv_room (Nat.le_of_ble_eq_true rfl)) dX2_holdsNumber_3 ⟨show 0 + 0 ≤ 0 from by omega, show 0 + 0 ≤ 0 from by omega⟩) hS (fun q _ h => hFc q h) hFc (fun v3 u k1 n2 tS H1 locs ht hvm hw hB hz1 hk1 hS => ?_)
  obtain ⟨q4, rfl⟩ : ∃ y, y = u := ⟨_, rfl⟩
  obtain ⟨hP1, hK1, hD1⟩ := hB
  rw [ht] at hP1
  have hK1 := va_K.moved hvm.symm hK1
  try dsimp only at hw
  obtain ⟨hP, hD⟩ := va_join (wr := [(b, .inr (0, [.ref r, .int (iI z)])), (r, .inl (cA, w, .inl (fun j => bI (t j))))]) (w1 := [(nd, .inr (2, [.ref b, .ref h, .ref rw, .int (iI mn), .int (iI sx)])), (rw, .inl (cR, M, .inl (fun j => iI (V j))))]) hP hD [0, 1] [2, 3] rfl rfl (by decide) (by decide) hk1 hFc hP1 hD1
  have hK := (hK.sub (tys' := [(cA, .byte)]) [1] rfl).app hK1
  generalize H1 = H at hP hS ⊢
  have hP : va_P (dC, dI) vwCl [(b, .inr (0, [.ref r, .int (iI z)])), (r, .inl (cA, w, .inl (fun j => bI (t j)))), (nd, .inr (2, [.ref b, .ref h, .ref rw, .int (iI mn), .int (iI sx)])), (rw, .inl (cR, M, .inl (fun j => iI (V j))))] H := hP
  have hD : va_D A [(b, .inr (0, [.ref r, .int (iI z)])), (r, .inl (cA, w, .inl (fun j => bI (t j)))), (nd, .inr (2, [.ref b, .ref h, .ref rw, .int (iI mn), .int (iI sx)])), (rw, .inl (cR, M, .inl (fun j => iI (V j))))] := hD
  have hK : va_K (dC, dI) vwCl [(cA, .byte), (cR, .int)] s := hK
  obtain ⟨rfl, hqv3, hrv3, rfl, rfl⟩ := hw
  refine W.eq (g2 := F0 m 6 ls [.int (iI q4)]) rfl ?_
  refine lv_istore_n (lv' := [(2, .int (iI q4)), (0, .ref nd), (1, .int (iI a))]) hx hb dX2_holdsNumber_6 rfl hl (by decide) rfl (fun ls hl => ?_)
  refine lv_iload_n hx hb dX2_holdsNumber_7 rfl (lv_at hl 0 rfl) ?_
  refine lv_iconst (v := iI 1) hx hb dX2_holdsNumber_8 rfl ?_
  refine li_icmp_lt (tgt := 18) hx hb (by omega) (by omega) dX2_holdsNumber_9 (by decide) (fun c5 => ?_) (fun c5 => ?_)
  · skip
    refine lv_iconst (v := iI 0) hx hb dX2_holdsNumber_18 rfl ?_
    have hP9 := hP.sub (ws' := [(nd, .inr (2, [.ref b, .ref h, .ref rw, .int (iI mn), .int (iI sx)])), (rw, .inl (cR, M, .inl (fun j => iI (V j)))), (b, .inr (0, [.ref r, .int (iI z)])), (r, .inl (cA, w, .inl (fun j => bI (t j))))]) [2, 3, 0, 1] rfl
    have hD9 := hD.sub (ws' := [(nd, .inr (2, [.ref b, .ref h, .ref rw, .int (iI mn), .int (iI sx)])), (rw, .inl (cR, M, .inl (fun j => iI (V j)))), (b, .inr (0, [.ref r, .int (iI z)])), (r, .inl (cA, w, .inl (fun j => bI (t j))))]) [2, 3, 0, 1] (by decide) rfl
    have hK9 := hK.sub (tys' := [(cR, .int), (cA, .byte)]) [1, 0] rfl
    exact mv_zret hx hb hr (zb_n (by omega)) hlocks (fun tS ht hW => ⟨⟨_, (0), rfl, ⟨rfl, Or.inr ⟨rfl, by unfold hnum; omega⟩, rfl, rfl⟩, by rw [ht]; exact hP9, va_K.moved hW.alike hK9, hD9⟩, hS.F ht⟩) hS.2.2 dX2_holdsNumber_19
  · skip
    refine lv_iload_n hx hb dX2_holdsNumber_12 rfl (lv_at hl 0 rfl) ?_
    refine lv_bipush (v := iI 8) hx hb dX2_holdsNumber_13 (by decide +kernel) ?_
    refine li_icmp_le (tgt := 20) hx hb (by omega) (by omega) dX2_holdsNumber_15 (by decide) (fun c6 => ?_) (fun c6 => ?_)
    · skip
      refine lv_iload_n hx hb dX2_holdsNumber_20 rfl (lv_at hl 0 rfl) ?_
      refine lv_iconst (v := iI 1) hx hb dX2_holdsNumber_21 rfl ?_
      refine li_icmp_ne (tgt := 27) hx hb (by omega) (by omega) dX2_holdsNumber_22 (by decide) (fun c7 => ?_) (fun c7 => ?_)
      · skip
        refine lv_aload_n hx hb dX2_holdsNumber_27 rfl (lv_at hl 1 rfl) ?_
        refine lv_iload_n hx hb dX2_holdsNumber_28 rfl (lv_at hl 2 rfl) ?_
        refine lv_iconst (v := iI 0) hx hb dX2_holdsNumber_29 rfl ?_
        have hPc := hP.sub (ws' := [(nd, .inr (2, [.ref b, .ref h, .ref rw, .int (iI mn), .int (iI sx)])), (rw, .inl (cR, M, .inl (fun j => iI (V j)))), (b, .inr (0, [.ref r, .int (iI z)])), (r, .inl (cA, w, .inl (fun j => bI (t j))))]) [2, 3, 0, 1] rfl
        have hDc := hD.sub (ws' := [(nd, .inr (2, [.ref b, .ref h, .ref rw, .int (iI mn), .int (iI sx)])), (rw, .inl (cR, M, .inl (fun j => iI (V j)))), (b, .inr (0, [.ref r, .int (iI z)])), (r, .inl (cA, w, .inl (fun j => bI (t j))))]) [2, 3, 0, 1] (by decide) rfl
        have hKc := hK.sub (tys' := [(cR, .int), (cA, .byte)]) [1, 0] rfl
        have hFc := va_free (wc := [(nd, .inr (2, [.ref b, .ref h, .ref rw, .int (iI mn), .int (iI sx)])), (rw, .inl (cR, M, .inl (fun j => iI (V j)))), (b, .inr (0, [.ref r, .int (iI z)])), (r, .inl (cA, w, .inl (fun j => bI (t j))))]) hD hS hA [2, 3, 0, 1] rfl
        refine mv_call (mv_runV (As := [.int (iI a), .int (iI 0)]) (rest := []) ⟨hx, hb, hml, hown, hT⟩ (c_N_cat l dC dI H.size nd b h rw mn sx cR M V r cA w t z L a 0 (by omega) (hok) (by omega) (by omega)) (cwV 2 hT (gV wd418 wd420 wd13 wd28 wd421) rfl rfl rfl (by decide +kernel) ⟨show 3 + 1 ≤ 4 from by omega, show 8 + (3 + 11) + 100 ≤ 130 from by omega⟩) ⟨fun a U g mk q => by obtain ⟨q0, q1, qP, qK, qD⟩ := q; exact ⟨q0, q1, qP, va_K.moved (u := U) (U := U.calling g mk a) (Vm.Alike.refl U.vm) qK, qD⟩, va_recv hKc hPc (ci := 2) (q0 := 0) rfl rfl, fun U hU hW => ⟨rfl, by rw [hU], by rw [hU]; exact hPc, va_K.moved hW.alike hKc, hDc.weaken (fun _ _ _ _ => trivial)⟩⟩ rfl rfl hl.1 rfl (lv_room (Nat.le_of_ble_eq_true rfl)) dX2_holdsNumber_30 ⟨show 0 + 0 + 0 ≤ 0 from by omega, show 0 + 0 + 0 ≤ 0 from by omega⟩) hS (fun q _ h => hFc q h) hFc (fun v10 u k8 n9 tS H1 locs ht hvm hw hB hz1 hk1 hS => ?_)
        obtain ⟨hP1, hK1, hD1⟩ := hB
        rw [ht] at hP1
        have hK1 := va_K.moved hvm.symm hK1
        try dsimp only at hw
        obtain ⟨hP, hD⟩ := va_join (wr := []) (w1 := [(nd, .inr (2, [.ref b, .ref h, .ref rw, .int (iI mn), .int (iI sx)])), (rw, .inl (cR, M, .inl (fun j => iI (V j)))), (b, .inr (0, [.ref r, .int (iI z)])), (r, .inl (cA, w, .inl (fun j => bI (t j))))]) hP hD [2, 3, 0, 1] [] rfl rfl (by decide) (by decide) hk1 hFc hP1 hD1
        have hK := (hK.sub (tys' := []) [] rfl).app hK1
        generalize H1 = H at hP hS ⊢
        have hP : va_P (dC, dI) vwCl [(nd, .inr (2, [.ref b, .ref h, .ref rw, .int (iI mn), .int (iI sx)])), (rw, .inl (cR, M, .inl (fun j => iI (V j)))), (b, .inr (0, [.ref r, .int (iI z)])), (r, .inl (cA, w, .inl (fun j => bI (t j))))] H := hP
        have hD : va_D A [(nd, .inr (2, [.ref b, .ref h, .ref rw, .int (iI mn), .int (iI sx)])), (rw, .inl (cR, M, .inl (fun j => iI (V j)))), (b, .inr (0, [.ref r, .int (iI z)])), (r, .inl (cA, w, .inl (fun j => bI (t j))))] := hD
        have hK : va_K (dC, dI) vwCl [(cR, .int), (cA, .byte)] s := hK
        obtain ⟨rfl, rfl, rfl⟩ := hw
        refine W.eq (g2 := F0 m 33 ls [.int (iI (cat L V a 0))]) rfl ?_
        refine lv_iconst (v := iI 2) hx hb dX2_holdsNumber_33 rfl ?_
        refine li_imul hx hb dX2_holdsNumber_34 ?_
        refine lv_aload_n hx hb dX2_holdsNumber_35 rfl (lv_at hl 1 rfl) ?_
        refine lv_iload_n hx hb dX2_holdsNumber_36 rfl (lv_at hl 2 rfl) ?_
        refine lv_iconst (v := iI 1) hx hb dX2_holdsNumber_37 rfl ?_
        have hPc := hP.sub (ws' := [(nd, .inr (2, [.ref b, .ref h, .ref rw, .int (iI mn), .int (iI sx)])), (rw, .inl (cR, M, .inl (fun j => iI (V j)))), (b, .inr (0, [.ref r, .int (iI z)])), (r, .inl (cA, w, .inl (fun j => bI (t j))))]) [0, 1, 2, 3] rfl
        have hDc := hD.sub (ws' := [(nd, .inr (2, [.ref b, .ref h, .ref rw, .int (iI mn), .int (iI sx)])), (rw, .inl (cR, M, .inl (fun j => iI (V j)))), (b, .inr (0, [.ref r, .int (iI z)])), (r, .inl (cA, w, .inl (fun j => bI (t j))))]) [0, 1, 2, 3] (by decide) rfl
        have hKc := hK.sub (tys' := [(cR, .int), (cA, .byte)]) [0, 1] rfl
        have hFc := va_free (wc := [(nd, .inr (2, [.ref b, .ref h, .ref rw, .int (iI mn), .int (iI sx)])), (rw, .inl (cR, M, .inl (fun j => iI (V j)))), (b, .inr (0, [.ref r, .int (iI z)])), (r, .inl (cA, w, .inl (fun j => bI (t j))))]) hD hS hA [0, 1, 2, 3] rfl
        refine mv_call (mv_runV (As := [.int (iI a), .int (iI 1)]) (rest := [.int (iI ((cat L V a 0) * 2))]) ⟨hx, hb, hml, hown, hT⟩ (c_N_cat l dC dI H.size nd b h rw mn sx cR M V r cA w t z L a 1 (by omega) (hok) (by omega) (by omega)) (cwV 2 hT (gV wd418 wd420 wd13 wd28 wd421) rfl rfl rfl (by decide +kernel) ⟨show 3 + 1 ≤ 4 from by omega, show 8 + (3 + 11) + 100 ≤ 130 from by omega⟩) ⟨fun a U g mk q => by obtain ⟨q0, q1, qP, qK, qD⟩ := q; exact ⟨q0, q1, qP, va_K.moved (u := U) (U := U.calling g mk a) (Vm.Alike.refl U.vm) qK, qD⟩, va_recv hKc hPc (ci := 2) (q0 := 0) rfl rfl, fun U hU hW => ⟨rfl, by rw [hU], by rw [hU]; exact hPc, va_K.moved hW.alike hKc, hDc.weaken (fun _ _ _ _ => trivial)⟩⟩ rfl rfl hl.1 rfl (lv_room (Nat.le_of_ble_eq_true rfl)) dX2_holdsNumber_38 ⟨show 0 + 0 + 0 + 0 ≤ 0 from by omega, show 0 + 0 + 0 + 0 ≤ 0 from by omega⟩) hS (fun q _ h => hFc q h) hFc (fun v13 u k11 n12 tS H1 locs ht hvm hw hB hz1 hk1 hS => ?_)
        obtain ⟨hP1, hK1, hD1⟩ := hB
        rw [ht] at hP1
        have hK1 := va_K.moved hvm.symm hK1
        try dsimp only at hw
        obtain ⟨hP, hD⟩ := va_join (wr := []) (w1 := [(nd, .inr (2, [.ref b, .ref h, .ref rw, .int (iI mn), .int (iI sx)])), (rw, .inl (cR, M, .inl (fun j => iI (V j)))), (b, .inr (0, [.ref r, .int (iI z)])), (r, .inl (cA, w, .inl (fun j => bI (t j))))]) hP hD [0, 1, 2, 3] [] rfl rfl (by decide) (by decide) hk1 hFc hP1 hD1
        have hK := (hK.sub (tys' := []) [] rfl).app hK1
        generalize H1 = H at hP hS ⊢
        have hP : va_P (dC, dI) vwCl [(nd, .inr (2, [.ref b, .ref h, .ref rw, .int (iI mn), .int (iI sx)])), (rw, .inl (cR, M, .inl (fun j => iI (V j)))), (b, .inr (0, [.ref r, .int (iI z)])), (r, .inl (cA, w, .inl (fun j => bI (t j))))] H := hP
        have hD : va_D A [(nd, .inr (2, [.ref b, .ref h, .ref rw, .int (iI mn), .int (iI sx)])), (rw, .inl (cR, M, .inl (fun j => iI (V j)))), (b, .inr (0, [.ref r, .int (iI z)])), (r, .inl (cA, w, .inl (fun j => bI (t j))))] := hD
        have hK : va_K (dC, dI) vwCl [(cR, .int), (cA, .byte)] s := hK
        obtain ⟨rfl, rfl, rfl⟩ := hw
        refine W.eq (g2 := F0 m 41 ls [.int (iI (cat L V a 1)), .int (iI ((cat L V a 0) * 2))]) rfl ?_
        refine lv_bipush (v := iI 7) hx hb dX2_holdsNumber_41 (by decide +kernel) ?_
        refine li_ishrK hx hb 128 (by decide) (by omega) (by omega) dX2_holdsNumber_43 ?_
        refine li_iadd hx hb dX2_holdsNumber_44 ?_
        refine li_nm (fun z14 ez14 => ?_)
        refine lv_istore_n (lv' := [(3, .int (iI z14)), (2, .int (iI q4)), (0, .ref nd), (1, .int (iI a))]) hx hb dX2_holdsNumber_45 rfl hl (by decide) rfl (fun ls hl => ?_)
        refine lv_iload_n hx hb dX2_holdsNumber_46 rfl (lv_at hl 0 rfl) ?_
        refine li_if_eq (tgt := 61) hx hb (by omega) dX2_holdsNumber_47 (by decide) (fun c15 => ?_) (fun c15 => ?_)
        · skip
          refine lv_iconst (v := iI 0) hx hb dX2_holdsNumber_61 rfl ?_
          have hP9 := hP.sub (ws' := [(nd, .inr (2, [.ref b, .ref h, .ref rw, .int (iI mn), .int (iI sx)])), (rw, .inl (cR, M, .inl (fun j => iI (V j)))), (b, .inr (0, [.ref r, .int (iI z)])), (r, .inl (cA, w, .inl (fun j => bI (t j))))]) [0, 1, 2, 3] rfl
          have hD9 := hD.sub (ws' := [(nd, .inr (2, [.ref b, .ref h, .ref rw, .int (iI mn), .int (iI sx)])), (rw, .inl (cR, M, .inl (fun j => iI (V j)))), (b, .inr (0, [.ref r, .int (iI z)])), (r, .inl (cA, w, .inl (fun j => bI (t j))))]) [0, 1, 2, 3] (by decide) rfl
          have hK9 := hK.sub (tys' := [(cR, .int), (cA, .byte)]) [0, 1] rfl
          exact mv_zret hx hb hr (zb_n (by omega)) hlocks (fun tS ht hW => ⟨⟨_, (0), rfl, ⟨rfl, Or.inr ⟨rfl, by unfold hnum; omega⟩, rfl, rfl⟩, by rw [ht]; exact hP9, va_K.moved hW.alike hK9, hD9⟩, hS.F ht⟩) hS.2.2 dX2_holdsNumber_62
        · skip
          refine lv_iload_n hx hb dX2_holdsNumber_50 rfl (lv_at hl 0 rfl) ?_
          refine lv_sipush (v := iI 511) hx hb dX2_holdsNumber_51 (by decide +kernel) ?_
          refine li_icmp_eq (tgt := 61) hx hb (by omega) (by omega) dX2_holdsNumber_54 (by decide) (fun c16 => ?_) (fun c16 => ?_)
          · skip
            refine lv_iconst (v := iI 0) hx hb dX2_holdsNumber_61 rfl ?_
            have hP9 := hP.sub (ws' := [(nd, .inr (2, [.ref b, .ref h, .ref rw, .int (iI mn), .int (iI sx)])), (rw, .inl (cR, M, .inl (fun j => iI (V j)))), (b, .inr (0, [.ref r, .int (iI z)])), (r, .inl (cA, w, .inl (fun j => bI (t j))))]) [0, 1, 2, 3] rfl
            have hD9 := hD.sub (ws' := [(nd, .inr (2, [.ref b, .ref h, .ref rw, .int (iI mn), .int (iI sx)])), (rw, .inl (cR, M, .inl (fun j => iI (V j)))), (b, .inr (0, [.ref r, .int (iI z)])), (r, .inl (cA, w, .inl (fun j => bI (t j))))]) [0, 1, 2, 3] (by decide) rfl
            have hK9 := hK.sub (tys' := [(cR, .int), (cA, .byte)]) [0, 1] rfl
            exact mv_zret hx hb hr (zb_n (by omega)) hlocks (fun tS ht hW => ⟨⟨_, (0), rfl, ⟨rfl, Or.inr ⟨rfl, by unfold hnum; omega⟩, rfl, rfl⟩, by rw [ht]; exact hP9, va_K.moved hW.alike hK9, hD9⟩, hS.F ht⟩) hS.2.2 dX2_holdsNumber_62
          · skip
            refine lv_iconst (v := iI 1) hx hb dX2_holdsNumber_57 rfl ?_
            refine lv_goto (tgt := 62) hx hb dX2_holdsNumber_58 (by decide) ?_
            have hP9 := hP.sub (ws' := [(nd, .inr (2, [.ref b, .ref h, .ref rw, .int (iI mn), .int (iI sx)])), (rw, .inl (cR, M, .inl (fun j => iI (V j)))), (b, .inr (0, [.ref r, .int (iI z)])), (r, .inl (cA, w, .inl (fun j => bI (t j))))]) [0, 1, 2, 3] rfl
            have hD9 := hD.sub (ws' := [(nd, .inr (2, [.ref b, .ref h, .ref rw, .int (iI mn), .int (iI sx)])), (rw, .inl (cR, M, .inl (fun j => iI (V j)))), (b, .inr (0, [.ref r, .int (iI z)])), (r, .inl (cA, w, .inl (fun j => bI (t j))))]) [0, 1, 2, 3] (by decide) rfl
            have hK9 := hK.sub (tys' := [(cR, .int), (cA, .byte)]) [0, 1] rfl
            exact mv_zret hx hb hr (zb_n (by omega)) hlocks (fun tS ht hW => ⟨⟨_, (1), rfl, ⟨rfl, Or.inl ⟨rfl, by unfold hnum; omega⟩, rfl, rfl⟩, by rw [ht]; exact hP9, va_K.moved hW.alike hK9, hD9⟩, hS.F ht⟩) hS.2.2 dX2_holdsNumber_62
      · skip
        refine lv_iconst (v := iI 1) hx hb dX2_holdsNumber_25 rfl ?_
        have hP9 := hP.sub (ws' := [(nd, .inr (2, [.ref b, .ref h, .ref rw, .int (iI mn), .int (iI sx)])), (rw, .inl (cR, M, .inl (fun j => iI (V j)))), (b, .inr (0, [.ref r, .int (iI z)])), (r, .inl (cA, w, .inl (fun j => bI (t j))))]) [2, 3, 0, 1] rfl
        have hD9 := hD.sub (ws' := [(nd, .inr (2, [.ref b, .ref h, .ref rw, .int (iI mn), .int (iI sx)])), (rw, .inl (cR, M, .inl (fun j => iI (V j)))), (b, .inr (0, [.ref r, .int (iI z)])), (r, .inl (cA, w, .inl (fun j => bI (t j))))]) [2, 3, 0, 1] (by decide) rfl
        have hK9 := hK.sub (tys' := [(cR, .int), (cA, .byte)]) [1, 0] rfl
        exact mv_zret hx hb hr (zb_n (by omega)) hlocks (fun tS ht hW => ⟨⟨_, (1), rfl, ⟨rfl, Or.inl ⟨rfl, by unfold hnum; omega⟩, rfl, rfl⟩, by rw [ht]; exact hP9, va_K.moved hW.alike hK9, hD9⟩, hS.F ht⟩) hS.2.2 dX2_holdsNumber_26
    · skip
      refine lv_iconst (v := iI 0) hx hb dX2_holdsNumber_18 rfl ?_
      have hP9 := hP.sub (ws' := [(nd, .inr (2, [.ref b, .ref h, .ref rw, .int (iI mn), .int (iI sx)])), (rw, .inl (cR, M, .inl (fun j => iI (V j)))), (b, .inr (0, [.ref r, .int (iI z)])), (r, .inl (cA, w, .inl (fun j => bI (t j))))]) [2, 3, 0, 1] rfl
      have hD9 := hD.sub (ws' := [(nd, .inr (2, [.ref b, .ref h, .ref rw, .int (iI mn), .int (iI sx)])), (rw, .inl (cR, M, .inl (fun j => iI (V j)))), (b, .inr (0, [.ref r, .int (iI z)])), (r, .inl (cA, w, .inl (fun j => bI (t j))))]) [2, 3, 0, 1] (by decide) rfl
      have hK9 := hK.sub (tys' := [(cR, .int), (cA, .byte)]) [1, 0] rfl
      exact mv_zret hx hb hr (zb_n (by omega)) hlocks (fun tS ht hW => ⟨⟨_, (0), rfl, ⟨rfl, Or.inr ⟨rfl, by unfold hnum; omega⟩, rfl, rfl⟩, by rw [ht]; exact hP9, va_K.moved hW.alike hK9, hD9⟩, hS.F ht⟩) hS.2.2 dX2_holdsNumber_19
set_option maxHeartbeats 4000000 in
set_option maxRecDepth 100000 in
theorem c_N_sgn (l : Launch) (dC : Nat → ClassId) (dI : Nat → Nat → Nat) (sz : Nat) (nd : Nat) (b : Nat) (h : Nat) (rw : Nat) (mn : Int) (sx : Int) (cR : ClassId) (M : Nat) (V : Nat → Int) (r : Nat) (cA : ClassId) (w : Nat) (t : Nat → Int) (z : Int) (L : List Int) (a : Int) (hoN : okN M V mn) (hok : okB w t z L) (ha : 0 ≤ a ∧ a < mn) : mv_Met l yX2_signedContents wsX2_signedContents ({ frames := 4, cells := 0, slots := 0, locals := 130 }) (va_Pc [.ref nd, .int (iI a)] (fun U => U.heap.size = sz ∧ va_P (dC, dI) vwCl [(nd, .inr (2, [.ref b, .ref h, .ref rw, .int (iI mn), .int (iI sx)])), (rw, .inl (cR, M, .inl (fun j => iI (V j)))), (b, .inr (0, [.ref r, .int (iI z)])), (r, .inl (cA, w, .inl (fun j => bI (t j))))] U.heap ∧ va_K (dC, dI) vwCl [(cR, .int), (cA, .byte)] U ∧ va_D (fun _ => True) [(nd, .inr (2, [.ref b, .ref h, .ref rw, .int (iI mn), .int (iI sx)])), (rw, .inl (cR, M, .inl (fun j => iI (V j)))), (b, .inr (0, [.ref r, .int (iI z)])), (r, .inl (cA, w, .inl (fun j => bI (t j))))])) (mv_Q (fun (v : Option Value) (_ : Unit) (k n : Nat) => v = some (.long (lI (sgn L V a))) ∧ k = 0 ∧ n = 0) (fun (_ : Unit) (tS : State) => va_P (dC, dI) vwCl [(nd, .inr (2, [.ref b, .ref h, .ref rw, .int (iI mn), .int (iI sx)])), (rw, .inl (cR, M, .inl (fun j => iI (V j)))), (b, .inr (0, [.ref r, .int (iI z)])), (r, .inl (cA, w, .inl (fun j => bI (t j))))] tS.heap ∧ va_K (dC, dI) vwCl [(cR, .int), (cA, .byte)] tS ∧ va_D (va_A [(nd, .inr (2, [.ref b, .ref h, .ref rw, .int (iI mn), .int (iI sx)])), (rw, .inl (cR, M, .inl (fun j => iI (V j)))), (b, .inr (0, [.ref r, .int (iI z)])), (r, .inl (cA, w, .inl (fun j => bI (t j))))] sz) [(nd, .inr (2, [.ref b, .ref h, .ref rw, .int (iI mn), .int (iI sx)])), (rw, .inl (cR, M, .inl (fun j => iI (V j)))), (b, .inr (0, [.ref r, .int (iI z)])), (r, .inl (cA, w, .inl (fun j => bI (t j))))]) (va_A [(nd, .inr (2, [.ref b, .ref h, .ref rw, .int (iI mn), .int (iI sx)])), (rw, .inl (cR, M, .inl (fun j => iI (V j)))), (b, .inr (0, [.ref r, .int (iI z)])), (r, .inl (cA, w, .inl (fun j => bI (t j))))] sz)) (va_A [(nd, .inr (2, [.ref b, .ref h, .ref rw, .int (iI mn), .int (iI sx)])), (rw, .inl (cR, M, .inl (fun j => iI (V j)))), (b, .inr (0, [.ref r, .int (iI z)])), (r, .inl (cA, w, .inl (fun j => bI (t j))))] sz) := by
  refine mv_ofW (cc := cX2_signedContents) (maxL := 6) (ret := (some .long)) (by decide) rfl ?_
  intro p e s m args below meth c s₁ B hml hv
  obtain ⟨rfl, hsz, hP, hK, hD0⟩ := hv
  have hx := B.exec
  have hb := B.bytes
  have hr := B.returns
  have hT : ∀ w ∈ wT, w.before _ s = true := fun w h => atoms_spec (ws := wsX2_signedContents) B.pre w (List.mem_cons_of_mem _ h)
  have hown : s.vm.findClass RX2 = some m.cls := findClass_of_methodNamed B.named
  have hlocks := B.notSynchronized
  subst hsz
  have hD := hD0.self (sz := s.heap.size)
  generalize hAe : va_A [(nd, .inr (2, [.ref b, .ref h, .ref rw, .int (iI mn), .int (iI sx)])), (rw, .inl (cR, M, .inl (fun j => iI (V j)))), (b, .inr (0, [.ref r, .int (iI z)])), (r, .inl (cA, w, .inl (fun j => bI (t j))))] s.heap.size = A at hD ⊢
  have hA : ∀ q : Nat, s.heap.size ≤ q → A q := fun q h => by rw [← hAe]; exact Or.inr h
  have hS : va_S A s.heap s.heap [] := va_S.rf
  have hP : va_P (dC, dI) vwCl [(nd, .inr (2, [.ref b, .ref h, .ref rw, .int (iI mn), .int (iI sx)])), (rw, .inl (cR, M, .inl (fun j => iI (V j)))), (b, .inr (0, [.ref r, .int (iI z)])), (r, .inl (cA, w, .inl (fun j => bI (t j))))] s.heap := hP
  have hl := lv_entry ([.ref nd, .int (iI a)]) (n := 6) (Nat.le_of_ble_eq_true rfl)
  rw [lg_entry_eq]
  generalize (lg_sl ([.ref nd, .int (iI a)]) ++ List.replicate (6 - (lg_sl ([.ref nd, .int (iI a)])).length) Slot.unset).toArray = ls at hl ⊢
  have hl : lv_has ls 6 [(0, .ref nd), (1, .int (iI a))] := hl
  obtain ⟨hn1, hn2, hn3, hn4, hn5, hn6, hn7⟩ := id hoN
  obtain ⟨hw1, hw2, hw3, hw4, hw5, hw6⟩ := id hok
  have hc0 := cat_rng hok V a 0
  have hc1 := cat_rng hok V a 1
  have hna := hn7 a ha.1 ha.2
  refine mv_nameQ (fun Q9 hQ9 => ?_)
  have LP : ∀ (fu : Nat) (y : Int) (j : Int) (g : Int) (H : Heap) (locs : List Loc) (ls : Array Slot) (kc ks : Nat), (g - j < (fu : Int)) → (0 ≤ j ∧ j ≤ g ∧ g ≤ 8) → (sgn L V a = sfold (cat L V a) (g - j).toNat j y) → (kc = 0 ∧ ks = 0) → va_K (dC, dI) vwCl [(cR, .int), (cA, .byte)] s → va_P (dC, dI) vwCl [(nd, .inr (2, [.ref b, .ref h, .ref rw, .int (iI mn), .int (iI sx)])), (rw, .inl (cR, M, .inl (fun j => iI (V j)))), (b, .inr (0, [.ref r, .int (iI z)])), (r, .inl (cA, w, .inl (fun j => bI (t j))))] H → va_D A [(nd, .inr (2, [.ref b, .ref h, .ref rw, .int (iI mn), .int (iI sx)])), (rw, .inl (cR, M, .inl (fun j => iI (V j)))), (b, .inr (0, [.ref r, .int (iI z)])), (r, .inl (cA, w, .inl (fun j => bI (t j))))] → va_S A s.heap H locs → lv_has ls 6 [(0, .ref nd), (1, .int (iI a)), (2, .long (lI y)), (4, .int (iI g)), (5, .int (iI j))] → W p l e ({ frames := 4, cells := 0, slots := 0, locals := 130 }) s m ([.ref nd, .int (iI a)] : List Value).toArray below meth c H locs kc ks Q9 (F0 m 36 ls []) := by
    intro fu
    induction fu with
    | zero =>
      intro y j g H locs ls kc ks hfu hj hn hkc hK hP hD hS hl
      exfalso
      omega
    | succ fu ih =>
      intro y j g H locs ls kc ks hfu hj hn hkc hK hP hD hS hl
      have hcj := cat_rng hok V a j
      refine lv_iload hx hb dX2_signedContents_36 (lv_at hl 4 rfl) ?_
      refine lv_iload hx hb dX2_signedContents_38 (lv_at hl 3 rfl) ?_
      refine li_icmp_ge (tgt := 63) hx hb (by omega) (by omega) dX2_signedContents_40 (by decide) (fun c1 => ?_) (fun c1 => ?_)
      · skip
        refine lv_lload_n hx hb dX2_signedContents_63 rfl (lv_at hl 2 rfl) ?_
        subst hQ9
        have hP9 := hP.sub (ws' := [(nd, .inr (2, [.ref b, .ref h, .ref rw, .int (iI mn), .int (iI sx)])), (rw, .inl (cR, M, .inl (fun j => iI (V j)))), (b, .inr (0, [.ref r, .int (iI z)])), (r, .inl (cA, w, .inl (fun j => bI (t j))))]) [0, 1, 2, 3] rfl
        have hD9 := hD.sub (ws' := [(nd, .inr (2, [.ref b, .ref h, .ref rw, .int (iI mn), .int (iI sx)])), (rw, .inl (cR, M, .inl (fun j => iI (V j)))), (b, .inr (0, [.ref r, .int (iI z)])), (r, .inl (cA, w, .inl (fun j => bI (t j))))]) [0, 1, 2, 3] (by decide) rfl
        have hK9 := hK.sub (tys' := [(cR, .int), (cA, .byte)]) [0, 1] rfl
        exact mv_lret hx hb hr hlocks (fun tS ht hW => ⟨⟨_, (), rfl, ⟨sL (by rw [hn]; exact (sfold_e (by omega)).symm), by omega, by omega⟩, by rw [ht]; exact hP9, va_K.moved hW.alike hK9, hD9⟩, hS.F ht⟩) hS.2.2 dX2_signedContents_64
      · skip
        refine lv_lload_n hx hb dX2_signedContents_43 rfl (lv_at hl 2 rfl) ?_
        refine lv_bipush (v := iI 8) hx hb dX2_signedContents_44 (by decide +kernel) ?_
        refine li_lshl8 hx hb dX2_signedContents_46 ?_
        refine lv_aload_n hx hb dX2_signedContents_47 rfl (lv_at hl 0 rfl) ?_
        refine lv_iload_n hx hb dX2_signedContents_48 rfl (lv_at hl 1 rfl) ?_
        refine lv_iload hx hb dX2_signedContents_49 (lv_at hl 4 rfl) ?_
        have hPc := hP.sub (ws' := [(nd, .inr (2, [.ref b, .ref h, .ref rw, .int (iI mn), .int (iI sx)])), (rw, .inl (cR, M, .inl (fun j => iI (V j)))), (b, .inr (0, [.ref r, .int (iI z)])), (r, .inl (cA, w, .inl (fun j => bI (t j))))]) [0, 1, 2, 3] rfl
        have hDc := hD.sub (ws' := [(nd, .inr (2, [.ref b, .ref h, .ref rw, .int (iI mn), .int (iI sx)])), (rw, .inl (cR, M, .inl (fun j => iI (V j)))), (b, .inr (0, [.ref r, .int (iI z)])), (r, .inl (cA, w, .inl (fun j => bI (t j))))]) [0, 1, 2, 3] (by decide) rfl
        have hKc := hK.sub (tys' := [(cR, .int), (cA, .byte)]) [0, 1] rfl
        have hFc := va_free (wc := [(nd, .inr (2, [.ref b, .ref h, .ref rw, .int (iI mn), .int (iI sx)])), (rw, .inl (cR, M, .inl (fun j => iI (V j)))), (b, .inr (0, [.ref r, .int (iI z)])), (r, .inl (cA, w, .inl (fun j => bI (t j))))]) hD hS hA [0, 1, 2, 3] rfl
        refine mv_call (mv_runV (As := [.int (iI a), .int (iI j)]) (rest := [.long (lI (y * 256))]) ⟨hx, hb, hml, hown, hT⟩ (c_N_cat l dC dI H.size nd b h rw mn sx cR M V r cA w t z L a j (by omega) (hok) (by omega) (by omega)) (cwV 2 hT (gV wd418 wd420 wd13 wd28 wd421) rfl rfl rfl (by decide +kernel) ⟨show 3 + 1 ≤ 4 from by omega, show 8 + (3 + 11) + 100 ≤ 130 from by omega⟩) ⟨fun a U g mk q => by obtain ⟨q0, q1, qP, qK, qD⟩ := q; exact ⟨q0, q1, qP, va_K.moved (u := U) (U := U.calling g mk a) (Vm.Alike.refl U.vm) qK, qD⟩, va_recv hKc hPc (ci := 2) (q0 := 0) rfl rfl, fun U hU hW => ⟨rfl, by rw [hU], by rw [hU]; exact hPc, va_K.moved hW.alike hKc, hDc.weaken (fun _ _ _ _ => trivial)⟩⟩ rfl rfl hl.1 rfl (lv_room (Nat.le_of_ble_eq_true rfl)) dX2_signedContents_51 ⟨show kc + 0 ≤ 0 from by omega, show ks + 0 ≤ 0 from by omega⟩) hS (fun q _ h => hFc q h) hFc (fun v4 u k2 n3 tS H1 locs ht hvm hw hB hz1 hk1 hS => ?_)
        obtain ⟨hP1, hK1, hD1⟩ := hB
        rw [ht] at hP1
        have hK1 := va_K.moved hvm.symm hK1
        try dsimp only at hw
        obtain ⟨hP, hD⟩ := va_join (wr := []) (w1 := [(nd, .inr (2, [.ref b, .ref h, .ref rw, .int (iI mn), .int (iI sx)])), (rw, .inl (cR, M, .inl (fun j => iI (V j)))), (b, .inr (0, [.ref r, .int (iI z)])), (r, .inl (cA, w, .inl (fun j => bI (t j))))]) hP hD [0, 1, 2, 3] [] rfl rfl (by decide) (by decide) hk1 hFc hP1 hD1
        have hK := (hK.sub (tys' := []) [] rfl).app hK1
        generalize H1 = H at hP hS ⊢
        have hP : va_P (dC, dI) vwCl [(nd, .inr (2, [.ref b, .ref h, .ref rw, .int (iI mn), .int (iI sx)])), (rw, .inl (cR, M, .inl (fun j => iI (V j)))), (b, .inr (0, [.ref r, .int (iI z)])), (r, .inl (cA, w, .inl (fun j => bI (t j))))] H := hP
        have hD : va_D A [(nd, .inr (2, [.ref b, .ref h, .ref rw, .int (iI mn), .int (iI sx)])), (rw, .inl (cR, M, .inl (fun j => iI (V j)))), (b, .inr (0, [.ref r, .int (iI z)])), (r, .inl (cA, w, .inl (fun j => bI (t j))))] := hD
        have hK : va_K (dC, dI) vwCl [(cR, .int), (cA, .byte)] s := hK
        obtain ⟨rfl, rfl, rfl⟩ := hw
        refine W.eq (g2 := F0 m 54 ls [.int (iI (cat L V a j)), .long (lI (y * 256))]) rfl ?_
        refine li_i2l hx hb (by omega) dX2_signedContents_54 ?_
        refine li_lor8 hx hb (by omega) dX2_signedContents_55 ?_
        refine li_nml (fun z5 ez5 => ?_)
        refine lv_lstore_n (lv' := [(2, .long (lI z5)), (0, .ref nd), (1, .int (iI a)), (4, .int (iI g)), (5, .int (iI j))]) hx hb dX2_signedContents_56 rfl hl (by decide) rfl (fun ls hl => ?_)
        obtain ⟨z6, ez6⟩ : ∃ y : Int, y = j + 1 := ⟨_, rfl⟩
        refine lv_iinc (v := iI z6) (lv' := [(5, .int (iI z6)), (2, .long (lI z5)), (0, .ref nd), (1, .int (iI a)), (4, .int (iI g))]) hx hb dX2_signedContents_57 hl (k := 4) rfl (by rw [ez6]; exact iI_add _ _) (by decide) rfl (fun ls hl => ?_)
        refine lv_goto (tgt := 36) hx hb dX2_signedContents_60 (by decide) ?_
        have z6_eq : z6 = j + 1 := by omega
        exact ih z5 z6 g _ _ _ _ _ (by omega) (by omega) (by rw [hn, z6_eq]; exact sfold_s (by omega) (by omega)) (by omega) (hK.sub [0, 1] rfl) (hP.sub [0, 1, 2, 3] rfl) (hD.sub [0, 1, 2, 3] (by decide) rfl) hS (lv_sub hl [2, 3, 1, 4, 0] rfl)
  refine lv_aload_n hx hb dX2_signedContents_0 rfl (lv_at hl 0 rfl) ?_
  refine lv_iload_n hx hb dX2_signedContents_1 rfl (lv_at hl 1 rfl) ?_
  refine lv_iconst (v := iI 0) hx hb dX2_signedContents_2 rfl ?_
  have hPc := hP.sub (ws' := [(nd, .inr (2, [.ref b, .ref h, .ref rw, .int (iI mn), .int (iI sx)])), (rw, .inl (cR, M, .inl (fun j => iI (V j)))), (b, .inr (0, [.ref r, .int (iI z)])), (r, .inl (cA, w, .inl (fun j => bI (t j))))]) [0, 1, 2, 3] rfl
  have hDc := hD.sub (ws' := [(nd, .inr (2, [.ref b, .ref h, .ref rw, .int (iI mn), .int (iI sx)])), (rw, .inl (cR, M, .inl (fun j => iI (V j)))), (b, .inr (0, [.ref r, .int (iI z)])), (r, .inl (cA, w, .inl (fun j => bI (t j))))]) [0, 1, 2, 3] (by decide) rfl
  have hKc := hK.sub (tys' := [(cR, .int), (cA, .byte)]) [0, 1] rfl
  have hFc := va_free (wc := [(nd, .inr (2, [.ref b, .ref h, .ref rw, .int (iI mn), .int (iI sx)])), (rw, .inl (cR, M, .inl (fun j => iI (V j)))), (b, .inr (0, [.ref r, .int (iI z)])), (r, .inl (cA, w, .inl (fun j => bI (t j))))]) hD hS hA [0, 1, 2, 3] rfl
  refine mv_call (mv_runV (As := [.int (iI a), .int (iI 0)]) (rest := []) ⟨hx, hb, hml, hown, hT⟩ (c_N_cat l dC dI s.heap.size nd b h rw mn sx cR M V r cA w t z L a 0 (by omega) (hok) (by omega) (by omega)) (cwV 2 hT (gV wd418 wd420 wd13 wd28 wd421) rfl rfl rfl (by decide +kernel) ⟨show 3 + 1 ≤ 4 from by omega, show 8 + (3 + 11) + 100 ≤ 130 from by omega⟩) ⟨fun a U g mk q => by obtain ⟨q0, q1, qP, qK, qD⟩ := q; exact ⟨q0, q1, qP, va_K.moved (u := U) (U := U.calling g mk a) (Vm.Alike.refl U.vm) qK, qD⟩, va_recv hKc hPc (ci := 2) (q0 := 0) rfl rfl, fun U hU hW => ⟨rfl, by rw [hU], by rw [hU]; exact hPc, va_K.moved hW.alike hKc, hDc.weaken (fun _ _ _ _ => trivial)⟩⟩ rfl rfl hl.1 rfl (lv_room (Nat.le_of_ble_eq_true rfl)) dX2_signedContents_3 ⟨show 0 + 0 ≤ 0 from by omega, show 0 + 0 ≤ 0 from by omega⟩) hS (fun q _ h => hFc q h) hFc (fun v9 u k7 n8 tS H1 locs ht hvm hw hB hz1 hk1 hS => ?_)
  obtain ⟨hP1, hK1, hD1⟩ := hB
  rw [ht] at hP1
  have hK1 := va_K.moved hvm.symm hK1
  try dsimp only at hw
  obtain ⟨hP, hD⟩ := va_join (wr := []) (w1 := [(nd, .inr (2, [.ref b, .ref h, .ref rw, .int (iI mn), .int (iI sx)])), (rw, .inl (cR, M, .inl (fun j => iI (V j)))), (b, .inr (0, [.ref r, .int (iI z)])), (r, .inl (cA, w, .inl (fun j => bI (t j))))]) hP hD [0, 1, 2, 3] [] rfl rfl (by decide) (by decide) hk1 hFc hP1 hD1
  have hK := (hK.sub (tys' := []) [] rfl).app hK1
  generalize H1 = H at hP hS ⊢
  have hP : va_P (dC, dI) vwCl [(nd, .inr (2, [.ref b, .ref h, .ref rw, .int (iI mn), .int (iI sx)])), (rw, .inl (cR, M, .inl (fun j => iI (V j)))), (b, .inr (0, [.ref r, .int (iI z)])), (r, .inl (cA, w, .inl (fun j => bI (t j))))] H := hP
  have hD : va_D A [(nd, .inr (2, [.ref b, .ref h, .ref rw, .int (iI mn), .int (iI sx)])), (rw, .inl (cR, M, .inl (fun j => iI (V j)))), (b, .inr (0, [.ref r, .int (iI z)])), (r, .inl (cA, w, .inl (fun j => bI (t j))))] := hD
  have hK : va_K (dC, dI) vwCl [(cR, .int), (cA, .byte)] s := hK
  obtain ⟨rfl, rfl, rfl⟩ := hw
  refine W.eq (g2 := F0 m 6 ls [.int (iI (cat L V a 0))]) rfl ?_
  refine lv_sipush (v := iI 128) hx hb dX2_signedContents_6 (by decide +kernel) ?_
  refine li_icmp_lt (tgt := 18) hx hb (by omega) (by omega) dX2_signedContents_9 (by decide) (fun c10 => ?_) (fun c10 => ?_)
  · skip
    refine lv_lconst (v := lI 0) hx hb dX2_signedContents_18 (by decide +kernel) ?_
    refine lv_lstore_n (lv' := [(2, .long (lI 0)), (0, .ref nd), (1, .int (iI a))]) hx hb dX2_signedContents_19 rfl hl (by decide) rfl (fun ls hl => ?_)
    refine lv_aload_n hx hb dX2_signedContents_20 rfl (lv_at hl 1 rfl) ?_
    refine lv_iload_n hx hb dX2_signedContents_21 rfl (lv_at hl 2 rfl) ?_
    refine lv_iconst (v := iI 5) hx hb dX2_signedContents_22 rfl ?_
    have hPc := hP.sub (ws' := [(nd, .inr (2, [.ref b, .ref h, .ref rw, .int (iI mn), .int (iI sx)])), (rw, .inl (cR, M, .inl (fun j => iI (V j))))]) [0, 1] rfl
    have hDc := hD.sub (ws' := [(nd, .inr (2, [.ref b, .ref h, .ref rw, .int (iI mn), .int (iI sx)])), (rw, .inl (cR, M, .inl (fun j => iI (V j))))]) [0, 1] (by decide) rfl
    have hKc := hK.sub (tys' := [(cR, .int)]) [0] rfl
    have hFc := va_free (wc := [(nd, .inr (2, [.ref b, .ref h, .ref rw, .int (iI mn), .int (iI sx)])), (rw, .inl (cR, M, .inl (fun j => iI (V j))))]) hD hS hA [0, 1] rfl
    refine mv_call (mv_runV (As := [.int (iI a), .int (iI 5)]) (rest := []) ⟨hx, hb, hml, hown, hT⟩ (c_N_get l dC dI H.size nd b h rw mn sx cR M V a 5 (by omega) (by omega) (by omega) (hn6) (by omega) (by omega)) (cwV 2 hT (gV wd361 wd362 wd363 wd28 wd364) rfl rfl rfl (by decide +kernel) ⟨show 2 + 1 ≤ 4 from by omega, show 8 + (4 + 11) + 70 ≤ 130 from by omega⟩) ⟨fun a U g mk q => by obtain ⟨q0, q1, qP, qK, qD⟩ := q; exact ⟨q0, q1, qP, va_K.moved (u := U) (U := U.calling g mk a) (Vm.Alike.refl U.vm) qK, qD⟩, va_recv hKc hPc (ci := 2) (q0 := 0) rfl rfl, fun U hU hW => ⟨rfl, by rw [hU], by rw [hU]; exact hPc, va_K.moved hW.alike hKc, hDc.weaken (fun _ _ _ _ => trivial)⟩⟩ rfl rfl hl.1 rfl (lv_room (Nat.le_of_ble_eq_true rfl)) dX2_signedContents_23 ⟨show 0 + 0 + 0 ≤ 0 from by omega, show 0 + 0 + 0 ≤ 0 from by omega⟩) hS (fun q _ h => hFc q h) hFc (fun v13 u k11 n12 tS H1 locs ht hvm hw hB hz1 hk1 hS => ?_)
    obtain ⟨q14, rfl⟩ : ∃ y, y = u := ⟨_, rfl⟩
    obtain ⟨hP1, hK1, hD1⟩ := hB
    rw [ht] at hP1
    have hK1 := va_K.moved hvm.symm hK1
    try dsimp only at hw
    obtain ⟨hP, hD⟩ := va_join (wr := [(b, .inr (0, [.ref r, .int (iI z)])), (r, .inl (cA, w, .inl (fun j => bI (t j))))]) (w1 := [(nd, .inr (2, [.ref b, .ref h, .ref rw, .int (iI mn), .int (iI sx)])), (rw, .inl (cR, M, .inl (fun j => iI (V j))))]) hP hD [0, 1] [2, 3] rfl rfl (by decide) (by decide) hk1 hFc hP1 hD1
    have hK := (hK.sub (tys' := [(cA, .byte)]) [1] rfl).app hK1
    generalize H1 = H at hP hS ⊢
    have hP : va_P (dC, dI) vwCl [(b, .inr (0, [.ref r, .int (iI z)])), (r, .inl (cA, w, .inl (fun j => bI (t j)))), (nd, .inr (2, [.ref b, .ref h, .ref rw, .int (iI mn), .int (iI sx)])), (rw, .inl (cR, M, .inl (fun j => iI (V j))))] H := hP
    have hD : va_D A [(b, .inr (0, [.ref r, .int (iI z)])), (r, .inl (cA, w, .inl (fun j => bI (t j)))), (nd, .inr (2, [.ref b, .ref h, .ref rw, .int (iI mn), .int (iI sx)])), (rw, .inl (cR, M, .inl (fun j => iI (V j))))] := hD
    have hK : va_K (dC, dI) vwCl [(cA, .byte), (cR, .int)] s := hK
    obtain ⟨rfl, hqv13, hrv13, rfl, rfl⟩ := hw
    refine W.eq (g2 := F0 m 26 ls [.int (iI q14)]) rfl ?_
    refine lv_bipush (v := iI 8) hx hb dX2_signedContents_26 (by decide +kernel) ?_
    refine li_mmin hx hb (hml.trans hl.1.symm) hown (hT _ wd340) (hT _ wd218) (hT _ wd35) (hT _ wd219) (by show 1 ≤ 4; omega) (by show 0 + 13 ≤ 130; omega) (by show 0 + 0 + 0 ≤ 0; omega) (by show 0 + 0 + 0 ≤ 0; omega) (by omega) (by omega) dX2_signedContents_28 ?_
    refine li_nm (fun z15 ez15 => ?_)
    refine lv_istore (lv' := [(4, .int (iI z15)), (2, .long (lI 0)), (0, .ref nd), (1, .int (iI a))]) hx hb dX2_signedContents_31 hl (by decide) rfl (fun ls hl => ?_)
    refine lv_iconst (v := iI 0) hx hb dX2_signedContents_33 rfl ?_
    refine lv_istore (lv' := [(5, .int (iI 0)), (4, .int (iI z15)), (2, .long (lI 0)), (0, .ref nd), (1, .int (iI a))]) hx hb dX2_signedContents_34 hl (by decide) rfl (fun ls hl => ?_)
    exact LP (1000) 0 0 z15 _ _ _ _ _ (by omega) (by omega) (by unfold sgn; rw [Int.sub_zero, show min (V (a * 8 + 5).toNat) 8 = z15 by omega]; congr 1; first | (rw [if_pos (by omega)]; done) | (rw [if_neg (by omega)]; done)) (by omega) (hK.sub [1, 0] rfl) (hP.sub [2, 3, 0, 1] rfl) (hD.sub [2, 3, 0, 1] (by decide) rfl) hS (lv_sub hl [3, 4, 2, 1, 0] rfl)
  · skip
    refine lv_ldc2 (v := lI (-1)) hx hb hown (by rw [show lI (-1) = (-1 : Int64) by decide +kernel]; exact hT _ wd442) dX2_signedContents_12 ?_
    refine lv_goto (tgt := 19) hx hb dX2_signedContents_15 (by decide) ?_
    refine lv_lstore_n (lv' := [(2, .long (lI (-1))), (0, .ref nd), (1, .int (iI a))]) hx hb dX2_signedContents_19 rfl hl (by decide) rfl (fun ls hl => ?_)
    refine lv_aload_n hx hb dX2_signedContents_20 rfl (lv_at hl 1 rfl) ?_
    refine lv_iload_n hx hb dX2_signedContents_21 rfl (lv_at hl 2 rfl) ?_
    refine lv_iconst (v := iI 5) hx hb dX2_signedContents_22 rfl ?_
    have hPc := hP.sub (ws' := [(nd, .inr (2, [.ref b, .ref h, .ref rw, .int (iI mn), .int (iI sx)])), (rw, .inl (cR, M, .inl (fun j => iI (V j))))]) [0, 1] rfl
    have hDc := hD.sub (ws' := [(nd, .inr (2, [.ref b, .ref h, .ref rw, .int (iI mn), .int (iI sx)])), (rw, .inl (cR, M, .inl (fun j => iI (V j))))]) [0, 1] (by decide) rfl
    have hKc := hK.sub (tys' := [(cR, .int)]) [0] rfl
    have hFc := va_free (wc := [(nd, .inr (2, [.ref b, .ref h, .ref rw, .int (iI mn), .int (iI sx)])), (rw, .inl (cR, M, .inl (fun j => iI (V j))))]) hD hS hA [0, 1] rfl
    refine mv_call (mv_runV (As := [.int (iI a), .int (iI 5)]) (rest := []) ⟨hx, hb, hml, hown, hT⟩ (c_N_get l dC dI H.size nd b h rw mn sx cR M V a 5 (by omega) (by omega) (by omega) (hn6) (by omega) (by omega)) (cwV 2 hT (gV wd361 wd362 wd363 wd28 wd364) rfl rfl rfl (by decide +kernel) ⟨show 2 + 1 ≤ 4 from by omega, show 8 + (4 + 11) + 70 ≤ 130 from by omega⟩) ⟨fun a U g mk q => by obtain ⟨q0, q1, qP, qK, qD⟩ := q; exact ⟨q0, q1, qP, va_K.moved (u := U) (U := U.calling g mk a) (Vm.Alike.refl U.vm) qK, qD⟩, va_recv hKc hPc (ci := 2) (q0 := 0) rfl rfl, fun U hU hW => ⟨rfl, by rw [hU], by rw [hU]; exact hPc, va_K.moved hW.alike hKc, hDc.weaken (fun _ _ _ _ => trivial)⟩⟩ rfl rfl hl.1 rfl (lv_room (Nat.le_of_ble_eq_true rfl)) dX2_signedContents_23 ⟨show 0 + 0 + 0 ≤ 0 from by omega, show 0 + 0 + 0 ≤ 0 from by omega⟩) hS (fun q _ h => hFc q h) hFc (fun v18 u k16 n17 tS H1 locs ht hvm hw hB hz1 hk1 hS => ?_)
    obtain ⟨q19, rfl⟩ : ∃ y, y = u := ⟨_, rfl⟩
    obtain ⟨hP1, hK1, hD1⟩ := hB
    rw [ht] at hP1
    have hK1 := va_K.moved hvm.symm hK1
    try dsimp only at hw
    obtain ⟨hP, hD⟩ := va_join (wr := [(b, .inr (0, [.ref r, .int (iI z)])), (r, .inl (cA, w, .inl (fun j => bI (t j))))]) (w1 := [(nd, .inr (2, [.ref b, .ref h, .ref rw, .int (iI mn), .int (iI sx)])), (rw, .inl (cR, M, .inl (fun j => iI (V j))))]) hP hD [0, 1] [2, 3] rfl rfl (by decide) (by decide) hk1 hFc hP1 hD1
    have hK := (hK.sub (tys' := [(cA, .byte)]) [1] rfl).app hK1
    generalize H1 = H at hP hS ⊢
    have hP : va_P (dC, dI) vwCl [(b, .inr (0, [.ref r, .int (iI z)])), (r, .inl (cA, w, .inl (fun j => bI (t j)))), (nd, .inr (2, [.ref b, .ref h, .ref rw, .int (iI mn), .int (iI sx)])), (rw, .inl (cR, M, .inl (fun j => iI (V j))))] H := hP
    have hD : va_D A [(b, .inr (0, [.ref r, .int (iI z)])), (r, .inl (cA, w, .inl (fun j => bI (t j)))), (nd, .inr (2, [.ref b, .ref h, .ref rw, .int (iI mn), .int (iI sx)])), (rw, .inl (cR, M, .inl (fun j => iI (V j))))] := hD
    have hK : va_K (dC, dI) vwCl [(cA, .byte), (cR, .int)] s := hK
    obtain ⟨rfl, hqv18, hrv18, rfl, rfl⟩ := hw
    refine W.eq (g2 := F0 m 26 ls [.int (iI q19)]) rfl ?_
    refine lv_bipush (v := iI 8) hx hb dX2_signedContents_26 (by decide +kernel) ?_
    refine li_mmin hx hb (hml.trans hl.1.symm) hown (hT _ wd340) (hT _ wd218) (hT _ wd35) (hT _ wd219) (by show 1 ≤ 4; omega) (by show 0 + 13 ≤ 130; omega) (by show 0 + 0 + 0 ≤ 0; omega) (by show 0 + 0 + 0 ≤ 0; omega) (by omega) (by omega) dX2_signedContents_28 ?_
    refine li_nm (fun z20 ez20 => ?_)
    refine lv_istore (lv' := [(4, .int (iI z20)), (2, .long (lI (-1))), (0, .ref nd), (1, .int (iI a))]) hx hb dX2_signedContents_31 hl (by decide) rfl (fun ls hl => ?_)
    refine lv_iconst (v := iI 0) hx hb dX2_signedContents_33 rfl ?_
    refine lv_istore (lv' := [(5, .int (iI 0)), (4, .int (iI z20)), (2, .long (lI (-1))), (0, .ref nd), (1, .int (iI a))]) hx hb dX2_signedContents_34 hl (by decide) rfl (fun ls hl => ?_)
    exact LP (1000) (-1) 0 z20 _ _ _ _ _ (by omega) (by omega) (by unfold sgn; rw [Int.sub_zero, show min (V (a * 8 + 5).toNat) 8 = z20 by omega]; congr 1; first | (rw [if_pos (by omega)]; done) | (rw [if_neg (by omega)]; done)) (by omega) (hK.sub [1, 0] rfl) (hP.sub [2, 3, 0, 1] rfl) (hD.sub [2, 3, 0, 1] (by decide) rfl) hS (lv_sub hl [3, 4, 2, 1, 0] rfl)
set_option maxHeartbeats 4000000 in
set_option maxRecDepth 100000 in
theorem c_N_ord (l : Launch) (dC : Nat → ClassId) (dI : Nat → Nat → Nat) (sz : Nat) (nd : Nat) (b : Nat) (h : Nat) (rw : Nat) (mn : Int) (sx : Int) (cR : ClassId) (M : Nat) (V : Nat → Int) (r : Nat) (cA : ClassId) (w : Nat) (t : Nat → Int) (z : Int) (L : List Int) (a : Int) (a2 : Int) (hoN : okN M V mn) (hok : okB w t z L) (ha : 0 ≤ a ∧ a < mn) (ha2 : 0 ≤ a2 ∧ a2 < mn) : mv_Met l yX2_orderOf wsX2_orderOf ({ frames := 4, cells := 0, slots := 0, locals := 130 }) (va_Pc [.ref nd, .int (iI a), .int (iI a2)] (fun U => U.heap.size = sz ∧ va_P (dC, dI) vwCl [(nd, .inr (2, [.ref b, .ref h, .ref rw, .int (iI mn), .int (iI sx)])), (rw, .inl (cR, M, .inl (fun j => iI (V j)))), (b, .inr (0, [.ref r, .int (iI z)])), (r, .inl (cA, w, .inl (fun j => bI (t j))))] U.heap ∧ va_K (dC, dI) vwCl [(cR, .int), (cA, .byte)] U ∧ va_D (fun _ => True) [(nd, .inr (2, [.ref b, .ref h, .ref rw, .int (iI mn), .int (iI sx)])), (rw, .inl (cR, M, .inl (fun j => iI (V j)))), (b, .inr (0, [.ref r, .int (iI z)])), (r, .inl (cA, w, .inl (fun j => bI (t j))))])) (mv_Q (fun (v : Option Value) (_ : Unit) (k n : Nat) => v = some (.int (iI (ord2 L V a a2))) ∧ k = 0 ∧ n = 0) (fun (_ : Unit) (tS : State) => va_P (dC, dI) vwCl [(nd, .inr (2, [.ref b, .ref h, .ref rw, .int (iI mn), .int (iI sx)])), (rw, .inl (cR, M, .inl (fun j => iI (V j)))), (b, .inr (0, [.ref r, .int (iI z)])), (r, .inl (cA, w, .inl (fun j => bI (t j))))] tS.heap ∧ va_K (dC, dI) vwCl [(cR, .int), (cA, .byte)] tS ∧ va_D (va_A [(nd, .inr (2, [.ref b, .ref h, .ref rw, .int (iI mn), .int (iI sx)])), (rw, .inl (cR, M, .inl (fun j => iI (V j)))), (b, .inr (0, [.ref r, .int (iI z)])), (r, .inl (cA, w, .inl (fun j => bI (t j))))] sz) [(nd, .inr (2, [.ref b, .ref h, .ref rw, .int (iI mn), .int (iI sx)])), (rw, .inl (cR, M, .inl (fun j => iI (V j)))), (b, .inr (0, [.ref r, .int (iI z)])), (r, .inl (cA, w, .inl (fun j => bI (t j))))]) (va_A [(nd, .inr (2, [.ref b, .ref h, .ref rw, .int (iI mn), .int (iI sx)])), (rw, .inl (cR, M, .inl (fun j => iI (V j)))), (b, .inr (0, [.ref r, .int (iI z)])), (r, .inl (cA, w, .inl (fun j => bI (t j))))] sz)) (va_A [(nd, .inr (2, [.ref b, .ref h, .ref rw, .int (iI mn), .int (iI sx)])), (rw, .inl (cR, M, .inl (fun j => iI (V j)))), (b, .inr (0, [.ref r, .int (iI z)])), (r, .inl (cA, w, .inl (fun j => bI (t j))))] sz) := by
  refine mv_ofW (cc := cX2_orderOf) (maxL := 6) (ret := (some .int)) (by decide) rfl ?_
  intro p e s m args below meth c s₁ B hml hv
  obtain ⟨rfl, hsz, hP, hK, hD0⟩ := hv
  have hx := B.exec
  have hb := B.bytes
  have hr := B.returns
  have hT : ∀ w ∈ wT, w.before _ s = true := fun w h => atoms_spec (ws := wsX2_orderOf) B.pre w (List.mem_cons_of_mem _ h)
  have hown : s.vm.findClass RX2 = some m.cls := findClass_of_methodNamed B.named
  have hlocks := B.notSynchronized
  subst hsz
  have hD := hD0.self (sz := s.heap.size)
  generalize hAe : va_A [(nd, .inr (2, [.ref b, .ref h, .ref rw, .int (iI mn), .int (iI sx)])), (rw, .inl (cR, M, .inl (fun j => iI (V j)))), (b, .inr (0, [.ref r, .int (iI z)])), (r, .inl (cA, w, .inl (fun j => bI (t j))))] s.heap.size = A at hD ⊢
  have hA : ∀ q : Nat, s.heap.size ≤ q → A q := fun q h => by rw [← hAe]; exact Or.inr h
  have hS : va_S A s.heap s.heap [] := va_S.rf
  have hP : va_P (dC, dI) vwCl [(nd, .inr (2, [.ref b, .ref h, .ref rw, .int (iI mn), .int (iI sx)])), (rw, .inl (cR, M, .inl (fun j => iI (V j)))), (b, .inr (0, [.ref r, .int (iI z)])), (r, .inl (cA, w, .inl (fun j => bI (t j))))] s.heap := hP
  have hl := lv_entry ([.ref nd, .int (iI a), .int (iI a2)]) (n := 6) (Nat.le_of_ble_eq_true rfl)
  rw [lg_entry_eq]
  generalize (lg_sl ([.ref nd, .int (iI a), .int (iI a2)]) ++ List.replicate (6 - (lg_sl ([.ref nd, .int (iI a), .int (iI a2)])).length) Slot.unset).toArray = ls at hl ⊢
  have hl : lv_has ls 6 [(0, .ref nd), (1, .int (iI a)), (2, .int (iI a2))] := hl
  obtain ⟨hn1, hn2, hn3, hn4, hn5, hn6, hn7⟩ := id hoN
  obtain ⟨hw1, hw2, hw3, hw4, hw5, hw6⟩ := id hok
  have hna := hn7 a ha.1 ha.2
  have hna2 := hn7 a2 ha2.1 ha2.2
  refine mv_nameQ (fun Q9 hQ9 => ?_)
  have LP : ∀ (fu : Nat) (j : Int) (g : Int) (H : Heap) (locs : List Loc) (ls : Array Slot) (kc ks : Nat), (g - j < (fu : Int)) → (0 ≤ j ∧ j ≤ g ∧ g ≤ 4096) → (ord2 L V a a2 = ordr (cat L V a) (cat L V a2) (g - j).toNat j) → (kc = 0 ∧ ks = 0) → va_K (dC, dI) vwCl [(cR, .int), (cA, .byte)] s → va_P (dC, dI) vwCl [(nd, .inr (2, [.ref b, .ref h, .ref rw, .int (iI mn), .int (iI sx)])), (rw, .inl (cR, M, .inl (fun j => iI (V j)))), (b, .inr (0, [.ref r, .int (iI z)])), (r, .inl (cA, w, .inl (fun j => bI (t j))))] H → va_D A [(nd, .inr (2, [.ref b, .ref h, .ref rw, .int (iI mn), .int (iI sx)])), (rw, .inl (cR, M, .inl (fun j => iI (V j)))), (b, .inr (0, [.ref r, .int (iI z)])), (r, .inl (cA, w, .inl (fun j => bI (t j))))] → va_S A s.heap H locs → lv_has ls 6 [(0, .ref nd), (1, .int (iI a)), (2, .int (iI a2)), (3, .int (iI g)), (4, .int (iI j))] → W p l e ({ frames := 4, cells := 0, slots := 0, locals := 130 }) s m ([.ref nd, .int (iI a), .int (iI a2)] : List Value).toArray below meth c H locs kc ks Q9 (F0 m 25 ls []) := by
    intro fu
    induction fu with
    | zero =>
      intro j g H locs ls kc ks hfu hj hn hkc hK hP hD hS hl
      exfalso
      omega
    | succ fu ih =>
      intro j g H locs ls kc ks hfu hj hn hkc hK hP hD hS hl
      have hcj := cat_rng hok V a j
      have hcj2 := cat_rng hok V a2 j
      refine lv_iload hx hb dX2_orderOf_25 (lv_at hl 4 rfl) ?_
      refine lv_iload_n hx hb dX2_orderOf_27 rfl (lv_at hl 3 rfl) ?_
      refine li_icmp_ge (tgt := 64) hx hb (by omega) (by omega) dX2_orderOf_28 (by decide) (fun c1 => ?_) (fun c1 => ?_)
      · skip
        refine lv_iconst (v := iI 0) hx hb dX2_orderOf_64 rfl ?_
        subst hQ9
        have hP9 := hP.sub (ws' := [(nd, .inr (2, [.ref b, .ref h, .ref rw, .int (iI mn), .int (iI sx)])), (rw, .inl (cR, M, .inl (fun j => iI (V j)))), (b, .inr (0, [.ref r, .int (iI z)])), (r, .inl (cA, w, .inl (fun j => bI (t j))))]) [0, 1, 2, 3] rfl
        have hD9 := hD.sub (ws' := [(nd, .inr (2, [.ref b, .ref h, .ref rw, .int (iI mn), .int (iI sx)])), (rw, .inl (cR, M, .inl (fun j => iI (V j)))), (b, .inr (0, [.ref r, .int (iI z)])), (r, .inl (cA, w, .inl (fun j => bI (t j))))]) [0, 1, 2, 3] (by decide) rfl
        have hK9 := hK.sub (tys' := [(cR, .int), (cA, .byte)]) [0, 1] rfl
        exact mv_iret hx hb hr hlocks (fun tS ht hW => ⟨⟨_, (), rfl, ⟨sI (by rw [hn]; exact (ordr_e (by omega)).symm), by omega, by omega⟩, by rw [ht]; exact hP9, va_K.moved hW.alike hK9, hD9⟩, hS.F ht⟩) hS.2.2 dX2_orderOf_65
      · skip
        refine lv_aload_n hx hb dX2_orderOf_31 rfl (lv_at hl 0 rfl) ?_
        refine lv_iload_n hx hb dX2_orderOf_32 rfl (lv_at hl 1 rfl) ?_
        refine lv_iload hx hb dX2_orderOf_33 (lv_at hl 4 rfl) ?_
        have hPc := hP.sub (ws' := [(nd, .inr (2, [.ref b, .ref h, .ref rw, .int (iI mn), .int (iI sx)])), (rw, .inl (cR, M, .inl (fun j => iI (V j)))), (b, .inr (0, [.ref r, .int (iI z)])), (r, .inl (cA, w, .inl (fun j => bI (t j))))]) [0, 1, 2, 3] rfl
        have hDc := hD.sub (ws' := [(nd, .inr (2, [.ref b, .ref h, .ref rw, .int (iI mn), .int (iI sx)])), (rw, .inl (cR, M, .inl (fun j => iI (V j)))), (b, .inr (0, [.ref r, .int (iI z)])), (r, .inl (cA, w, .inl (fun j => bI (t j))))]) [0, 1, 2, 3] (by decide) rfl
        have hKc := hK.sub (tys' := [(cR, .int), (cA, .byte)]) [0, 1] rfl
        have hFc := va_free (wc := [(nd, .inr (2, [.ref b, .ref h, .ref rw, .int (iI mn), .int (iI sx)])), (rw, .inl (cR, M, .inl (fun j => iI (V j)))), (b, .inr (0, [.ref r, .int (iI z)])), (r, .inl (cA, w, .inl (fun j => bI (t j))))]) hD hS hA [0, 1, 2, 3] rfl
        refine mv_call (mv_runV (As := [.int (iI a), .int (iI j)]) (rest := []) ⟨hx, hb, hml, hown, hT⟩ (c_N_cat l dC dI H.size nd b h rw mn sx cR M V r cA w t z L a j (by omega) (hok) (by omega) (by omega)) (cwV 2 hT (gV wd418 wd420 wd13 wd28 wd421) rfl rfl rfl (by decide +kernel) ⟨show 3 + 1 ≤ 4 from by omega, show 8 + (3 + 11) + 100 ≤ 130 from by omega⟩) ⟨fun a U g mk q => by obtain ⟨q0, q1, qP, qK, qD⟩ := q; exact ⟨q0, q1, qP, va_K.moved (u := U) (U := U.calling g mk a) (Vm.Alike.refl U.vm) qK, qD⟩, va_recv hKc hPc (ci := 2) (q0 := 0) rfl rfl, fun U hU hW => ⟨rfl, by rw [hU], by rw [hU]; exact hPc, va_K.moved hW.alike hKc, hDc.weaken (fun _ _ _ _ => trivial)⟩⟩ rfl rfl hl.1 rfl (lv_room (Nat.le_of_ble_eq_true rfl)) dX2_orderOf_35 ⟨show kc + 0 ≤ 0 from by omega, show ks + 0 ≤ 0 from by omega⟩) hS (fun q _ h => hFc q h) hFc (fun v4 u k2 n3 tS H1 locs ht hvm hw hB hz1 hk1 hS => ?_)
        obtain ⟨hP1, hK1, hD1⟩ := hB
        rw [ht] at hP1
        have hK1 := va_K.moved hvm.symm hK1
        try dsimp only at hw
        obtain ⟨hP, hD⟩ := va_join (wr := []) (w1 := [(nd, .inr (2, [.ref b, .ref h, .ref rw, .int (iI mn), .int (iI sx)])), (rw, .inl (cR, M, .inl (fun j => iI (V j)))), (b, .inr (0, [.ref r, .int (iI z)])), (r, .inl (cA, w, .inl (fun j => bI (t j))))]) hP hD [0, 1, 2, 3] [] rfl rfl (by decide) (by decide) hk1 hFc hP1 hD1
        have hK := (hK.sub (tys' := []) [] rfl).app hK1
        generalize H1 = H at hP hS ⊢
        have hP : va_P (dC, dI) vwCl [(nd, .inr (2, [.ref b, .ref h, .ref rw, .int (iI mn), .int (iI sx)])), (rw, .inl (cR, M, .inl (fun j => iI (V j)))), (b, .inr (0, [.ref r, .int (iI z)])), (r, .inl (cA, w, .inl (fun j => bI (t j))))] H := hP
        have hD : va_D A [(nd, .inr (2, [.ref b, .ref h, .ref rw, .int (iI mn), .int (iI sx)])), (rw, .inl (cR, M, .inl (fun j => iI (V j)))), (b, .inr (0, [.ref r, .int (iI z)])), (r, .inl (cA, w, .inl (fun j => bI (t j))))] := hD
        have hK : va_K (dC, dI) vwCl [(cR, .int), (cA, .byte)] s := hK
        obtain ⟨rfl, rfl, rfl⟩ := hw
        refine W.eq (g2 := F0 m 38 ls [.int (iI (cat L V a j))]) rfl ?_
        refine lv_aload_n hx hb dX2_orderOf_38 rfl (lv_at hl 0 rfl) ?_
        refine lv_iload_n hx hb dX2_orderOf_39 rfl (lv_at hl 2 rfl) ?_
        refine lv_iload hx hb dX2_orderOf_40 (lv_at hl 4 rfl) ?_
        have hPc := hP.sub (ws' := [(nd, .inr (2, [.ref b, .ref h, .ref rw, .int (iI mn), .int (iI sx)])), (rw, .inl (cR, M, .inl (fun j => iI (V j)))), (b, .inr (0, [.ref r, .int (iI z)])), (r, .inl (cA, w, .inl (fun j => bI (t j))))]) [0, 1, 2, 3] rfl
        have hDc := hD.sub (ws' := [(nd, .inr (2, [.ref b, .ref h, .ref rw, .int (iI mn), .int (iI sx)])), (rw, .inl (cR, M, .inl (fun j => iI (V j)))), (b, .inr (0, [.ref r, .int (iI z)])), (r, .inl (cA, w, .inl (fun j => bI (t j))))]) [0, 1, 2, 3] (by decide) rfl
        have hKc := hK.sub (tys' := [(cR, .int), (cA, .byte)]) [0, 1] rfl
        have hFc := va_free (wc := [(nd, .inr (2, [.ref b, .ref h, .ref rw, .int (iI mn), .int (iI sx)])), (rw, .inl (cR, M, .inl (fun j => iI (V j)))), (b, .inr (0, [.ref r, .int (iI z)])), (r, .inl (cA, w, .inl (fun j => bI (t j))))]) hD hS hA [0, 1, 2, 3] rfl
        refine mv_call (mv_runV (As := [.int (iI a2), .int (iI j)]) (rest := [.int (iI (cat L V a j))]) ⟨hx, hb, hml, hown, hT⟩ (c_N_cat l dC dI H.size nd b h rw mn sx cR M V r cA w t z L a2 j (by omega) (hok) (by omega) (by omega)) (cwV 2 hT (gV wd418 wd420 wd13 wd28 wd421) rfl rfl rfl (by decide +kernel) ⟨show 3 + 1 ≤ 4 from by omega, show 8 + (3 + 11) + 100 ≤ 130 from by omega⟩) ⟨fun a U g mk q => by obtain ⟨q0, q1, qP, qK, qD⟩ := q; exact ⟨q0, q1, qP, va_K.moved (u := U) (U := U.calling g mk a) (Vm.Alike.refl U.vm) qK, qD⟩, va_recv hKc hPc (ci := 2) (q0 := 0) rfl rfl, fun U hU hW => ⟨rfl, by rw [hU], by rw [hU]; exact hPc, va_K.moved hW.alike hKc, hDc.weaken (fun _ _ _ _ => trivial)⟩⟩ rfl rfl hl.1 rfl (lv_room (Nat.le_of_ble_eq_true rfl)) dX2_orderOf_42 ⟨show kc + 0 + 0 ≤ 0 from by omega, show ks + 0 + 0 ≤ 0 from by omega⟩) hS (fun q _ h => hFc q h) hFc (fun v7 u k5 n6 tS H1 locs ht hvm hw hB hz1 hk1 hS => ?_)
        obtain ⟨hP1, hK1, hD1⟩ := hB
        rw [ht] at hP1
        have hK1 := va_K.moved hvm.symm hK1
        try dsimp only at hw
        obtain ⟨hP, hD⟩ := va_join (wr := []) (w1 := [(nd, .inr (2, [.ref b, .ref h, .ref rw, .int (iI mn), .int (iI sx)])), (rw, .inl (cR, M, .inl (fun j => iI (V j)))), (b, .inr (0, [.ref r, .int (iI z)])), (r, .inl (cA, w, .inl (fun j => bI (t j))))]) hP hD [0, 1, 2, 3] [] rfl rfl (by decide) (by decide) hk1 hFc hP1 hD1
        have hK := (hK.sub (tys' := []) [] rfl).app hK1
        generalize H1 = H at hP hS ⊢
        have hP : va_P (dC, dI) vwCl [(nd, .inr (2, [.ref b, .ref h, .ref rw, .int (iI mn), .int (iI sx)])), (rw, .inl (cR, M, .inl (fun j => iI (V j)))), (b, .inr (0, [.ref r, .int (iI z)])), (r, .inl (cA, w, .inl (fun j => bI (t j))))] H := hP
        have hD : va_D A [(nd, .inr (2, [.ref b, .ref h, .ref rw, .int (iI mn), .int (iI sx)])), (rw, .inl (cR, M, .inl (fun j => iI (V j)))), (b, .inr (0, [.ref r, .int (iI z)])), (r, .inl (cA, w, .inl (fun j => bI (t j))))] := hD
        have hK : va_K (dC, dI) vwCl [(cR, .int), (cA, .byte)] s := hK
        obtain ⟨rfl, rfl, rfl⟩ := hw
        refine W.eq (g2 := F0 m 45 ls [.int (iI (cat L V a2 j)), .int (iI (cat L V a j))]) rfl ?_
        have hPc := hP.sub (ws' := []) [] rfl
        have hDc := hD.sub (ws' := []) [] (by decide) rfl
        have hKc := hK.sub (tys' := []) [] rfl
        have hFc := va_free (wc := []) hD hS hA [] rfl
        refine mv_call (mv_runS (As := [.int (iI (cat L V a j)), .int (iI (cat L V a2 j))]) (rest := []) ⟨hx, hb, hml, hown, hT⟩ (c_icmp l dC dI H.size (cat L V a j) (cat L V a2 j) (by omega) (by omega)) (va_cwS 2 hT (gS2 wd491 wd492 wd41 wd493) rfl rfl rfl (by decide +kernel) ⟨show 0 + 1 ≤ 4 from by omega, show 8 + (2 + 11) + 0 ≤ 130 from by omega⟩) ⟨fun a U g mk q => by obtain ⟨q0, q1, qP, qK, qD⟩ := q; exact ⟨q0, q1, qP, va_K.moved (u := U) (U := U.calling g mk a) (Vm.Alike.refl U.vm) qK, qD⟩, fun U hU hW => ⟨rfl, by rw [hU], by rw [hU]; exact hPc, va_K.moved hW.alike hKc, hDc.weaken (fun _ _ _ _ => trivial)⟩⟩ rfl rfl hl.1 rfl (lv_room (Nat.le_of_ble_eq_true rfl)) dX2_orderOf_45 ⟨show kc + 0 + 0 + 0 ≤ 0 from by omega, show ks + 0 + 0 + 0 ≤ 0 from by omega⟩) hS (fun q _ h => hFc q h) hFc (fun v10 u k8 n9 tS H1 locs ht hvm hw hB hz1 hk1 hS => ?_)
        obtain ⟨q11, rfl⟩ : ∃ y, y = u := ⟨_, rfl⟩
        obtain ⟨hP1, hK1, hD1⟩ := hB
        rw [ht] at hP1
        have hK1 := va_K.moved hvm.symm hK1
        try dsimp only at hw
        obtain ⟨hP, hD⟩ := va_join (wr := [(nd, .inr (2, [.ref b, .ref h, .ref rw, .int (iI mn), .int (iI sx)])), (rw, .inl (cR, M, .inl (fun j => iI (V j)))), (b, .inr (0, [.ref r, .int (iI z)])), (r, .inl (cA, w, .inl (fun j => bI (t j))))]) (w1 := []) hP hD [] [0, 1, 2, 3] rfl rfl (by decide) (by decide) hk1 hFc hP1 hD1
        have hK := (hK.sub (tys' := [(cR, .int), (cA, .byte)]) [0, 1] rfl).app hK1
        generalize H1 = H at hP hS ⊢
        have hP : va_P (dC, dI) vwCl [(nd, .inr (2, [.ref b, .ref h, .ref rw, .int (iI mn), .int (iI sx)])), (rw, .inl (cR, M, .inl (fun j => iI (V j)))), (b, .inr (0, [.ref r, .int (iI z)])), (r, .inl (cA, w, .inl (fun j => bI (t j))))] H := hP
        have hD : va_D A [(nd, .inr (2, [.ref b, .ref h, .ref rw, .int (iI mn), .int (iI sx)])), (rw, .inl (cR, M, .inl (fun j => iI (V j)))), (b, .inr (0, [.ref r, .int (iI z)])), (r, .inl (cA, w, .inl (fun j => bI (t j))))] := hD
        have hK : va_K (dC, dI) vwCl [(cR, .int), (cA, .byte)] s := hK
        obtain ⟨rfl, hqv10, rfl, rfl⟩ := hw
        refine W.eq (g2 := F0 m 48 ls [.int (iI q11)]) rfl ?_
        refine lv_istore (lv' := [(5, .int (iI q11)), (0, .ref nd), (1, .int (iI a)), (2, .int (iI a2)), (3, .int (iI g)), (4, .int (iI j))]) hx hb dX2_orderOf_48 hl (by decide) rfl (fun ls hl => ?_)
        refine lv_iload hx hb dX2_orderOf_50 (lv_at hl 0 rfl) ?_
        refine li_if_eq (tgt := 58) hx hb (by omega) dX2_orderOf_52 (by decide) (fun c12 => ?_) (fun c12 => ?_)
        · skip
          obtain ⟨z13, ez13⟩ : ∃ y : Int, y = j + 1 := ⟨_, rfl⟩
          refine lv_iinc (v := iI z13) (lv' := [(4, .int (iI z13)), (5, .int (iI q11)), (0, .ref nd), (1, .int (iI a)), (2, .int (iI a2)), (3, .int (iI g))]) hx hb dX2_orderOf_58 hl (k := 5) rfl (by rw [ez13]; exact iI_add _ _) (by decide) rfl (fun ls hl => ?_)
          refine lv_goto (tgt := 25) hx hb dX2_orderOf_61 (by decide) ?_
          have z13_eq : z13 = j + 1 := by omega
          exact ih z13 g _ _ _ _ _ (by omega) (by omega) (by rw [hn, z13_eq]; exact ordr_s (by omega) (by omega)) (by omega) (hK.sub [0, 1] rfl) (hP.sub [0, 1, 2, 3] rfl) (hD.sub [0, 1, 2, 3] (by decide) rfl) hS (lv_sub hl [2, 3, 4, 5, 0] rfl)
        · skip
          refine lv_iload hx hb dX2_orderOf_55 (lv_at hl 0 rfl) ?_
          rcases hqv10 with ⟨h1, h2⟩ | ⟨h1, h2⟩ | ⟨h1, h2⟩
          · skip
            subst hQ9
            have hP9 := hP.sub (ws' := [(nd, .inr (2, [.ref b, .ref h, .ref rw, .int (iI mn), .int (iI sx)])), (rw, .inl (cR, M, .inl (fun j => iI (V j)))), (b, .inr (0, [.ref r, .int (iI z)])), (r, .inl (cA, w, .inl (fun j => bI (t j))))]) [0, 1, 2, 3] rfl
            have hD9 := hD.sub (ws' := [(nd, .inr (2, [.ref b, .ref h, .ref rw, .int (iI mn), .int (iI sx)])), (rw, .inl (cR, M, .inl (fun j => iI (V j)))), (b, .inr (0, [.ref r, .int (iI z)])), (r, .inl (cA, w, .inl (fun j => bI (t j))))]) [0, 1, 2, 3] (by decide) rfl
            have hK9 := hK.sub (tys' := [(cR, .int), (cA, .byte)]) [0, 1] rfl
            exact mv_iret hx hb hr hlocks (fun tS ht hW => ⟨⟨_, (), rfl, ⟨sI (by rw [hn, h2]; exact (ordr_lt (by omega) h1).symm), by omega, by omega⟩, by rw [ht]; exact hP9, va_K.moved hW.alike hK9, hD9⟩, hS.F ht⟩) hS.2.2 dX2_orderOf_57
          · exact absurd h2 (by omega)
          · skip
            subst hQ9
            have hP9 := hP.sub (ws' := [(nd, .inr (2, [.ref b, .ref h, .ref rw, .int (iI mn), .int (iI sx)])), (rw, .inl (cR, M, .inl (fun j => iI (V j)))), (b, .inr (0, [.ref r, .int (iI z)])), (r, .inl (cA, w, .inl (fun j => bI (t j))))]) [0, 1, 2, 3] rfl
            have hD9 := hD.sub (ws' := [(nd, .inr (2, [.ref b, .ref h, .ref rw, .int (iI mn), .int (iI sx)])), (rw, .inl (cR, M, .inl (fun j => iI (V j)))), (b, .inr (0, [.ref r, .int (iI z)])), (r, .inl (cA, w, .inl (fun j => bI (t j))))]) [0, 1, 2, 3] (by decide) rfl
            have hK9 := hK.sub (tys' := [(cR, .int), (cA, .byte)]) [0, 1] rfl
            exact mv_iret hx hb hr hlocks (fun tS ht hW => ⟨⟨_, (), rfl, ⟨sI (by rw [hn, h2]; exact (ordr_gt (by omega) h1).symm), by omega, by omega⟩, by rw [ht]; exact hP9, va_K.moved hW.alike hK9, hD9⟩, hS.F ht⟩) hS.2.2 dX2_orderOf_57
  refine lv_sipush (v := iI 4096) hx hb dX2_orderOf_0 (by decide +kernel) ?_
  refine lv_aload_n hx hb dX2_orderOf_3 rfl (lv_at hl 0 rfl) ?_
  refine lv_iload_n hx hb dX2_orderOf_4 rfl (lv_at hl 1 rfl) ?_
  refine lv_iconst (v := iI 5) hx hb dX2_orderOf_5 rfl ?_
  have hPc := hP.sub (ws' := [(nd, .inr (2, [.ref b, .ref h, .ref rw, .int (iI mn), .int (iI sx)])), (rw, .inl (cR, M, .inl (fun j => iI (V j))))]) [0, 1] rfl
  have hDc := hD.sub (ws' := [(nd, .inr (2, [.ref b, .ref h, .ref rw, .int (iI mn), .int (iI sx)])), (rw, .inl (cR, M, .inl (fun j => iI (V j))))]) [0, 1] (by decide) rfl
  have hKc := hK.sub (tys' := [(cR, .int)]) [0] rfl
  have hFc := va_free (wc := [(nd, .inr (2, [.ref b, .ref h, .ref rw, .int (iI mn), .int (iI sx)])), (rw, .inl (cR, M, .inl (fun j => iI (V j))))]) hD hS hA [0, 1] rfl
  refine mv_call (mv_runV (As := [.int (iI a), .int (iI 5)]) (rest := [.int (iI 4096)]) ⟨hx, hb, hml, hown, hT⟩ (c_N_get l dC dI s.heap.size nd b h rw mn sx cR M V a 5 (by omega) (by omega) (by omega) (hn6) (by omega) (by omega)) (cwV 2 hT (gV wd361 wd362 wd363 wd28 wd364) rfl rfl rfl (by decide +kernel) ⟨show 2 + 1 ≤ 4 from by omega, show 8 + (4 + 11) + 70 ≤ 130 from by omega⟩) ⟨fun a U g mk q => by obtain ⟨q0, q1, qP, qK, qD⟩ := q; exact ⟨q0, q1, qP, va_K.moved (u := U) (U := U.calling g mk a) (Vm.Alike.refl U.vm) qK, qD⟩, va_recv hKc hPc (ci := 2) (q0 := 0) rfl rfl, fun U hU hW => ⟨rfl, by rw [hU], by rw [hU]; exact hPc, va_K.moved hW.alike hKc, hDc.weaken (fun _ _ _ _ => trivial)⟩⟩ rfl rfl hl.1 rfl (lv_room (Nat.le_of_ble_eq_true rfl)) dX2_orderOf_6 ⟨show 0 + 0 ≤ 0 from by omega, show 0 + 0 ≤ 0 from by omega⟩) hS (fun q _ h => hFc q h) hFc (fun v16 u k14 n15 tS H1 locs ht hvm hw hB hz1 hk1 hS => ?_)
  obtain ⟨q17, rfl⟩ : ∃ y, y = u := ⟨_, rfl⟩
  obtain ⟨hP1, hK1, hD1⟩ := hB
  rw [ht] at hP1
  have hK1 := va_K.moved hvm.symm hK1
  try dsimp only at hw
  obtain ⟨hP, hD⟩ := va_join (wr := [(b, .inr (0, [.ref r, .int (iI z)])), (r, .inl (cA, w, .inl (fun j => bI (t j))))]) (w1 := [(nd, .inr (2, [.ref b, .ref h, .ref rw, .int (iI mn), .int (iI sx)])), (rw, .inl (cR, M, .inl (fun j => iI (V j))))]) hP hD [0, 1] [2, 3] rfl rfl (by decide) (by decide) hk1 hFc hP1 hD1
  have hK := (hK.sub (tys' := [(cA, .byte)]) [1] rfl).app hK1
  generalize H1 = H at hP hS ⊢
  have hP : va_P (dC, dI) vwCl [(b, .inr (0, [.ref r, .int (iI z)])), (r, .inl (cA, w, .inl (fun j => bI (t j)))), (nd, .inr (2, [.ref b, .ref h, .ref rw, .int (iI mn), .int (iI sx)])), (rw, .inl (cR, M, .inl (fun j => iI (V j))))] H := hP
  have hD : va_D A [(b, .inr (0, [.ref r, .int (iI z)])), (r, .inl (cA, w, .inl (fun j => bI (t j)))), (nd, .inr (2, [.ref b, .ref h, .ref rw, .int (iI mn), .int (iI sx)])), (rw, .inl (cR, M, .inl (fun j => iI (V j))))] := hD
  have hK : va_K (dC, dI) vwCl [(cA, .byte), (cR, .int)] s := hK
  obtain ⟨rfl, hqv16, hrv16, rfl, rfl⟩ := hw
  refine W.eq (g2 := F0 m 9 ls [.int (iI q17), .int (iI 4096)]) rfl ?_
  refine lv_aload_n hx hb dX2_orderOf_9 rfl (lv_at hl 0 rfl) ?_
  refine lv_iload_n hx hb dX2_orderOf_10 rfl (lv_at hl 2 rfl) ?_
  refine lv_iconst (v := iI 5) hx hb dX2_orderOf_11 rfl ?_
  have hPc := hP.sub (ws' := [(nd, .inr (2, [.ref b, .ref h, .ref rw, .int (iI mn), .int (iI sx)])), (rw, .inl (cR, M, .inl (fun j => iI (V j))))]) [2, 3] rfl
  have hDc := hD.sub (ws' := [(nd, .inr (2, [.ref b, .ref h, .ref rw, .int (iI mn), .int (iI sx)])), (rw, .inl (cR, M, .inl (fun j => iI (V j))))]) [2, 3] (by decide) rfl
  have hKc := hK.sub (tys' := [(cR, .int)]) [1] rfl
  have hFc := va_free (wc := [(nd, .inr (2, [.ref b, .ref h, .ref rw, .int (iI mn), .int (iI sx)])), (rw, .inl (cR, M, .inl (fun j => iI (V j))))]) hD hS hA [2, 3] rfl
  refine mv_call (mv_runV (As := [.int (iI a2), .int (iI 5)]) (rest := [.int (iI q17), .int (iI 4096)]) ⟨hx, hb, hml, hown, hT⟩ (c_N_get l dC dI H.size nd b h rw mn sx cR M V a2 5 (by omega) (by omega) (by omega) (hn6) (by omega) (by omega)) (cwV 2 hT (gV wd361 wd362 wd363 wd28 wd364) rfl rfl rfl (by decide +kernel) ⟨show 2 + 1 ≤ 4 from by omega, show 8 + (4 + 11) + 70 ≤ 130 from by omega⟩) ⟨fun a U g mk q => by obtain ⟨q0, q1, qP, qK, qD⟩ := q; exact ⟨q0, q1, qP, va_K.moved (u := U) (U := U.calling g mk a) (Vm.Alike.refl U.vm) qK, qD⟩, va_recv hKc hPc (ci := 2) (q0 := 0) rfl rfl, fun U hU hW => ⟨rfl, by rw [hU], by rw [hU]; exact hPc, va_K.moved hW.alike hKc, hDc.weaken (fun _ _ _ _ => trivial)⟩⟩ rfl rfl hl.1 rfl (lv_room (Nat.le_of_ble_eq_true rfl)) dX2_orderOf_12 ⟨show 0 + 0 + 0 ≤ 0 from by omega, show 0 + 0 + 0 ≤ 0 from by omega⟩) hS (fun q _ h => hFc q h) hFc (fun v20 u k18 n19 tS H1 locs ht hvm hw hB hz1 hk1 hS => ?_)
  obtain ⟨q21, rfl⟩ : ∃ y, y = u := ⟨_, rfl⟩
  obtain ⟨hP1, hK1, hD1⟩ := hB
  rw [ht] at hP1
  have hK1 := va_K.moved hvm.symm hK1
  try dsimp only at hw
  obtain ⟨hP, hD⟩ := va_join (wr := [(b, .inr (0, [.ref r, .int (iI z)])), (r, .inl (cA, w, .inl (fun j => bI (t j))))]) (w1 := [(nd, .inr (2, [.ref b, .ref h, .ref rw, .int (iI mn), .int (iI sx)])), (rw, .inl (cR, M, .inl (fun j => iI (V j))))]) hP hD [2, 3] [0, 1] rfl rfl (by decide) (by decide) hk1 hFc hP1 hD1
  have hK := (hK.sub (tys' := [(cA, .byte)]) [0] rfl).app hK1
  generalize H1 = H at hP hS ⊢
  have hP : va_P (dC, dI) vwCl [(b, .inr (0, [.ref r, .int (iI z)])), (r, .inl (cA, w, .inl (fun j => bI (t j)))), (nd, .inr (2, [.ref b, .ref h, .ref rw, .int (iI mn), .int (iI sx)])), (rw, .inl (cR, M, .inl (fun j => iI (V j))))] H := hP
  have hD : va_D A [(b, .inr (0, [.ref r, .int (iI z)])), (r, .inl (cA, w, .inl (fun j => bI (t j)))), (nd, .inr (2, [.ref b, .ref h, .ref rw, .int (iI mn), .int (iI sx)])), (rw, .inl (cR, M, .inl (fun j => iI (V j))))] := hD
  have hK : va_K (dC, dI) vwCl [(cA, .byte), (cR, .int)] s := hK
  obtain ⟨rfl, hqv20, hrv20, rfl, rfl⟩ := hw
  refine W.eq (g2 := F0 m 15 ls [.int (iI q21), .int (iI q17), .int (iI 4096)]) rfl ?_
  refine li_mmax hx hb (hml.trans hl.1.symm) hown (hT _ wd490) (hT _ wd230) (hT _ wd35) (hT _ wd231) (by show 1 ≤ 4; omega) (by show 1 + 13 ≤ 130; omega) (by show 0 + 0 + 0 ≤ 0; omega) (by show 0 + 0 + 0 ≤ 0; omega) (by omega) (by omega) dX2_orderOf_15 ?_
  refine li_mmin hx hb (hml.trans hl.1.symm) hown (hT _ wd340) (hT _ wd218) (hT _ wd35) (hT _ wd219) (by show 1 ≤ 4; omega) (by show 0 + 13 ≤ 130; omega) (by show 0 + 0 + 0 ≤ 0; omega) (by show 0 + 0 + 0 ≤ 0; omega) (by omega) (by omega) dX2_orderOf_18 ?_
  refine li_nm (fun z22 ez22 => ?_)
  refine lv_istore_n (lv' := [(3, .int (iI z22)), (0, .ref nd), (1, .int (iI a)), (2, .int (iI a2))]) hx hb dX2_orderOf_21 rfl hl (by decide) rfl (fun ls hl => ?_)
  refine lv_iconst (v := iI 0) hx hb dX2_orderOf_22 rfl ?_
  refine lv_istore (lv' := [(4, .int (iI 0)), (3, .int (iI z22)), (0, .ref nd), (1, .int (iI a)), (2, .int (iI a2))]) hx hb dX2_orderOf_23 hl (by decide) rfl (fun ls hl => ?_)
  exact LP (10000) 0 z22 _ _ _ _ _ (by omega) (by omega) (by unfold ord2; rw [Int.sub_zero, show min 4096 (max (V (a * 8 + 5).toNat) (V (a2 * 8 + 5).toNat)) = z22 by omega]) (by omega) (hK.sub [1, 0] rfl) (hP.sub [2, 3, 0, 1] rfl) (hD.sub [2, 3, 0, 1] (by decide) rfl) hS (lv_sub hl [2, 3, 4, 1, 0] rfl)
