set_option maxHeartbeats 4000000 in
set_option maxRecDepth 100000 in
theorem c_R_isid (l : Launch) (dC : Nat → ClassId) (dI : Nat → Nat → Nat) (sz : Nat) (x : Int) (y : Int) (hx4 : -2147483648 ≤ x ∧ x < 2147483648) (hy : -2147483648 ≤ y ∧ y < 2147483648) : mv_Met l yX3_isIdentifier wsX3_isIdentifier ({ frames := 0, cells := 0, slots := 0, locals := 0 }) (va_Pc [.int (iI x), .int (iI y)] (fun U => U.heap.size = sz ∧ va_P (dC, dI) vwCl [] U.heap ∧ va_K (dC, dI) vwCl [] U ∧ va_D (fun _ => True) [])) (mv_Q (fun (v : Option Value) (u : Int) (k n : Nat) => match u with | (q') => v = some (.int (iI q')) ∧ (q' = 1 ∧ 0 ≤ x ∧ x ≤ 3 ∧ 0 ≤ y ∨ q' = 0 ∧ (x < 0 ∨ 3 < x ∨ y < 0)) ∧ k = 0 ∧ n = 0) (fun (u : Int) (tS : State) => match u with | (q') => va_P (dC, dI) vwCl [] tS.heap ∧ va_K (dC, dI) vwCl [] tS ∧ va_D (va_A [] sz) []) (va_A [] sz)) (va_A [] sz) := by
  refine mv_ofW (cc := cX3_isIdentifier) (maxL := 2) (ret := (some .boolean)) (by decide) rfl ?_
  intro p e s m args below meth c s₁ B hml hv
  obtain ⟨rfl, hsz, hP, hK, hD0⟩ := hv
  have hx := B.exec
  have hb := B.bytes
  have hr := B.returns
  have hT : ∀ w ∈ wT, w.before _ s = true := fun w h => atoms_spec (ws := wsX3_isIdentifier) B.pre w (List.mem_cons_of_mem _ h)
  have hown : s.vm.findClass RX3 = some m.cls := findClass_of_methodNamed B.named
  have hlocks := B.notSynchronized
  subst hsz
  have hD := hD0.self (sz := s.heap.size)
  generalize hAe : va_A [] s.heap.size = A at hD ⊢
  have hA : ∀ q : Nat, s.heap.size ≤ q → A q := fun q h => by rw [← hAe]; exact Or.inr h
  have hS : va_S A s.heap s.heap [] := va_S.rf
  have hP : va_P (dC, dI) vwCl [] s.heap := hP
  have hl := lv_entry ([.int (iI x), .int (iI y)]) (n := 2) (Nat.le_of_ble_eq_true rfl)
  rw [lg_entry_eq]
  generalize (lg_sl ([.int (iI x), .int (iI y)]) ++ List.replicate (2 - (lg_sl ([.int (iI x), .int (iI y)])).length) Slot.unset).toArray = ls at hl ⊢
  have hl : lv_has ls 2 [(0, .int (iI x)), (1, .int (iI y))] := hl
  refine lv_iload_n hx hb dX3_isIdentifier_0 rfl (lv_at hl 0 rfl) ?_
  refine li_if_lt (tgt := 17) hx hb (by omega) dX3_isIdentifier_1 (by decide) (fun c1 => ?_) (fun c1 => ?_)
  · skip
    refine lv_iconst (v := iI 0) hx hb dX3_isIdentifier_17 rfl ?_
    have hP9 := hP.sub (ws' := []) [] rfl
    have hD9 := hD.sub (ws' := []) [] (by decide) rfl
    have hK9 := hK.sub (tys' := []) [] rfl
    exact mv_zret hx hb hr (zb_n (by omega)) hlocks (fun tS ht hW => ⟨⟨_, (0), rfl, ⟨rfl, by omega, rfl, rfl⟩, by rw [ht]; exact hP9, va_K.moved hW.alike hK9, hD9⟩, hS.F ht⟩) hS.2.2 dX3_isIdentifier_18
  · skip
    refine lv_iload_n hx hb dX3_isIdentifier_4 rfl (lv_at hl 0 rfl) ?_
    refine lv_iconst (v := iI 3) hx hb dX3_isIdentifier_5 rfl ?_
    refine li_icmp_gt (tgt := 17) hx hb (by omega) (by omega) dX3_isIdentifier_6 (by decide) (fun c2 => ?_) (fun c2 => ?_)
    · skip
      refine lv_iconst (v := iI 0) hx hb dX3_isIdentifier_17 rfl ?_
      have hP9 := hP.sub (ws' := []) [] rfl
      have hD9 := hD.sub (ws' := []) [] (by decide) rfl
      have hK9 := hK.sub (tys' := []) [] rfl
      exact mv_zret hx hb hr (zb_n (by omega)) hlocks (fun tS ht hW => ⟨⟨_, (0), rfl, ⟨rfl, by omega, rfl, rfl⟩, by rw [ht]; exact hP9, va_K.moved hW.alike hK9, hD9⟩, hS.F ht⟩) hS.2.2 dX3_isIdentifier_18
    · skip
      refine lv_iload_n hx hb dX3_isIdentifier_9 rfl (lv_at hl 1 rfl) ?_
      refine li_if_lt (tgt := 17) hx hb (by omega) dX3_isIdentifier_10 (by decide) (fun c3 => ?_) (fun c3 => ?_)
      · skip
        refine lv_iconst (v := iI 0) hx hb dX3_isIdentifier_17 rfl ?_
        have hP9 := hP.sub (ws' := []) [] rfl
        have hD9 := hD.sub (ws' := []) [] (by decide) rfl
        have hK9 := hK.sub (tys' := []) [] rfl
        exact mv_zret hx hb hr (zb_n (by omega)) hlocks (fun tS ht hW => ⟨⟨_, (0), rfl, ⟨rfl, by omega, rfl, rfl⟩, by rw [ht]; exact hP9, va_K.moved hW.alike hK9, hD9⟩, hS.F ht⟩) hS.2.2 dX3_isIdentifier_18
      · skip
        refine lv_iconst (v := iI 1) hx hb dX3_isIdentifier_13 rfl ?_
        refine lv_goto (tgt := 18) hx hb dX3_isIdentifier_14 (by decide) ?_
        have hP9 := hP.sub (ws' := []) [] rfl
        have hD9 := hD.sub (ws' := []) [] (by decide) rfl
        have hK9 := hK.sub (tys' := []) [] rfl
        exact mv_zret hx hb hr (zb_n (by omega)) hlocks (fun tS ht hW => ⟨⟨_, (1), rfl, ⟨rfl, by omega, rfl, rfl⟩, by rw [ht]; exact hP9, va_K.moved hW.alike hK9, hD9⟩, hS.F ht⟩) hS.2.2 dX3_isIdentifier_18
set_option maxHeartbeats 4000000 in
set_option maxRecDepth 100000 in
theorem c_R_few (l : Launch) (dC : Nat → ClassId) (dI : Nat → Nat → Nat) (sz : Nat) (x : Int) (hx4 : -9223372036854775808 ≤ x ∧ x < 9223372036854775808) : mv_Met l yX3_fewestBytes wsX3_fewestBytes ({ frames := 0, cells := 0, slots := 0, locals := 0 }) (va_Pc [.long (lI x)] (fun U => U.heap.size = sz ∧ va_P (dC, dI) vwCl [] U.heap ∧ va_K (dC, dI) vwCl [] U ∧ va_D (fun _ => True) [])) (mv_Q (fun (v : Option Value) (u : Int) (k n : Nat) => match u with | (q') => v = some (.int (iI q')) ∧ q' = fwb x 7 1 ∧ 1 ≤ q' ∧ q' ≤ 8 ∧ k = 0 ∧ n = 0) (fun (u : Int) (tS : State) => match u with | (q') => va_P (dC, dI) vwCl [] tS.heap ∧ va_K (dC, dI) vwCl [] tS ∧ va_D (va_A [] sz) []) (va_A [] sz)) (va_A [] sz) := by
  refine mv_ofW (cc := cX3_fewestBytes) (maxL := 5) (ret := (some .int)) (by decide) rfl ?_
  intro p e s m args below meth c s₁ B hml hv
  obtain ⟨rfl, hsz, hP, hK, hD0⟩ := hv
  have hx := B.exec
  have hb := B.bytes
  have hr := B.returns
  have hT : ∀ w ∈ wT, w.before _ s = true := fun w h => atoms_spec (ws := wsX3_fewestBytes) B.pre w (List.mem_cons_of_mem _ h)
  have hown : s.vm.findClass RX3 = some m.cls := findClass_of_methodNamed B.named
  have hlocks := B.notSynchronized
  subst hsz
  have hD := hD0.self (sz := s.heap.size)
  generalize hAe : va_A [] s.heap.size = A at hD ⊢
  have hA : ∀ q : Nat, s.heap.size ≤ q → A q := fun q h => by rw [← hAe]; exact Or.inr h
  have hS : va_S A s.heap s.heap [] := va_S.rf
  have hP : va_P (dC, dI) vwCl [] s.heap := hP
  have hl := lv_entry ([.long (lI x)]) (n := 5) (Nat.le_of_ble_eq_true rfl)
  rw [lg_entry_eq]
  generalize (lg_sl ([.long (lI x)]) ++ List.replicate (5 - (lg_sl ([.long (lI x)])).length) Slot.unset).toArray = ls at hl ⊢
  have hl : lv_has ls 5 [(0, .long (lI x))] := hl
  refine mv_nameQ (fun Q9 hQ9 => ?_)
  have LP : ∀ (fu : Nat) (j : Int) (H : Heap) (locs : List Loc) (ls : Array Slot) (kc ks : Nat), (8 - j < (fu : Int)) → (1 ≤ j ∧ j ≤ 8) → (fwb x 7 1 = fwb x (8 - j).toNat j) → (kc = 0 ∧ ks = 0) → va_K (dC, dI) vwCl [] s → va_P (dC, dI) vwCl [] H → va_D A [] → va_S A s.heap H locs → lv_has ls 5 [(0, .long (lI x)), (2, .int (iI j))] → W p l e ({ frames := 0, cells := 0, slots := 0, locals := 0 }) s m ([.long (lI x)] : List Value).toArray below meth c H locs kc ks Q9 (F0 m 2 ls []) := by
    intro fu
    induction fu with
    | zero =>
      intro j H locs ls kc ks hfu hj hn hkc hK hP hD hS hl
      exfalso
      omega
    | succ fu ih =>
      intro j H locs ls kc ks hfu hj hn hkc hK hP hD hS hl
      have hq9 := sh_rng hx4 (j := j) (by omega)
      refine lv_iload_n hx hb dX3_fewestBytes_2 rfl (lv_at hl 1 rfl) ?_
      refine lv_bipush (v := iI 8) hx hb dX3_fewestBytes_3 (by decide +kernel) ?_
      refine li_icmp_ge (tgt := 39) hx hb (by omega) (by omega) dX3_fewestBytes_5 (by decide) (fun c1 => ?_) (fun c1 => ?_)
      · skip
        refine lv_bipush (v := iI 8) hx hb dX3_fewestBytes_39 (by decide +kernel) ?_
        subst hQ9
        have hP9 := hP.sub (ws' := []) [] rfl
        have hD9 := hD.sub (ws' := []) [] (by decide) rfl
        have hK9 := hK.sub (tys' := []) [] rfl
        exact mv_iret hx hb hr hlocks (fun tS ht hW => ⟨⟨_, (8), rfl, ⟨rfl, by rw [hn, fwb_e (by omega)], by omega, by omega, by omega, by omega⟩, by rw [ht]; exact hP9, va_K.moved hW.alike hK9, hD9⟩, hS.F ht⟩) hS.2.2 dX3_fewestBytes_41
      · skip
        refine lv_lload_n hx hb dX3_fewestBytes_8 rfl (lv_at hl 0 rfl) ?_
        refine lv_bipush (v := iI 8) hx hb dX3_fewestBytes_9 (by decide +kernel) ?_
        refine lv_iload_n hx hb dX3_fewestBytes_11 rfl (lv_at hl 1 rfl) ?_
        refine li_imul hx hb dX3_fewestBytes_12 ?_
        refine lv_iconst (v := iI 1) hx hb dX3_fewestBytes_13 rfl ?_
        refine li_isub hx hb dX3_fewestBytes_14 ?_
        refine li_lshr hx hb (by omega) (by omega) dX3_fewestBytes_15 ?_
        refine li_nml (fun z2 ez2 => ?_)
        refine lv_lstore_n (lv' := [(3, .long (lI z2)), (0, .long (lI x)), (2, .int (iI j))]) hx hb dX3_fewestBytes_16 rfl hl (by decide) rfl (fun ls hl => ?_)
        refine lv_lload_n hx hb dX3_fewestBytes_17 rfl (lv_at hl 0 rfl) ?_
        refine lv_lconst (v := lI 0) hx hb dX3_fewestBytes_18 (by decide +kernel) ?_
        refine li_lcmp_eq (tgt := 31) hx hb (by omega) (by omega) dX3_fewestBytes_19 dX3_fewestBytes_20 (by decide) (fun c3 => ?_) (fun c3 => ?_)
        · skip
          refine lv_iload_n hx hb dX3_fewestBytes_31 rfl (lv_at hl 2 rfl) ?_
          subst hQ9
          have hP9 := hP.sub (ws' := []) [] rfl
          have hD9 := hD.sub (ws' := []) [] (by decide) rfl
          have hK9 := hK.sub (tys' := []) [] rfl
          exact mv_iret hx hb hr hlocks (fun tS ht hW => ⟨⟨_, (j), rfl, ⟨rfl, by rw [hn, fwb_y (by omega) (by omega)], by omega, by omega, by omega, by omega⟩, by rw [ht]; exact hP9, va_K.moved hW.alike hK9, hD9⟩, hS.F ht⟩) hS.2.2 dX3_fewestBytes_32
        · skip
          refine lv_lload_n hx hb dX3_fewestBytes_23 rfl (lv_at hl 0 rfl) ?_
          refine lv_ldc2 (v := lI (-1)) hx hb hown (by rw [show lI (-1) = (-1 : Int64) by decide +kernel]; exact hT _ wd477) dX3_fewestBytes_24 ?_
          refine li_lcmp_ne (tgt := 33) hx hb (by omega) (by omega) dX3_fewestBytes_27 dX3_fewestBytes_28 (by decide) (fun c4 => ?_) (fun c4 => ?_)
          · skip
            obtain ⟨z5, ez5⟩ : ∃ y : Int, y = j + 1 := ⟨_, rfl⟩
            refine lv_iinc (v := iI z5) (lv' := [(2, .int (iI z5)), (3, .long (lI z2)), (0, .long (lI x))]) hx hb dX3_fewestBytes_33 hl (k := 2) rfl (by rw [ez5]; exact iI_add _ _) (by decide) rfl (fun ls hl => ?_)
            refine lv_goto (tgt := 2) hx hb dX3_fewestBytes_36 (by decide) ?_
            have z5_eq : z5 = j + 1 := by omega
            exact ih z5 _ _ _ _ _ (by omega) (by omega) (by rw [hn, z5_eq]; exact fwb_n (by omega) (by omega)) (by omega) (hK.sub [] rfl) (hP.sub [] rfl) (hD.sub [] (by decide) rfl) hS (lv_sub hl [2, 0] rfl)
          · skip
            refine lv_iload_n hx hb dX3_fewestBytes_31 rfl (lv_at hl 2 rfl) ?_
            subst hQ9
            have hP9 := hP.sub (ws' := []) [] rfl
            have hD9 := hD.sub (ws' := []) [] (by decide) rfl
            have hK9 := hK.sub (tys' := []) [] rfl
            exact mv_iret hx hb hr hlocks (fun tS ht hW => ⟨⟨_, (j), rfl, ⟨rfl, by rw [hn, fwb_y (by omega) (by omega)], by omega, by omega, by omega, by omega⟩, by rw [ht]; exact hP9, va_K.moved hW.alike hK9, hD9⟩, hS.F ht⟩) hS.2.2 dX3_fewestBytes_32
  refine lv_iconst (v := iI 1) hx hb dX3_fewestBytes_0 rfl ?_
  refine lv_istore_n (lv' := [(2, .int (iI 1)), (0, .long (lI x))]) hx hb dX3_fewestBytes_1 rfl hl (by decide) rfl (fun ls hl => ?_)
  exact LP (100) 1 _ _ _ _ _ (by omega) (by omega) (rfl) (by omega) (hK.sub [] rfl) (hP.sub [] rfl) (hD.sub [] (by decide) rfl) hS (lv_sub hl [1, 0] rfl)
set_option maxHeartbeats 4000000 in
set_option maxRecDepth 100000 in
theorem c_R_wlen (l : Launch) (dC : Nat → ClassId) (dI : Nat → Nat → Nat) (sz : Nat) (rr : Nat) (tp : Nat) (n1 : Nat) (n2 : Nat) (b : Nat) (r : Nat) (cA : ClassId) (w : Nat) (t : Nat → Int) (z : Int) (L : List Int) (i : Int) (hok : okB w t z L) (hz4 : z ≤ 4000) (hi : 0 ≤ i ∧ i ≤ 4096) : mv_Met l yX3_writeLength wsX3_writeLength ({ frames := 5, cells := (phB w), slots := (phB w), locals := 190 }) (va_Pc [.ref rr, .int (iI i)] (fun U => U.heap.size = sz ∧ va_P (dC, dI) vwCl [(rr, .inr (3, [.ref tp, .ref b, .ref n1, .ref n2])), (b, .inr (0, [.ref r, .int (iI z)])), (r, .inl (cA, w, .inl (fun j => bI (t j))))] U.heap ∧ va_K (dC, dI) vwCl [(cA, .byte)] U ∧ va_D (fun _ => True) [(rr, .inr (3, [.ref tp, .ref b, .ref n1, .ref n2])), (b, .inr (0, [.ref r, .int (iI z)])), (r, .inl (cA, w, .inl (fun j => bI (t j))))])) (mv_Q (fun (v : Option Value) (u : Nat × ClassId × Nat × (Nat → Int) × Int) (k n : Nat) => match u with | (r', cA', w', t', z') => okB w' t' z' (L ++ lnB i) ∧ (z ≤ z' ∧ z' ≤ z + 3 ∧ 64 ≤ w' ∧ w' ≤ 4096 ∧ z' ≤ (w' : Int)) ∧ v = none ∧ n + phB w' ≤ phB w ∧ k ≤ n) (fun (u : Nat × ClassId × Nat × (Nat → Int) × Int) (tS : State) => match u with | (r', cA', w', t', z') => va_P (dC, dI) vwCl [(rr, .inr (3, [.ref tp, .ref b, .ref n1, .ref n2])), (b, .inr (0, [.ref r', .int (iI z')])), (r', .inl (cA', w', .inl (fun j => bI (t' j))))] tS.heap ∧ va_K (dC, dI) vwCl [(cA', .byte)] tS ∧ va_D (va_A [(rr, .inr (3, [.ref tp, .ref b, .ref n1, .ref n2])), (b, .inr (0, [.ref r, .int (iI z)])), (r, .inl (cA, w, .inl (fun j => bI (t j))))] sz) [(rr, .inr (3, [.ref tp, .ref b, .ref n1, .ref n2])), (b, .inr (0, [.ref r', .int (iI z')])), (r', .inl (cA', w', .inl (fun j => bI (t' j))))]) (va_A [(rr, .inr (3, [.ref tp, .ref b, .ref n1, .ref n2])), (b, .inr (0, [.ref r, .int (iI z)])), (r, .inl (cA, w, .inl (fun j => bI (t j))))] sz)) (va_A [(rr, .inr (3, [.ref tp, .ref b, .ref n1, .ref n2])), (b, .inr (0, [.ref r, .int (iI z)])), (r, .inl (cA, w, .inl (fun j => bI (t j))))] sz) := by
  refine mv_ofW (cc := cX3_writeLength) (maxL := 2) (ret := none) (by decide) rfl ?_
  intro p e s m args below meth c s₁ B hml hv
  obtain ⟨rfl, hsz, hP, hK, hD0⟩ := hv
  have hx := B.exec
  have hb := B.bytes
  have hr := B.returns
  have hT : ∀ w ∈ wT, w.before _ s = true := fun w h => atoms_spec (ws := wsX3_writeLength) B.pre w (List.mem_cons_of_mem _ h)
  have hown : s.vm.findClass RX3 = some m.cls := findClass_of_methodNamed B.named
  have hlocks := B.notSynchronized
  subst hsz
  have hD := hD0.self (sz := s.heap.size)
  generalize hAe : va_A [(rr, .inr (3, [.ref tp, .ref b, .ref n1, .ref n2])), (b, .inr (0, [.ref r, .int (iI z)])), (r, .inl (cA, w, .inl (fun j => bI (t j))))] s.heap.size = A at hD ⊢
  have hA : ∀ q : Nat, s.heap.size ≤ q → A q := fun q h => by rw [← hAe]; exact Or.inr h
  have hS : va_S A s.heap s.heap [] := va_S.rf
  have hP : va_P (dC, dI) vwCl [(rr, .inr (3, [.ref tp, .ref b, .ref n1, .ref n2])), (b, .inr (0, [.ref r, .int (iI z)])), (r, .inl (cA, w, .inl (fun j => bI (t j))))] s.heap := hP
  have hl := lv_entry ([.ref rr, .int (iI i)]) (n := 2) (Nat.le_of_ble_eq_true rfl)
  rw [lg_entry_eq]
  generalize (lg_sl ([.ref rr, .int (iI i)]) ++ List.replicate (2 - (lg_sl ([.ref rr, .int (iI i)])).length) Slot.unset).toArray = ls at hl ⊢
  have hl : lv_has ls 2 [(0, .ref rr), (1, .int (iI i))] := hl
  obtain ⟨hw1, hw2, hw3, hw4, hw5, hw6⟩ := id hok
  refine lv_iload_n hx hb dX3_writeLength_0 rfl (lv_at hl 1 rfl) ?_
  refine lv_sipush (v := iI 128) hx hb dX3_writeLength_1 (by decide +kernel) ?_
  refine li_icmp_ge (tgt := 18) hx hb (by omega) (by omega) dX3_writeLength_4 (by decide) (fun c1 => ?_) (fun c1 => ?_)
  · skip
    refine lv_iload_n hx hb dX3_writeLength_18 rfl (lv_at hl 1 rfl) ?_
    refine lv_sipush (v := iI 256) hx hb dX3_writeLength_19 (by decide +kernel) ?_
    refine li_icmp_ge (tgt := 46) hx hb (by omega) (by omega) dX3_writeLength_22 (by decide) (fun c2 => ?_) (fun c2 => ?_)
    · skip
      refine lv_aload_n hx hb dX3_writeLength_46 rfl (lv_at hl 0 rfl) ?_
      refine va_get (D := (dC, dI)) (ci := 3) (v := .ref b) (C := RX3) (T := TX3) (N := 4) hx hb hT inX3 hown hK hP 0 rfl rfl 1 (by decide) (hT _ wd121) (fun _ h9 => h9) rfl dX3_writeLength_47 ?_
      refine lv_sipush (v := iI 130) hx hb dX3_writeLength_50 (by decide +kernel) ?_
      have hPc := hP.sub (ws' := [(b, .inr (0, [.ref r, .int (iI z)])), (r, .inl (cA, w, .inl (fun j => bI (t j))))]) [1, 2] rfl
      have hDc := hD.sub (ws' := [(b, .inr (0, [.ref r, .int (iI z)])), (r, .inl (cA, w, .inl (fun j => bI (t j))))]) [1, 2] (by decide) rfl
      have hKc := hK.sub (tys' := [(cA, .byte)]) [0] rfl
      have hFc := va_free (wc := [(b, .inr (0, [.ref r, .int (iI z)])), (r, .inl (cA, w, .inl (fun j => bI (t j))))]) hD hS hA [1, 2] rfl
      refine mv_call (mv_runV (As := [.int (iI 130)]) (rest := []) ⟨hx, hb, hml, hown, hT⟩ (c_B_app l dC dI s.heap.size b r cA w t z L 130 (hok) (by omega) (by omega)) (cwV 1 hT (gV wd458 wd221 wd222 wd27 wd223) rfl rfl rfl (by decide +kernel) ⟨show 3 + 1 ≤ 5 from by omega, show 8 + (2 + 11) + 130 ≤ 190 from by omega⟩) ⟨fun a U g mk q => by obtain ⟨q0, q1, qP, qK, qD⟩ := q; exact ⟨q0, q1, qP, va_K.moved (u := U) (U := U.calling g mk a) (Vm.Alike.refl U.vm) qK, qD⟩, va_recv hKc hPc (ci := 0) (q0 := 0) rfl rfl, fun U hU hW => ⟨rfl, by rw [hU], by rw [hU]; exact hPc, va_K.moved hW.alike hKc, hDc.weaken (fun _ _ _ _ => trivial)⟩⟩ rfl rfl hl.1 rfl (lv_room (Nat.le_of_ble_eq_true rfl)) dX3_writeLength_53 ⟨show 0 + (phB w) ≤ (phB w) from by omega, show 0 + (phB w) ≤ (phB w) from by omega⟩) hS (fun q _ h => hFc q h) hFc (fun v5 u k3 n4 tS H1 locs ht hvm hw hB hz1 hk1 hS => ?_)
      obtain ⟨r6, cA7, w8, t9, z10⟩ := u
      obtain ⟨hP1, hK1, hD1⟩ := hB
      rw [ht] at hP1
      have hK1 := va_K.moved hvm.symm hK1
      try dsimp only at hw
      obtain ⟨hP, hD⟩ := va_join (wr := [(rr, .inr (3, [.ref tp, .ref b, .ref n1, .ref n2]))]) (w1 := [(b, .inr (0, [.ref r6, .int (iI z10)])), (r6, .inl (cA7, w8, .inl (fun j => bI (t9 j))))]) hP hD [1, 2] [0] rfl rfl (by decide) (by decide) hk1 hFc hP1 hD1
      have hK := (hK.sub (tys' := []) [] rfl).app hK1
      generalize H1 = H at hP hS ⊢
      have hP : va_P (dC, dI) vwCl [(rr, .inr (3, [.ref tp, .ref b, .ref n1, .ref n2])), (b, .inr (0, [.ref r6, .int (iI z10)])), (r6, .inl (cA7, w8, .inl (fun j => bI (t9 j))))] H := hP
      have hD : va_D A [(rr, .inr (3, [.ref tp, .ref b, .ref n1, .ref n2])), (b, .inr (0, [.ref r6, .int (iI z10)])), (r6, .inl (cA7, w8, .inl (fun j => bI (t9 j))))] := hD
      have hK : va_K (dC, dI) vwCl [(cA7, .byte)] s := hK
      obtain ⟨hokv5, hNv5, rfl, hFv5, hGv5⟩ := hw
      refine W.eq (g2 := F0 m 56 ls []) rfl ?_
      refine lv_aload_n hx hb dX3_writeLength_56 rfl (lv_at hl 0 rfl) ?_
      refine va_get (D := (dC, dI)) (ci := 3) (v := .ref b) (C := RX3) (T := TX3) (N := 4) hx hb hT inX3 hown hK hP 0 rfl rfl 1 (by decide) (hT _ wd121) (fun _ h9 => h9) rfl dX3_writeLength_57 ?_
      refine lv_iload_n hx hb dX3_writeLength_60 rfl (lv_at hl 1 rfl) ?_
      refine li_i2l hx hb (by omega) dX3_writeLength_61 ?_
      refine lv_iconst (v := iI 2) hx hb dX3_writeLength_62 rfl ?_
      have hPc := hP.sub (ws' := [(b, .inr (0, [.ref r6, .int (iI z10)])), (r6, .inl (cA7, w8, .inl (fun j => bI (t9 j))))]) [1, 2] rfl
      have hDc := hD.sub (ws' := [(b, .inr (0, [.ref r6, .int (iI z10)])), (r6, .inl (cA7, w8, .inl (fun j => bI (t9 j))))]) [1, 2] (by decide) rfl
      have hKc := hK.sub (tys' := [(cA7, .byte)]) [0] rfl
      have hFc := va_free (wc := [(b, .inr (0, [.ref r6, .int (iI z10)])), (r6, .inl (cA7, w8, .inl (fun j => bI (t9 j))))]) hD hS hA [1, 2] rfl
      refine mv_call (mv_runV (As := [.long (lI i), .int (iI 2)]) (rest := []) ⟨hx, hb, hml, hown, hT⟩ (c_B_num l dC dI H.size b r6 cA7 w8 t9 z10 (L ++ [130]) i 2 (hokv5) (by omega) (by omega) (by omega)) (cwV 2 hT (gV wd213 wd214 wd215 wd27 wd216) rfl rfl rfl (by decide +kernel) ⟨show 4 + 1 ≤ 5 from by omega, show 8 + (5 + 11) + 160 ≤ 190 from by omega⟩) ⟨fun a U g mk q => by obtain ⟨q0, q1, qP, qK, qD⟩ := q; exact ⟨q0, q1, qP, va_K.moved (u := U) (U := U.calling g mk a) (Vm.Alike.refl U.vm) qK, qD⟩, va_recv hKc hPc (ci := 0) (q0 := 0) rfl rfl, fun U hU hW => ⟨rfl, by rw [hU], by rw [hU]; exact hPc, va_K.moved hW.alike hKc, hDc.weaken (fun _ _ _ _ => trivial)⟩⟩ rfl rfl hl.1 rfl (lv_room (Nat.le_of_ble_eq_true rfl)) dX3_writeLength_63 ⟨show 0 + k3 + (phB w8) ≤ (phB w) from by omega, show 0 + n4 + (phB w8) ≤ (phB w) from by omega⟩) hS (fun q _ h => hFc q h) hFc (fun v13 u k11 n12 tS H1 locs ht hvm hw hB hz1 hk1 hS => ?_)
      obtain ⟨r14, cA15, w16, t17, z18⟩ := u
      obtain ⟨hP1, hK1, hD1⟩ := hB
      rw [ht] at hP1
      have hK1 := va_K.moved hvm.symm hK1
      try dsimp only at hw
      obtain ⟨hP, hD⟩ := va_join (wr := [(rr, .inr (3, [.ref tp, .ref b, .ref n1, .ref n2]))]) (w1 := [(b, .inr (0, [.ref r14, .int (iI z18)])), (r14, .inl (cA15, w16, .inl (fun j => bI (t17 j))))]) hP hD [1, 2] [0] rfl rfl (by decide) (by decide) hk1 hFc hP1 hD1
      have hK := (hK.sub (tys' := []) [] rfl).app hK1
      generalize H1 = H at hP hS ⊢
      have hP : va_P (dC, dI) vwCl [(rr, .inr (3, [.ref tp, .ref b, .ref n1, .ref n2])), (b, .inr (0, [.ref r14, .int (iI z18)])), (r14, .inl (cA15, w16, .inl (fun j => bI (t17 j))))] H := hP
      have hD : va_D A [(rr, .inr (3, [.ref tp, .ref b, .ref n1, .ref n2])), (b, .inr (0, [.ref r14, .int (iI z18)])), (r14, .inl (cA15, w16, .inl (fun j => bI (t17 j))))] := hD
      have hK : va_K (dC, dI) vwCl [(cA15, .byte)] s := hK
      obtain ⟨hokv13, hNv13, rfl, hFv13, hGv13⟩ := hw
      refine W.eq (g2 := F0 m 66 ls []) rfl ?_
      have hend : ((L ++ [130]) ++ nb i (2 : Int).toNat) = L ++ lnB i := by unfold lnB; first | (rw [if_pos (by omega)]; done) | (rw [if_neg (by omega), if_pos (by omega)]; simp [nb]; done) | (rw [if_neg (by omega), if_neg (by omega)]; simp [nb]; done)
      have hP9 := hP.sub (ws' := [(rr, .inr (3, [.ref tp, .ref b, .ref n1, .ref n2])), (b, .inr (0, [.ref r14, .int (iI z18)])), (r14, .inl (cA15, w16, .inl (fun j => bI (t17 j))))]) [0, 1, 2] rfl
      have hD9 := hD.sub (ws' := [(rr, .inr (3, [.ref tp, .ref b, .ref n1, .ref n2])), (b, .inr (0, [.ref r14, .int (iI z18)])), (r14, .inl (cA15, w16, .inl (fun j => bI (t17 j))))]) [0, 1, 2] (by decide) rfl
      have hK9 := hK.sub (tys' := [(cA15, .byte)]) [0] rfl
      exact mv_vret hx hb hr hlocks (fun tS ht hW => ⟨⟨_, (r14, cA15, w16, t17, z18), rfl, ⟨hend ▸ hokv13, by omega, rfl, by omega, by omega⟩, by rw [ht]; exact hP9, va_K.moved hW.alike hK9, hD9⟩, hS.F ht⟩) hS.2.2 dX3_writeLength_66
    · skip
      refine lv_aload_n hx hb dX3_writeLength_25 rfl (lv_at hl 0 rfl) ?_
      refine va_get (D := (dC, dI)) (ci := 3) (v := .ref b) (C := RX3) (T := TX3) (N := 4) hx hb hT inX3 hown hK hP 0 rfl rfl 1 (by decide) (hT _ wd121) (fun _ h9 => h9) rfl dX3_writeLength_26 ?_
      refine lv_sipush (v := iI 129) hx hb dX3_writeLength_29 (by decide +kernel) ?_
      have hPc := hP.sub (ws' := [(b, .inr (0, [.ref r, .int (iI z)])), (r, .inl (cA, w, .inl (fun j => bI (t j))))]) [1, 2] rfl
      have hDc := hD.sub (ws' := [(b, .inr (0, [.ref r, .int (iI z)])), (r, .inl (cA, w, .inl (fun j => bI (t j))))]) [1, 2] (by decide) rfl
      have hKc := hK.sub (tys' := [(cA, .byte)]) [0] rfl
      have hFc := va_free (wc := [(b, .inr (0, [.ref r, .int (iI z)])), (r, .inl (cA, w, .inl (fun j => bI (t j))))]) hD hS hA [1, 2] rfl
      refine mv_call (mv_runV (As := [.int (iI 129)]) (rest := []) ⟨hx, hb, hml, hown, hT⟩ (c_B_app l dC dI s.heap.size b r cA w t z L 129 (hok) (by omega) (by omega)) (cwV 1 hT (gV wd458 wd221 wd222 wd27 wd223) rfl rfl rfl (by decide +kernel) ⟨show 3 + 1 ≤ 5 from by omega, show 8 + (2 + 11) + 130 ≤ 190 from by omega⟩) ⟨fun a U g mk q => by obtain ⟨q0, q1, qP, qK, qD⟩ := q; exact ⟨q0, q1, qP, va_K.moved (u := U) (U := U.calling g mk a) (Vm.Alike.refl U.vm) qK, qD⟩, va_recv hKc hPc (ci := 0) (q0 := 0) rfl rfl, fun U hU hW => ⟨rfl, by rw [hU], by rw [hU]; exact hPc, va_K.moved hW.alike hKc, hDc.weaken (fun _ _ _ _ => trivial)⟩⟩ rfl rfl hl.1 rfl (lv_room (Nat.le_of_ble_eq_true rfl)) dX3_writeLength_32 ⟨show 0 + (phB w) ≤ (phB w) from by omega, show 0 + (phB w) ≤ (phB w) from by omega⟩) hS (fun q _ h => hFc q h) hFc (fun v21 u k19 n20 tS H1 locs ht hvm hw hB hz1 hk1 hS => ?_)
      obtain ⟨r22, cA23, w24, t25, z26⟩ := u
      obtain ⟨hP1, hK1, hD1⟩ := hB
      rw [ht] at hP1
      have hK1 := va_K.moved hvm.symm hK1
      try dsimp only at hw
      obtain ⟨hP, hD⟩ := va_join (wr := [(rr, .inr (3, [.ref tp, .ref b, .ref n1, .ref n2]))]) (w1 := [(b, .inr (0, [.ref r22, .int (iI z26)])), (r22, .inl (cA23, w24, .inl (fun j => bI (t25 j))))]) hP hD [1, 2] [0] rfl rfl (by decide) (by decide) hk1 hFc hP1 hD1
      have hK := (hK.sub (tys' := []) [] rfl).app hK1
      generalize H1 = H at hP hS ⊢
      have hP : va_P (dC, dI) vwCl [(rr, .inr (3, [.ref tp, .ref b, .ref n1, .ref n2])), (b, .inr (0, [.ref r22, .int (iI z26)])), (r22, .inl (cA23, w24, .inl (fun j => bI (t25 j))))] H := hP
      have hD : va_D A [(rr, .inr (3, [.ref tp, .ref b, .ref n1, .ref n2])), (b, .inr (0, [.ref r22, .int (iI z26)])), (r22, .inl (cA23, w24, .inl (fun j => bI (t25 j))))] := hD
      have hK : va_K (dC, dI) vwCl [(cA23, .byte)] s := hK
      obtain ⟨hokv21, hNv21, rfl, hFv21, hGv21⟩ := hw
      refine W.eq (g2 := F0 m 35 ls []) rfl ?_
      refine lv_aload_n hx hb dX3_writeLength_35 rfl (lv_at hl 0 rfl) ?_
      refine va_get (D := (dC, dI)) (ci := 3) (v := .ref b) (C := RX3) (T := TX3) (N := 4) hx hb hT inX3 hown hK hP 0 rfl rfl 1 (by decide) (hT _ wd121) (fun _ h9 => h9) rfl dX3_writeLength_36 ?_
      refine lv_iload_n hx hb dX3_writeLength_39 rfl (lv_at hl 1 rfl) ?_
      have hPc := hP.sub (ws' := [(b, .inr (0, [.ref r22, .int (iI z26)])), (r22, .inl (cA23, w24, .inl (fun j => bI (t25 j))))]) [1, 2] rfl
      have hDc := hD.sub (ws' := [(b, .inr (0, [.ref r22, .int (iI z26)])), (r22, .inl (cA23, w24, .inl (fun j => bI (t25 j))))]) [1, 2] (by decide) rfl
      have hKc := hK.sub (tys' := [(cA23, .byte)]) [0] rfl
      have hFc := va_free (wc := [(b, .inr (0, [.ref r22, .int (iI z26)])), (r22, .inl (cA23, w24, .inl (fun j => bI (t25 j))))]) hD hS hA [1, 2] rfl
      refine mv_call (mv_runV (As := [.int (iI i)]) (rest := []) ⟨hx, hb, hml, hown, hT⟩ (c_B_app l dC dI H.size b r22 cA23 w24 t25 z26 (L ++ [129]) i (hokv21) (by omega) (by omega)) (cwV 1 hT (gV wd458 wd221 wd222 wd27 wd223) rfl rfl rfl (by decide +kernel) ⟨show 3 + 1 ≤ 5 from by omega, show 8 + (2 + 11) + 130 ≤ 190 from by omega⟩) ⟨fun a U g mk q => by obtain ⟨q0, q1, qP, qK, qD⟩ := q; exact ⟨q0, q1, qP, va_K.moved (u := U) (U := U.calling g mk a) (Vm.Alike.refl U.vm) qK, qD⟩, va_recv hKc hPc (ci := 0) (q0 := 0) rfl rfl, fun U hU hW => ⟨rfl, by rw [hU], by rw [hU]; exact hPc, va_K.moved hW.alike hKc, hDc.weaken (fun _ _ _ _ => trivial)⟩⟩ rfl rfl hl.1 rfl (lv_room (Nat.le_of_ble_eq_true rfl)) dX3_writeLength_40 ⟨show 0 + k19 + (phB w24) ≤ (phB w) from by omega, show 0 + n20 + (phB w24) ≤ (phB w) from by omega⟩) hS (fun q _ h => hFc q h) hFc (fun v29 u k27 n28 tS H1 locs ht hvm hw hB hz1 hk1 hS => ?_)
      obtain ⟨r30, cA31, w32, t33, z34⟩ := u
      obtain ⟨hP1, hK1, hD1⟩ := hB
      rw [ht] at hP1
      have hK1 := va_K.moved hvm.symm hK1
      try dsimp only at hw
      obtain ⟨hP, hD⟩ := va_join (wr := [(rr, .inr (3, [.ref tp, .ref b, .ref n1, .ref n2]))]) (w1 := [(b, .inr (0, [.ref r30, .int (iI z34)])), (r30, .inl (cA31, w32, .inl (fun j => bI (t33 j))))]) hP hD [1, 2] [0] rfl rfl (by decide) (by decide) hk1 hFc hP1 hD1
      have hK := (hK.sub (tys' := []) [] rfl).app hK1
      generalize H1 = H at hP hS ⊢
      have hP : va_P (dC, dI) vwCl [(rr, .inr (3, [.ref tp, .ref b, .ref n1, .ref n2])), (b, .inr (0, [.ref r30, .int (iI z34)])), (r30, .inl (cA31, w32, .inl (fun j => bI (t33 j))))] H := hP
      have hD : va_D A [(rr, .inr (3, [.ref tp, .ref b, .ref n1, .ref n2])), (b, .inr (0, [.ref r30, .int (iI z34)])), (r30, .inl (cA31, w32, .inl (fun j => bI (t33 j))))] := hD
      have hK : va_K (dC, dI) vwCl [(cA31, .byte)] s := hK
      obtain ⟨hokv29, hNv29, rfl, hFv29, hGv29⟩ := hw
      refine W.eq (g2 := F0 m 43 ls []) rfl ?_
      refine lv_goto (tgt := 66) hx hb dX3_writeLength_43 (by decide) ?_
      have hend : ((L ++ [129]) ++ [i]) = L ++ lnB i := by unfold lnB; first | (rw [if_pos (by omega)]; done) | (rw [if_neg (by omega), if_pos (by omega)]; simp [nb]; done) | (rw [if_neg (by omega), if_neg (by omega)]; simp [nb]; done)
      have hP9 := hP.sub (ws' := [(rr, .inr (3, [.ref tp, .ref b, .ref n1, .ref n2])), (b, .inr (0, [.ref r30, .int (iI z34)])), (r30, .inl (cA31, w32, .inl (fun j => bI (t33 j))))]) [0, 1, 2] rfl
      have hD9 := hD.sub (ws' := [(rr, .inr (3, [.ref tp, .ref b, .ref n1, .ref n2])), (b, .inr (0, [.ref r30, .int (iI z34)])), (r30, .inl (cA31, w32, .inl (fun j => bI (t33 j))))]) [0, 1, 2] (by decide) rfl
      have hK9 := hK.sub (tys' := [(cA31, .byte)]) [0] rfl
      exact mv_vret hx hb hr hlocks (fun tS ht hW => ⟨⟨_, (r30, cA31, w32, t33, z34), rfl, ⟨hend ▸ hokv29, by omega, rfl, by omega, by omega⟩, by rw [ht]; exact hP9, va_K.moved hW.alike hK9, hD9⟩, hS.F ht⟩) hS.2.2 dX3_writeLength_66
  · skip
    refine lv_aload_n hx hb dX3_writeLength_7 rfl (lv_at hl 0 rfl) ?_
    refine va_get (D := (dC, dI)) (ci := 3) (v := .ref b) (C := RX3) (T := TX3) (N := 4) hx hb hT inX3 hown hK hP 0 rfl rfl 1 (by decide) (hT _ wd121) (fun _ h9 => h9) rfl dX3_writeLength_8 ?_
    refine lv_iload_n hx hb dX3_writeLength_11 rfl (lv_at hl 1 rfl) ?_
    have hPc := hP.sub (ws' := [(b, .inr (0, [.ref r, .int (iI z)])), (r, .inl (cA, w, .inl (fun j => bI (t j))))]) [1, 2] rfl
    have hDc := hD.sub (ws' := [(b, .inr (0, [.ref r, .int (iI z)])), (r, .inl (cA, w, .inl (fun j => bI (t j))))]) [1, 2] (by decide) rfl
    have hKc := hK.sub (tys' := [(cA, .byte)]) [0] rfl
    have hFc := va_free (wc := [(b, .inr (0, [.ref r, .int (iI z)])), (r, .inl (cA, w, .inl (fun j => bI (t j))))]) hD hS hA [1, 2] rfl
    refine mv_call (mv_runV (As := [.int (iI i)]) (rest := []) ⟨hx, hb, hml, hown, hT⟩ (c_B_app l dC dI s.heap.size b r cA w t z L i (hok) (by omega) (by omega)) (cwV 1 hT (gV wd458 wd221 wd222 wd27 wd223) rfl rfl rfl (by decide +kernel) ⟨show 3 + 1 ≤ 5 from by omega, show 8 + (2 + 11) + 130 ≤ 190 from by omega⟩) ⟨fun a U g mk q => by obtain ⟨q0, q1, qP, qK, qD⟩ := q; exact ⟨q0, q1, qP, va_K.moved (u := U) (U := U.calling g mk a) (Vm.Alike.refl U.vm) qK, qD⟩, va_recv hKc hPc (ci := 0) (q0 := 0) rfl rfl, fun U hU hW => ⟨rfl, by rw [hU], by rw [hU]; exact hPc, va_K.moved hW.alike hKc, hDc.weaken (fun _ _ _ _ => trivial)⟩⟩ rfl rfl hl.1 rfl (lv_room (Nat.le_of_ble_eq_true rfl)) dX3_writeLength_12 ⟨show 0 + (phB w) ≤ (phB w) from by omega, show 0 + (phB w) ≤ (phB w) from by omega⟩) hS (fun q _ h => hFc q h) hFc (fun v37 u k35 n36 tS H1 locs ht hvm hw hB hz1 hk1 hS => ?_)
    obtain ⟨r38, cA39, w40, t41, z42⟩ := u
    obtain ⟨hP1, hK1, hD1⟩ := hB
    rw [ht] at hP1
    have hK1 := va_K.moved hvm.symm hK1
    try dsimp only at hw
    obtain ⟨hP, hD⟩ := va_join (wr := [(rr, .inr (3, [.ref tp, .ref b, .ref n1, .ref n2]))]) (w1 := [(b, .inr (0, [.ref r38, .int (iI z42)])), (r38, .inl (cA39, w40, .inl (fun j => bI (t41 j))))]) hP hD [1, 2] [0] rfl rfl (by decide) (by decide) hk1 hFc hP1 hD1
    have hK := (hK.sub (tys' := []) [] rfl).app hK1
    generalize H1 = H at hP hS ⊢
    have hP : va_P (dC, dI) vwCl [(rr, .inr (3, [.ref tp, .ref b, .ref n1, .ref n2])), (b, .inr (0, [.ref r38, .int (iI z42)])), (r38, .inl (cA39, w40, .inl (fun j => bI (t41 j))))] H := hP
    have hD : va_D A [(rr, .inr (3, [.ref tp, .ref b, .ref n1, .ref n2])), (b, .inr (0, [.ref r38, .int (iI z42)])), (r38, .inl (cA39, w40, .inl (fun j => bI (t41 j))))] := hD
    have hK : va_K (dC, dI) vwCl [(cA39, .byte)] s := hK
    obtain ⟨hokv37, hNv37, rfl, hFv37, hGv37⟩ := hw
    refine W.eq (g2 := F0 m 15 ls []) rfl ?_
    refine lv_goto (tgt := 66) hx hb dX3_writeLength_15 (by decide) ?_
    have hend : (L ++ [i]) = L ++ lnB i := by unfold lnB; first | (rw [if_pos (by omega)]; done) | (rw [if_neg (by omega), if_pos (by omega)]; simp [nb]; done) | (rw [if_neg (by omega), if_neg (by omega)]; simp [nb]; done)
    have hP9 := hP.sub (ws' := [(rr, .inr (3, [.ref tp, .ref b, .ref n1, .ref n2])), (b, .inr (0, [.ref r38, .int (iI z42)])), (r38, .inl (cA39, w40, .inl (fun j => bI (t41 j))))]) [0, 1, 2] rfl
    have hD9 := hD.sub (ws' := [(rr, .inr (3, [.ref tp, .ref b, .ref n1, .ref n2])), (b, .inr (0, [.ref r38, .int (iI z42)])), (r38, .inl (cA39, w40, .inl (fun j => bI (t41 j))))]) [0, 1, 2] (by decide) rfl
    have hK9 := hK.sub (tys' := [(cA39, .byte)]) [0] rfl
    exact mv_vret hx hb hr hlocks (fun tS ht hW => ⟨⟨_, (r38, cA39, w40, t41, z42), rfl, ⟨hend ▸ hokv37, by omega, rfl, by omega, by omega⟩, by rw [ht]; exact hP9, va_K.moved hW.alike hK9, hD9⟩, hS.F ht⟩) hS.2.2 dX3_writeLength_66
set_option maxHeartbeats 4000000 in
set_option maxRecDepth 100000 in
theorem c_R_wid (l : Launch) (dC : Nat → ClassId) (dI : Nat → Nat → Nat) (sz : Nat) (rr : Nat) (tp : Nat) (n1 : Nat) (n2 : Nat) (b : Nat) (r : Nat) (cA : ClassId) (w : Nat) (t : Nat → Int) (z : Int) (L : List Int) (x : Int) (y : Int) (cs : Int) (hok : okB w t z L) (hz4 : z ≤ 4000) (hx4 : 0 ≤ x ∧ x ≤ 3) (hy : 0 ≤ y ∧ y < 2147483648) (hcs : cs = 0 ∨ cs = 1) : mv_Met l yX3_writeIdentifier wsX3_writeIdentifier ({ frames := 5, cells := (phB w), slots := (phB w), locals := 190 }) (va_Pc [.ref rr, .int (iI x), .int (iI y), .int (iI cs)] (fun U => U.heap.size = sz ∧ va_P (dC, dI) vwCl [(rr, .inr (3, [.ref tp, .ref b, .ref n1, .ref n2])), (b, .inr (0, [.ref r, .int (iI z)])), (r, .inl (cA, w, .inl (fun j => bI (t j))))] U.heap ∧ va_K (dC, dI) vwCl [(cA, .byte)] U ∧ va_D (fun _ => True) [(rr, .inr (3, [.ref tp, .ref b, .ref n1, .ref n2])), (b, .inr (0, [.ref r, .int (iI z)])), (r, .inl (cA, w, .inl (fun j => bI (t j))))])) (mv_Q (fun (v : Option Value) (u : Nat × ClassId × Nat × (Nat → Int) × Int) (k n : Nat) => match u with | (r', cA', w', t', z') => okB w' t' z' (L ++ idB x y cs) ∧ (z ≤ z' ∧ z' ≤ z + 6 ∧ 64 ≤ w' ∧ w' ≤ 4096 ∧ z' ≤ (w' : Int)) ∧ v = none ∧ n + phB w' ≤ phB w ∧ k ≤ n) (fun (u : Nat × ClassId × Nat × (Nat → Int) × Int) (tS : State) => match u with | (r', cA', w', t', z') => va_P (dC, dI) vwCl [(rr, .inr (3, [.ref tp, .ref b, .ref n1, .ref n2])), (b, .inr (0, [.ref r', .int (iI z')])), (r', .inl (cA', w', .inl (fun j => bI (t' j))))] tS.heap ∧ va_K (dC, dI) vwCl [(cA', .byte)] tS ∧ va_D (va_A [(rr, .inr (3, [.ref tp, .ref b, .ref n1, .ref n2])), (b, .inr (0, [.ref r, .int (iI z)])), (r, .inl (cA, w, .inl (fun j => bI (t j))))] sz) [(rr, .inr (3, [.ref tp, .ref b, .ref n1, .ref n2])), (b, .inr (0, [.ref r', .int (iI z')])), (r', .inl (cA', w', .inl (fun j => bI (t' j))))]) (va_A [(rr, .inr (3, [.ref tp, .ref b, .ref n1, .ref n2])), (b, .inr (0, [.ref r, .int (iI z)])), (r, .inl (cA, w, .inl (fun j => bI (t j))))] sz)) (va_A [(rr, .inr (3, [.ref tp, .ref b, .ref n1, .ref n2])), (b, .inr (0, [.ref r, .int (iI z)])), (r, .inl (cA, w, .inl (fun j => bI (t j))))] sz) := by
  refine mv_ofW (cc := cX3_writeIdentifier) (maxL := 6) (ret := none) (by decide) rfl ?_
  intro p e s m args below meth c s₁ B hml hv
  obtain ⟨rfl, hsz, hP, hK, hD0⟩ := hv
  have hx := B.exec
  have hb := B.bytes
  have hr := B.returns
  have hT : ∀ w ∈ wT, w.before _ s = true := fun w h => atoms_spec (ws := wsX3_writeIdentifier) B.pre w (List.mem_cons_of_mem _ h)
  have hown : s.vm.findClass RX3 = some m.cls := findClass_of_methodNamed B.named
  have hlocks := B.notSynchronized
  subst hsz
  have hD := hD0.self (sz := s.heap.size)
  generalize hAe : va_A [(rr, .inr (3, [.ref tp, .ref b, .ref n1, .ref n2])), (b, .inr (0, [.ref r, .int (iI z)])), (r, .inl (cA, w, .inl (fun j => bI (t j))))] s.heap.size = A at hD ⊢
  have hA : ∀ q : Nat, s.heap.size ≤ q → A q := fun q h => by rw [← hAe]; exact Or.inr h
  have hS : va_S A s.heap s.heap [] := va_S.rf
  have hP : va_P (dC, dI) vwCl [(rr, .inr (3, [.ref tp, .ref b, .ref n1, .ref n2])), (b, .inr (0, [.ref r, .int (iI z)])), (r, .inl (cA, w, .inl (fun j => bI (t j))))] s.heap := hP
  have hl := lv_entry ([.ref rr, .int (iI x), .int (iI y), .int (iI cs)]) (n := 6) (Nat.le_of_ble_eq_true rfl)
  rw [lg_entry_eq]
  generalize (lg_sl ([.ref rr, .int (iI x), .int (iI y), .int (iI cs)]) ++ List.replicate (6 - (lg_sl ([.ref rr, .int (iI x), .int (iI y), .int (iI cs)])).length) Slot.unset).toArray = ls at hl ⊢
  have hl : lv_has ls 6 [(0, .ref rr), (1, .int (iI x)), (2, .int (iI y)), (3, .int (iI cs))] := hl
  obtain ⟨hw1, hw2, hw3, hw4, hw5, hw6⟩ := id hok
  refine mv_nameQ (fun Q9 hQ9 => ?_)
  have LP : ∀ (fu : Nat) (g : Int) (j : Int) (r1 : Nat) (cA1 : ClassId) (w1 : Nat) (t1 : Nat → Int) (z1 : Int) (L1 : List Int) (H : Heap) (locs : List Loc) (ls : Array Slot) (kc ks : Nat), (j < (fu : Int) * 7) → (0 ≤ j ∧ j ≤ 28 ∧ j % 7 = 0) → (okB w1 t1 z1 L1) → (z ≤ z1 ∧ z1 + j / 7 + 1 ≤ z + 6) → (L1 ++ sv y (j / 7).toNat = L ++ idB x y cs) → (ks + phB w1 ≤ phB w) → (kc ≤ ks) → va_K (dC, dI) vwCl [(cA1, .byte)] s → va_P (dC, dI) vwCl [(rr, .inr (3, [.ref tp, .ref b, .ref n1, .ref n2])), (b, .inr (0, [.ref r1, .int (iI z1)])), (r1, .inl (cA1, w1, .inl (fun j => bI (t1 j))))] H → va_D A [(rr, .inr (3, [.ref tp, .ref b, .ref n1, .ref n2])), (b, .inr (0, [.ref r1, .int (iI z1)])), (r1, .inl (cA1, w1, .inl (fun j => bI (t1 j))))] → va_S A s.heap H locs → lv_has ls 6 [(0, .ref rr), (1, .int (iI x)), (2, .int (iI y)), (3, .int (iI cs)), (4, .int (iI g)), (5, .int (iI j))] → W p l e ({ frames := 5, cells := (phB w), slots := (phB w), locals := 190 }) s m ([.ref rr, .int (iI x), .int (iI y), .int (iI cs)] : List Value).toArray below meth c H locs kc ks Q9 (F0 m 51 ls []) := by
    intro fu
    induction fu with
    | zero =>
      intro g j r1 cA1 w1 t1 z1 L1 H locs ls kc ks hfu hj hok1 hz1 hL1 hks hkc hK hP hD hS hl
      exfalso
      omega
    | succ fu ih =>
      intro g j r1 cA1 w1 t1 z1 L1 H locs ls kc ks hfu hj hok1 hz1 hL1 hks hkc hK hP hD hS hl
      obtain ⟨a1, a2, a3, a4, a5, a6⟩ := id hok1
      have hq9 := shr_rng hy (j := j) (by omega)
      refine lv_iload hx hb dX3_writeIdentifier_51 (lv_at hl 5 rfl) ?_
      refine lv_bipush (v := iI 7) hx hb dX3_writeIdentifier_53 (by decide +kernel) ?_
      refine li_icmp_lt (tgt := 89) hx hb (by omega) (by omega) dX3_writeIdentifier_55 (by decide) (fun c1 => ?_) (fun c1 => ?_)
      · skip
        refine lv_aload_n hx hb dX3_writeIdentifier_89 rfl (lv_at hl 0 rfl) ?_
        refine va_get (D := (dC, dI)) (ci := 3) (v := .ref b) (C := RX3) (T := TX3) (N := 4) hx hb hT inX3 hown hK hP 0 rfl rfl 1 (by decide) (hT _ wd121) (fun _ h9 => h9) rfl dX3_writeIdentifier_90 ?_
        refine lv_iload_n hx hb dX3_writeIdentifier_93 rfl (lv_at hl 2 rfl) ?_
        refine lv_bipush (v := iI 127) hx hb dX3_writeIdentifier_94 (by decide +kernel) ?_
        refine li_iand127 hx hb dX3_writeIdentifier_96 ?_
        have hPc := hP.sub (ws' := [(b, .inr (0, [.ref r1, .int (iI z1)])), (r1, .inl (cA1, w1, .inl (fun j => bI (t1 j))))]) [1, 2] rfl
        have hDc := hD.sub (ws' := [(b, .inr (0, [.ref r1, .int (iI z1)])), (r1, .inl (cA1, w1, .inl (fun j => bI (t1 j))))]) [1, 2] (by decide) rfl
        have hKc := hK.sub (tys' := [(cA1, .byte)]) [0] rfl
        have hFc := va_free (wc := [(b, .inr (0, [.ref r1, .int (iI z1)])), (r1, .inl (cA1, w1, .inl (fun j => bI (t1 j))))]) hD hS hA [1, 2] rfl
        refine mv_call (mv_runV (As := [.int (iI (y % 128))]) (rest := []) ⟨hx, hb, hml, hown, hT⟩ (c_B_app l dC dI H.size b r1 cA1 w1 t1 z1 L1 (y % 128) (hok1) (by omega) (by omega)) (cwV 1 hT (gV wd458 wd221 wd222 wd27 wd223) rfl rfl rfl (by decide +kernel) ⟨show 3 + 1 ≤ 5 from by omega, show 8 + (2 + 11) + 130 ≤ 190 from by omega⟩) ⟨fun a U g mk q => by obtain ⟨q0, q1, qP, qK, qD⟩ := q; exact ⟨q0, q1, qP, va_K.moved (u := U) (U := U.calling g mk a) (Vm.Alike.refl U.vm) qK, qD⟩, va_recv hKc hPc (ci := 0) (q0 := 0) rfl rfl, fun U hU hW => ⟨rfl, by rw [hU], by rw [hU]; exact hPc, va_K.moved hW.alike hKc, hDc.weaken (fun _ _ _ _ => trivial)⟩⟩ rfl rfl hl.1 rfl (lv_room (Nat.le_of_ble_eq_true rfl)) dX3_writeIdentifier_97 ⟨show kc + (phB w1) ≤ (phB w) from by omega, show ks + (phB w1) ≤ (phB w) from by omega⟩) hS (fun q _ h => hFc q h) hFc (fun v4 u k2 n3 tS H1 locs ht hvm hw hB hz1 hk1 hS => ?_)
        obtain ⟨r5, cA6, w7, t8, z9⟩ := u
        obtain ⟨hP1, hK1, hD1⟩ := hB
        rw [ht] at hP1
        have hK1 := va_K.moved hvm.symm hK1
        try dsimp only at hw
        obtain ⟨hP, hD⟩ := va_join (wr := [(rr, .inr (3, [.ref tp, .ref b, .ref n1, .ref n2]))]) (w1 := [(b, .inr (0, [.ref r5, .int (iI z9)])), (r5, .inl (cA6, w7, .inl (fun j => bI (t8 j))))]) hP hD [1, 2] [0] rfl rfl (by decide) (by decide) hk1 hFc hP1 hD1
        have hK := (hK.sub (tys' := []) [] rfl).app hK1
        generalize H1 = H at hP hS ⊢
        have hP : va_P (dC, dI) vwCl [(rr, .inr (3, [.ref tp, .ref b, .ref n1, .ref n2])), (b, .inr (0, [.ref r5, .int (iI z9)])), (r5, .inl (cA6, w7, .inl (fun j => bI (t8 j))))] H := hP
        have hD : va_D A [(rr, .inr (3, [.ref tp, .ref b, .ref n1, .ref n2])), (b, .inr (0, [.ref r5, .int (iI z9)])), (r5, .inl (cA6, w7, .inl (fun j => bI (t8 j))))] := hD
        have hK : va_K (dC, dI) vwCl [(cA6, .byte)] s := hK
        obtain ⟨hokv4, hNv4, rfl, hFv4, hGv4⟩ := hw
        refine W.eq (g2 := F0 m 100 ls []) rfl ?_
        have hend : (L1 ++ [(y % 128)]) = L ++ idB x y cs := by rw [← hL1, sv_0 (by omega) (by omega) (by omega)]
        subst hQ9
        have hP9 := hP.sub (ws' := [(rr, .inr (3, [.ref tp, .ref b, .ref n1, .ref n2])), (b, .inr (0, [.ref r5, .int (iI z9)])), (r5, .inl (cA6, w7, .inl (fun j => bI (t8 j))))]) [0, 1, 2] rfl
        have hD9 := hD.sub (ws' := [(rr, .inr (3, [.ref tp, .ref b, .ref n1, .ref n2])), (b, .inr (0, [.ref r5, .int (iI z9)])), (r5, .inl (cA6, w7, .inl (fun j => bI (t8 j))))]) [0, 1, 2] (by decide) rfl
        have hK9 := hK.sub (tys' := [(cA6, .byte)]) [0] rfl
        exact mv_vret hx hb hr hlocks (fun tS ht hW => ⟨⟨_, (r5, cA6, w7, t8, z9), rfl, ⟨hend ▸ hokv4, by omega, rfl, by omega, by omega⟩, by rw [ht]; exact hP9, va_K.moved hW.alike hK9, hD9⟩, hS.F ht⟩) hS.2.2 dX3_writeIdentifier_100
      · skip
        refine lv_iload_n hx hb dX3_writeIdentifier_58 rfl (lv_at hl 2 rfl) ?_
        refine lv_iload hx hb dX3_writeIdentifier_59 (lv_at hl 5 rfl) ?_
        refine li_ishr hx hb (by omega) (by omega) dX3_writeIdentifier_61 ?_
        refine li_if_eq (tgt := 83) hx hb (by omega) dX3_writeIdentifier_62 (by decide) (fun c10 => ?_) (fun c10 => ?_)
        · skip
          obtain ⟨z11, ez11⟩ : ∃ y : Int, y = j + (-7) := ⟨_, rfl⟩
          refine lv_iinc (v := iI z11) (lv' := [(5, .int (iI z11)), (0, .ref rr), (1, .int (iI x)), (2, .int (iI y)), (3, .int (iI cs)), (4, .int (iI g))]) hx hb dX3_writeIdentifier_83 hl (k := 5) rfl (by rw [ez11]; exact iI_add _ _) (by decide) rfl (fun ls hl => ?_)
          refine lv_goto (tgt := 51) hx hb dX3_writeIdentifier_86 (by decide) ?_
          exact ih g z11 r1 cA1 w1 t1 z1 L1 _ _ _ _ _ (by omega) (by omega) (hok1) (by omega) (by rw [← hL1, sv_s (h := j) (by omega) (by omega), if_pos (by omega), show j - 7 = z11 by omega]; rfl) (by omega) (by omega) (hK.sub [0] rfl) (hP.sub [0, 1, 2] rfl) (hD.sub [0, 1, 2] (by decide) rfl) hS (lv_sub hl [1, 2, 3, 4, 5, 0] rfl)
        · skip
          refine lv_aload_n hx hb dX3_writeIdentifier_65 rfl (lv_at hl 0 rfl) ?_
          refine va_get (D := (dC, dI)) (ci := 3) (v := .ref b) (C := RX3) (T := TX3) (N := 4) hx hb hT inX3 hown hK hP 0 rfl rfl 1 (by decide) (hT _ wd121) (fun _ h9 => h9) rfl dX3_writeIdentifier_66 ?_
          refine lv_sipush (v := iI 128) hx hb dX3_writeIdentifier_69 (by decide +kernel) ?_
          refine lv_iload_n hx hb dX3_writeIdentifier_72 rfl (lv_at hl 2 rfl) ?_
          refine lv_iload hx hb dX3_writeIdentifier_73 (lv_at hl 5 rfl) ?_
          refine li_ishr hx hb (by omega) (by omega) dX3_writeIdentifier_75 ?_
          refine lv_bipush (v := iI 127) hx hb dX3_writeIdentifier_76 (by decide +kernel) ?_
          refine li_iand127 hx hb dX3_writeIdentifier_78 ?_
          refine li_iadd hx hb dX3_writeIdentifier_79 ?_
          have hPc := hP.sub (ws' := [(b, .inr (0, [.ref r1, .int (iI z1)])), (r1, .inl (cA1, w1, .inl (fun j => bI (t1 j))))]) [1, 2] rfl
          have hDc := hD.sub (ws' := [(b, .inr (0, [.ref r1, .int (iI z1)])), (r1, .inl (cA1, w1, .inl (fun j => bI (t1 j))))]) [1, 2] (by decide) rfl
          have hKc := hK.sub (tys' := [(cA1, .byte)]) [0] rfl
          have hFc := va_free (wc := [(b, .inr (0, [.ref r1, .int (iI z1)])), (r1, .inl (cA1, w1, .inl (fun j => bI (t1 j))))]) hD hS hA [1, 2] rfl
          refine mv_call (mv_runV (As := [.int (iI (128 + ((y / 2 ^ (j : Int).toNat) % 128)))]) (rest := []) ⟨hx, hb, hml, hown, hT⟩ (c_B_app l dC dI H.size b r1 cA1 w1 t1 z1 L1 (128 + ((y / 2 ^ (j : Int).toNat) % 128)) (hok1) (by omega) (by omega)) (cwV 1 hT (gV wd458 wd221 wd222 wd27 wd223) rfl rfl rfl (by decide +kernel) ⟨show 3 + 1 ≤ 5 from by omega, show 8 + (2 + 11) + 130 ≤ 190 from by omega⟩) ⟨fun a U g mk q => by obtain ⟨q0, q1, qP, qK, qD⟩ := q; exact ⟨q0, q1, qP, va_K.moved (u := U) (U := U.calling g mk a) (Vm.Alike.refl U.vm) qK, qD⟩, va_recv hKc hPc (ci := 0) (q0 := 0) rfl rfl, fun U hU hW => ⟨rfl, by rw [hU], by rw [hU]; exact hPc, va_K.moved hW.alike hKc, hDc.weaken (fun _ _ _ _ => trivial)⟩⟩ rfl rfl hl.1 rfl (lv_room (Nat.le_of_ble_eq_true rfl)) dX3_writeIdentifier_80 ⟨show kc + (phB w1) ≤ (phB w) from by omega, show ks + (phB w1) ≤ (phB w) from by omega⟩) hS (fun q _ h => hFc q h) hFc (fun v14 u k12 n13 tS H1 locs ht hvm hw hB hz1 hk1 hS => ?_)
          obtain ⟨r15, cA16, w17, t18, z19⟩ := u
          obtain ⟨hP1, hK1, hD1⟩ := hB
          rw [ht] at hP1
          have hK1 := va_K.moved hvm.symm hK1
          try dsimp only at hw
          obtain ⟨hP, hD⟩ := va_join (wr := [(rr, .inr (3, [.ref tp, .ref b, .ref n1, .ref n2]))]) (w1 := [(b, .inr (0, [.ref r15, .int (iI z19)])), (r15, .inl (cA16, w17, .inl (fun j => bI (t18 j))))]) hP hD [1, 2] [0] rfl rfl (by decide) (by decide) hk1 hFc hP1 hD1
          have hK := (hK.sub (tys' := []) [] rfl).app hK1
          generalize H1 = H at hP hS ⊢
          have hP : va_P (dC, dI) vwCl [(rr, .inr (3, [.ref tp, .ref b, .ref n1, .ref n2])), (b, .inr (0, [.ref r15, .int (iI z19)])), (r15, .inl (cA16, w17, .inl (fun j => bI (t18 j))))] H := hP
          have hD : va_D A [(rr, .inr (3, [.ref tp, .ref b, .ref n1, .ref n2])), (b, .inr (0, [.ref r15, .int (iI z19)])), (r15, .inl (cA16, w17, .inl (fun j => bI (t18 j))))] := hD
          have hK : va_K (dC, dI) vwCl [(cA16, .byte)] s := hK
          obtain ⟨hokv14, hNv14, rfl, hFv14, hGv14⟩ := hw
          refine W.eq (g2 := F0 m 83 ls []) rfl ?_
          obtain ⟨z20, ez20⟩ : ∃ y : Int, y = j + (-7) := ⟨_, rfl⟩
          refine lv_iinc (v := iI z20) (lv' := [(5, .int (iI z20)), (0, .ref rr), (1, .int (iI x)), (2, .int (iI y)), (3, .int (iI cs)), (4, .int (iI g))]) hx hb dX3_writeIdentifier_83 hl (k := 5) rfl (by rw [ez20]; exact iI_add _ _) (by decide) rfl (fun ls hl => ?_)
          refine lv_goto (tgt := 51) hx hb dX3_writeIdentifier_86 (by decide) ?_
          exact ih g z20 r15 cA16 w17 t18 z19 (L1 ++ [(128 + ((y / 2 ^ (j : Int).toNat) % 128))]) _ _ _ _ _ (by omega) (by omega) (hokv14) (by omega) (by rw [← hL1, sv_s (h := j) (by omega) (by omega), if_neg (by omega), show j - 7 = z20 by omega, List.append_assoc]) (by omega) (by omega) (hK.sub [0] rfl) (hP.sub [0, 1, 2] rfl) (hD.sub [0, 1, 2] (by decide) rfl) hS (lv_sub hl [1, 2, 3, 4, 5, 0] rfl)
  refine lv_iload_n hx hb dX3_writeIdentifier_0 rfl (lv_at hl 1 rfl) ?_
  refine lv_bipush (v := iI 64) hx hb dX3_writeIdentifier_1 (by decide +kernel) ?_
  refine li_imul hx hb dX3_writeIdentifier_3 ?_
  refine lv_iload_n hx hb dX3_writeIdentifier_4 rfl (lv_at hl 3 rfl) ?_
  refine li_if_eq (tgt := 13) hx hb (by omega) dX3_writeIdentifier_5 (by decide) (fun c21 => ?_) (fun c21 => ?_)
  · skip
    refine lv_iconst (v := iI 0) hx hb dX3_writeIdentifier_13 rfl ?_
    refine li_iadd hx hb dX3_writeIdentifier_14 ?_
    refine li_nm (fun z22 ez22 => ?_)
    refine lv_istore (lv' := [(4, .int (iI z22)), (0, .ref rr), (1, .int (iI x)), (2, .int (iI y)), (3, .int (iI cs))]) hx hb dX3_writeIdentifier_15 hl (by decide) rfl (fun ls hl => ?_)
    refine lv_iload_n hx hb dX3_writeIdentifier_17 rfl (lv_at hl 3 rfl) ?_
    refine lv_bipush (v := iI 31) hx hb dX3_writeIdentifier_18 (by decide +kernel) ?_
    refine li_icmp_ge (tgt := 35) hx hb (by omega) (by omega) dX3_writeIdentifier_20 (by decide) (fun c23 => ?_) (fun c23 => ?_)
    · skip
      refine lv_aload_n hx hb dX3_writeIdentifier_35 rfl (lv_at hl 1 rfl) ?_
      refine va_get (D := (dC, dI)) (ci := 3) (v := .ref b) (C := RX3) (T := TX3) (N := 4) hx hb hT inX3 hown hK hP 0 rfl rfl 1 (by decide) (hT _ wd121) (fun _ h9 => h9) rfl dX3_writeIdentifier_36 ?_
      refine lv_iload hx hb dX3_writeIdentifier_39 (lv_at hl 0 rfl) ?_
      refine lv_bipush (v := iI 31) hx hb dX3_writeIdentifier_41 (by decide +kernel) ?_
      refine li_iadd hx hb dX3_writeIdentifier_43 ?_
      have hPc := hP.sub (ws' := [(b, .inr (0, [.ref r, .int (iI z)])), (r, .inl (cA, w, .inl (fun j => bI (t j))))]) [1, 2] rfl
      have hDc := hD.sub (ws' := [(b, .inr (0, [.ref r, .int (iI z)])), (r, .inl (cA, w, .inl (fun j => bI (t j))))]) [1, 2] (by decide) rfl
      have hKc := hK.sub (tys' := [(cA, .byte)]) [0] rfl
      have hFc := va_free (wc := [(b, .inr (0, [.ref r, .int (iI z)])), (r, .inl (cA, w, .inl (fun j => bI (t j))))]) hD hS hA [1, 2] rfl
      refine mv_call (mv_runV (As := [.int (iI (z22 + 31))]) (rest := []) ⟨hx, hb, hml, hown, hT⟩ (c_B_app l dC dI s.heap.size b r cA w t z L (z22 + 31) (hok) (by omega) (by omega)) (cwV 1 hT (gV wd458 wd221 wd222 wd27 wd223) rfl rfl rfl (by decide +kernel) ⟨show 3 + 1 ≤ 5 from by omega, show 8 + (2 + 11) + 130 ≤ 190 from by omega⟩) ⟨fun a U g mk q => by obtain ⟨q0, q1, qP, qK, qD⟩ := q; exact ⟨q0, q1, qP, va_K.moved (u := U) (U := U.calling g mk a) (Vm.Alike.refl U.vm) qK, qD⟩, va_recv hKc hPc (ci := 0) (q0 := 0) rfl rfl, fun U hU hW => ⟨rfl, by rw [hU], by rw [hU]; exact hPc, va_K.moved hW.alike hKc, hDc.weaken (fun _ _ _ _ => trivial)⟩⟩ rfl rfl hl.1 rfl (lv_room (Nat.le_of_ble_eq_true rfl)) dX3_writeIdentifier_44 ⟨show 0 + (phB w) ≤ (phB w) from by omega, show 0 + (phB w) ≤ (phB w) from by omega⟩) hS (fun q _ h => hFc q h) hFc (fun v26 u k24 n25 tS H1 locs ht hvm hw hB hz1 hk1 hS => ?_)
      obtain ⟨r27, cA28, w29, t30, z31⟩ := u
      obtain ⟨hP1, hK1, hD1⟩ := hB
      rw [ht] at hP1
      have hK1 := va_K.moved hvm.symm hK1
      try dsimp only at hw
      obtain ⟨hP, hD⟩ := va_join (wr := [(rr, .inr (3, [.ref tp, .ref b, .ref n1, .ref n2]))]) (w1 := [(b, .inr (0, [.ref r27, .int (iI z31)])), (r27, .inl (cA28, w29, .inl (fun j => bI (t30 j))))]) hP hD [1, 2] [0] rfl rfl (by decide) (by decide) hk1 hFc hP1 hD1
      have hK := (hK.sub (tys' := []) [] rfl).app hK1
      generalize H1 = H at hP hS ⊢
      have hP : va_P (dC, dI) vwCl [(rr, .inr (3, [.ref tp, .ref b, .ref n1, .ref n2])), (b, .inr (0, [.ref r27, .int (iI z31)])), (r27, .inl (cA28, w29, .inl (fun j => bI (t30 j))))] H := hP
      have hD : va_D A [(rr, .inr (3, [.ref tp, .ref b, .ref n1, .ref n2])), (b, .inr (0, [.ref r27, .int (iI z31)])), (r27, .inl (cA28, w29, .inl (fun j => bI (t30 j))))] := hD
      have hK : va_K (dC, dI) vwCl [(cA28, .byte)] s := hK
      obtain ⟨hokv26, hNv26, rfl, hFv26, hGv26⟩ := hw
      refine W.eq (g2 := F0 m 47 ls []) rfl ?_
      refine lv_bipush (v := iI 28) hx hb dX3_writeIdentifier_47 (by decide +kernel) ?_
      refine lv_istore (lv' := [(5, .int (iI 28)), (4, .int (iI z22)), (0, .ref rr), (1, .int (iI x)), (2, .int (iI y)), (3, .int (iI cs))]) hx hb dX3_writeIdentifier_49 hl (by decide) rfl (fun ls hl => ?_)
      exact LP (6) z22 28 r27 cA28 w29 t30 z31 (L ++ [(z22 + 31)]) _ _ _ _ _ (by omega) (by omega) (hokv26) (by omega) (by unfold idB; rw [if_neg (by omega), List.append_assoc]; congr 1; show _ :: _ = _; congr 1; omega) (by omega) (by omega) (hK.sub [0] rfl) (hP.sub [0, 1, 2] rfl) (hD.sub [0, 1, 2] (by decide) rfl) hS (lv_sub hl [2, 3, 4, 5, 1, 0] rfl)
    · skip
      refine lv_aload_n hx hb dX3_writeIdentifier_23 rfl (lv_at hl 1 rfl) ?_
      refine va_get (D := (dC, dI)) (ci := 3) (v := .ref b) (C := RX3) (T := TX3) (N := 4) hx hb hT inX3 hown hK hP 0 rfl rfl 1 (by decide) (hT _ wd121) (fun _ h9 => h9) rfl dX3_writeIdentifier_24 ?_
      refine lv_iload hx hb dX3_writeIdentifier_27 (lv_at hl 0 rfl) ?_
      refine lv_iload_n hx hb dX3_writeIdentifier_29 rfl (lv_at hl 3 rfl) ?_
      refine li_iadd hx hb dX3_writeIdentifier_30 ?_
      have hPc := hP.sub (ws' := [(b, .inr (0, [.ref r, .int (iI z)])), (r, .inl (cA, w, .inl (fun j => bI (t j))))]) [1, 2] rfl
      have hDc := hD.sub (ws' := [(b, .inr (0, [.ref r, .int (iI z)])), (r, .inl (cA, w, .inl (fun j => bI (t j))))]) [1, 2] (by decide) rfl
      have hKc := hK.sub (tys' := [(cA, .byte)]) [0] rfl
      have hFc := va_free (wc := [(b, .inr (0, [.ref r, .int (iI z)])), (r, .inl (cA, w, .inl (fun j => bI (t j))))]) hD hS hA [1, 2] rfl
      refine mv_call (mv_runV (As := [.int (iI (z22 + y))]) (rest := []) ⟨hx, hb, hml, hown, hT⟩ (c_B_app l dC dI s.heap.size b r cA w t z L (z22 + y) (hok) (by omega) (by omega)) (cwV 1 hT (gV wd458 wd221 wd222 wd27 wd223) rfl rfl rfl (by decide +kernel) ⟨show 3 + 1 ≤ 5 from by omega, show 8 + (2 + 11) + 130 ≤ 190 from by omega⟩) ⟨fun a U g mk q => by obtain ⟨q0, q1, qP, qK, qD⟩ := q; exact ⟨q0, q1, qP, va_K.moved (u := U) (U := U.calling g mk a) (Vm.Alike.refl U.vm) qK, qD⟩, va_recv hKc hPc (ci := 0) (q0 := 0) rfl rfl, fun U hU hW => ⟨rfl, by rw [hU], by rw [hU]; exact hPc, va_K.moved hW.alike hKc, hDc.weaken (fun _ _ _ _ => trivial)⟩⟩ rfl rfl hl.1 rfl (lv_room (Nat.le_of_ble_eq_true rfl)) dX3_writeIdentifier_31 ⟨show 0 + (phB w) ≤ (phB w) from by omega, show 0 + (phB w) ≤ (phB w) from by omega⟩) hS (fun q _ h => hFc q h) hFc (fun v34 u k32 n33 tS H1 locs ht hvm hw hB hz1 hk1 hS => ?_)
      obtain ⟨r35, cA36, w37, t38, z39⟩ := u
      obtain ⟨hP1, hK1, hD1⟩ := hB
      rw [ht] at hP1
      have hK1 := va_K.moved hvm.symm hK1
      try dsimp only at hw
      obtain ⟨hP, hD⟩ := va_join (wr := [(rr, .inr (3, [.ref tp, .ref b, .ref n1, .ref n2]))]) (w1 := [(b, .inr (0, [.ref r35, .int (iI z39)])), (r35, .inl (cA36, w37, .inl (fun j => bI (t38 j))))]) hP hD [1, 2] [0] rfl rfl (by decide) (by decide) hk1 hFc hP1 hD1
      have hK := (hK.sub (tys' := []) [] rfl).app hK1
      generalize H1 = H at hP hS ⊢
      have hP : va_P (dC, dI) vwCl [(rr, .inr (3, [.ref tp, .ref b, .ref n1, .ref n2])), (b, .inr (0, [.ref r35, .int (iI z39)])), (r35, .inl (cA36, w37, .inl (fun j => bI (t38 j))))] H := hP
      have hD : va_D A [(rr, .inr (3, [.ref tp, .ref b, .ref n1, .ref n2])), (b, .inr (0, [.ref r35, .int (iI z39)])), (r35, .inl (cA36, w37, .inl (fun j => bI (t38 j))))] := hD
      have hK : va_K (dC, dI) vwCl [(cA36, .byte)] s := hK
      obtain ⟨hokv34, hNv34, rfl, hFv34, hGv34⟩ := hw
      refine W.eq (g2 := F0 m 34 ls []) rfl ?_
      have hend : (L ++ [(z22 + y)]) = L ++ idB x y cs := by unfold idB; rw [if_pos (by omega)]; congr 2; omega
      subst hQ9
      have hP9 := hP.sub (ws' := [(rr, .inr (3, [.ref tp, .ref b, .ref n1, .ref n2])), (b, .inr (0, [.ref r35, .int (iI z39)])), (r35, .inl (cA36, w37, .inl (fun j => bI (t38 j))))]) [0, 1, 2] rfl
      have hD9 := hD.sub (ws' := [(rr, .inr (3, [.ref tp, .ref b, .ref n1, .ref n2])), (b, .inr (0, [.ref r35, .int (iI z39)])), (r35, .inl (cA36, w37, .inl (fun j => bI (t38 j))))]) [0, 1, 2] (by decide) rfl
      have hK9 := hK.sub (tys' := [(cA36, .byte)]) [0] rfl
      exact mv_vret hx hb hr hlocks (fun tS ht hW => ⟨⟨_, (r35, cA36, w37, t38, z39), rfl, ⟨hend ▸ hokv34, by omega, rfl, by omega, by omega⟩, by rw [ht]; exact hP9, va_K.moved hW.alike hK9, hD9⟩, hS.F ht⟩) hS.2.2 dX3_writeIdentifier_34
  · skip
    refine lv_bipush (v := iI 32) hx hb dX3_writeIdentifier_8 (by decide +kernel) ?_
    refine lv_goto (tgt := 14) hx hb dX3_writeIdentifier_10 (by decide) ?_
    refine li_iadd hx hb dX3_writeIdentifier_14 ?_
    refine li_nm (fun z40 ez40 => ?_)
    refine lv_istore (lv' := [(4, .int (iI z40)), (0, .ref rr), (1, .int (iI x)), (2, .int (iI y)), (3, .int (iI cs))]) hx hb dX3_writeIdentifier_15 hl (by decide) rfl (fun ls hl => ?_)
    refine lv_iload_n hx hb dX3_writeIdentifier_17 rfl (lv_at hl 3 rfl) ?_
    refine lv_bipush (v := iI 31) hx hb dX3_writeIdentifier_18 (by decide +kernel) ?_
    refine li_icmp_ge (tgt := 35) hx hb (by omega) (by omega) dX3_writeIdentifier_20 (by decide) (fun c41 => ?_) (fun c41 => ?_)
    · skip
      refine lv_aload_n hx hb dX3_writeIdentifier_35 rfl (lv_at hl 1 rfl) ?_
      refine va_get (D := (dC, dI)) (ci := 3) (v := .ref b) (C := RX3) (T := TX3) (N := 4) hx hb hT inX3 hown hK hP 0 rfl rfl 1 (by decide) (hT _ wd121) (fun _ h9 => h9) rfl dX3_writeIdentifier_36 ?_
      refine lv_iload hx hb dX3_writeIdentifier_39 (lv_at hl 0 rfl) ?_
      refine lv_bipush (v := iI 31) hx hb dX3_writeIdentifier_41 (by decide +kernel) ?_
      refine li_iadd hx hb dX3_writeIdentifier_43 ?_
      have hPc := hP.sub (ws' := [(b, .inr (0, [.ref r, .int (iI z)])), (r, .inl (cA, w, .inl (fun j => bI (t j))))]) [1, 2] rfl
      have hDc := hD.sub (ws' := [(b, .inr (0, [.ref r, .int (iI z)])), (r, .inl (cA, w, .inl (fun j => bI (t j))))]) [1, 2] (by decide) rfl
      have hKc := hK.sub (tys' := [(cA, .byte)]) [0] rfl
      have hFc := va_free (wc := [(b, .inr (0, [.ref r, .int (iI z)])), (r, .inl (cA, w, .inl (fun j => bI (t j))))]) hD hS hA [1, 2] rfl
      refine mv_call (mv_runV (As := [.int (iI (z40 + 31))]) (rest := []) ⟨hx, hb, hml, hown, hT⟩ (c_B_app l dC dI s.heap.size b r cA w t z L (z40 + 31) (hok) (by omega) (by omega)) (cwV 1 hT (gV wd458 wd221 wd222 wd27 wd223) rfl rfl rfl (by decide +kernel) ⟨show 3 + 1 ≤ 5 from by omega, show 8 + (2 + 11) + 130 ≤ 190 from by omega⟩) ⟨fun a U g mk q => by obtain ⟨q0, q1, qP, qK, qD⟩ := q; exact ⟨q0, q1, qP, va_K.moved (u := U) (U := U.calling g mk a) (Vm.Alike.refl U.vm) qK, qD⟩, va_recv hKc hPc (ci := 0) (q0 := 0) rfl rfl, fun U hU hW => ⟨rfl, by rw [hU], by rw [hU]; exact hPc, va_K.moved hW.alike hKc, hDc.weaken (fun _ _ _ _ => trivial)⟩⟩ rfl rfl hl.1 rfl (lv_room (Nat.le_of_ble_eq_true rfl)) dX3_writeIdentifier_44 ⟨show 0 + (phB w) ≤ (phB w) from by omega, show 0 + (phB w) ≤ (phB w) from by omega⟩) hS (fun q _ h => hFc q h) hFc (fun v44 u k42 n43 tS H1 locs ht hvm hw hB hz1 hk1 hS => ?_)
      obtain ⟨r45, cA46, w47, t48, z49⟩ := u
      obtain ⟨hP1, hK1, hD1⟩ := hB
      rw [ht] at hP1
      have hK1 := va_K.moved hvm.symm hK1
      try dsimp only at hw
      obtain ⟨hP, hD⟩ := va_join (wr := [(rr, .inr (3, [.ref tp, .ref b, .ref n1, .ref n2]))]) (w1 := [(b, .inr (0, [.ref r45, .int (iI z49)])), (r45, .inl (cA46, w47, .inl (fun j => bI (t48 j))))]) hP hD [1, 2] [0] rfl rfl (by decide) (by decide) hk1 hFc hP1 hD1
      have hK := (hK.sub (tys' := []) [] rfl).app hK1
      generalize H1 = H at hP hS ⊢
      have hP : va_P (dC, dI) vwCl [(rr, .inr (3, [.ref tp, .ref b, .ref n1, .ref n2])), (b, .inr (0, [.ref r45, .int (iI z49)])), (r45, .inl (cA46, w47, .inl (fun j => bI (t48 j))))] H := hP
      have hD : va_D A [(rr, .inr (3, [.ref tp, .ref b, .ref n1, .ref n2])), (b, .inr (0, [.ref r45, .int (iI z49)])), (r45, .inl (cA46, w47, .inl (fun j => bI (t48 j))))] := hD
      have hK : va_K (dC, dI) vwCl [(cA46, .byte)] s := hK
      obtain ⟨hokv44, hNv44, rfl, hFv44, hGv44⟩ := hw
      refine W.eq (g2 := F0 m 47 ls []) rfl ?_
      refine lv_bipush (v := iI 28) hx hb dX3_writeIdentifier_47 (by decide +kernel) ?_
      refine lv_istore (lv' := [(5, .int (iI 28)), (4, .int (iI z40)), (0, .ref rr), (1, .int (iI x)), (2, .int (iI y)), (3, .int (iI cs))]) hx hb dX3_writeIdentifier_49 hl (by decide) rfl (fun ls hl => ?_)
      exact LP (6) z40 28 r45 cA46 w47 t48 z49 (L ++ [(z40 + 31)]) _ _ _ _ _ (by omega) (by omega) (hokv44) (by omega) (by unfold idB; rw [if_neg (by omega), List.append_assoc]; congr 1; show _ :: _ = _; congr 1; omega) (by omega) (by omega) (hK.sub [0] rfl) (hP.sub [0, 1, 2] rfl) (hD.sub [0, 1, 2] (by decide) rfl) hS (lv_sub hl [2, 3, 4, 5, 1, 0] rfl)
    · skip
      refine lv_aload_n hx hb dX3_writeIdentifier_23 rfl (lv_at hl 1 rfl) ?_
      refine va_get (D := (dC, dI)) (ci := 3) (v := .ref b) (C := RX3) (T := TX3) (N := 4) hx hb hT inX3 hown hK hP 0 rfl rfl 1 (by decide) (hT _ wd121) (fun _ h9 => h9) rfl dX3_writeIdentifier_24 ?_
      refine lv_iload hx hb dX3_writeIdentifier_27 (lv_at hl 0 rfl) ?_
      refine lv_iload_n hx hb dX3_writeIdentifier_29 rfl (lv_at hl 3 rfl) ?_
      refine li_iadd hx hb dX3_writeIdentifier_30 ?_
      have hPc := hP.sub (ws' := [(b, .inr (0, [.ref r, .int (iI z)])), (r, .inl (cA, w, .inl (fun j => bI (t j))))]) [1, 2] rfl
      have hDc := hD.sub (ws' := [(b, .inr (0, [.ref r, .int (iI z)])), (r, .inl (cA, w, .inl (fun j => bI (t j))))]) [1, 2] (by decide) rfl
      have hKc := hK.sub (tys' := [(cA, .byte)]) [0] rfl
      have hFc := va_free (wc := [(b, .inr (0, [.ref r, .int (iI z)])), (r, .inl (cA, w, .inl (fun j => bI (t j))))]) hD hS hA [1, 2] rfl
      refine mv_call (mv_runV (As := [.int (iI (z40 + y))]) (rest := []) ⟨hx, hb, hml, hown, hT⟩ (c_B_app l dC dI s.heap.size b r cA w t z L (z40 + y) (hok) (by omega) (by omega)) (cwV 1 hT (gV wd458 wd221 wd222 wd27 wd223) rfl rfl rfl (by decide +kernel) ⟨show 3 + 1 ≤ 5 from by omega, show 8 + (2 + 11) + 130 ≤ 190 from by omega⟩) ⟨fun a U g mk q => by obtain ⟨q0, q1, qP, qK, qD⟩ := q; exact ⟨q0, q1, qP, va_K.moved (u := U) (U := U.calling g mk a) (Vm.Alike.refl U.vm) qK, qD⟩, va_recv hKc hPc (ci := 0) (q0 := 0) rfl rfl, fun U hU hW => ⟨rfl, by rw [hU], by rw [hU]; exact hPc, va_K.moved hW.alike hKc, hDc.weaken (fun _ _ _ _ => trivial)⟩⟩ rfl rfl hl.1 rfl (lv_room (Nat.le_of_ble_eq_true rfl)) dX3_writeIdentifier_31 ⟨show 0 + (phB w) ≤ (phB w) from by omega, show 0 + (phB w) ≤ (phB w) from by omega⟩) hS (fun q _ h => hFc q h) hFc (fun v52 u k50 n51 tS H1 locs ht hvm hw hB hz1 hk1 hS => ?_)
      obtain ⟨r53, cA54, w55, t56, z57⟩ := u
      obtain ⟨hP1, hK1, hD1⟩ := hB
      rw [ht] at hP1
      have hK1 := va_K.moved hvm.symm hK1
      try dsimp only at hw
      obtain ⟨hP, hD⟩ := va_join (wr := [(rr, .inr (3, [.ref tp, .ref b, .ref n1, .ref n2]))]) (w1 := [(b, .inr (0, [.ref r53, .int (iI z57)])), (r53, .inl (cA54, w55, .inl (fun j => bI (t56 j))))]) hP hD [1, 2] [0] rfl rfl (by decide) (by decide) hk1 hFc hP1 hD1
      have hK := (hK.sub (tys' := []) [] rfl).app hK1
      generalize H1 = H at hP hS ⊢
      have hP : va_P (dC, dI) vwCl [(rr, .inr (3, [.ref tp, .ref b, .ref n1, .ref n2])), (b, .inr (0, [.ref r53, .int (iI z57)])), (r53, .inl (cA54, w55, .inl (fun j => bI (t56 j))))] H := hP
      have hD : va_D A [(rr, .inr (3, [.ref tp, .ref b, .ref n1, .ref n2])), (b, .inr (0, [.ref r53, .int (iI z57)])), (r53, .inl (cA54, w55, .inl (fun j => bI (t56 j))))] := hD
      have hK : va_K (dC, dI) vwCl [(cA54, .byte)] s := hK
      obtain ⟨hokv52, hNv52, rfl, hFv52, hGv52⟩ := hw
      refine W.eq (g2 := F0 m 34 ls []) rfl ?_
      have hend : (L ++ [(z40 + y)]) = L ++ idB x y cs := by unfold idB; rw [if_pos (by omega)]; congr 2; omega
      subst hQ9
      have hP9 := hP.sub (ws' := [(rr, .inr (3, [.ref tp, .ref b, .ref n1, .ref n2])), (b, .inr (0, [.ref r53, .int (iI z57)])), (r53, .inl (cA54, w55, .inl (fun j => bI (t56 j))))]) [0, 1, 2] rfl
      have hD9 := hD.sub (ws' := [(rr, .inr (3, [.ref tp, .ref b, .ref n1, .ref n2])), (b, .inr (0, [.ref r53, .int (iI z57)])), (r53, .inl (cA54, w55, .inl (fun j => bI (t56 j))))]) [0, 1, 2] (by decide) rfl
      have hK9 := hK.sub (tys' := [(cA54, .byte)]) [0] rfl
      exact mv_vret hx hb hr hlocks (fun tS ht hW => ⟨⟨_, (r53, cA54, w55, t56, z57), rfl, ⟨hend ▸ hokv52, by omega, rfl, by omega, by omega⟩, by rw [ht]; exact hP9, va_K.moved hW.alike hK9, hD9⟩, hS.F ht⟩) hS.2.2 dX3_writeIdentifier_34
