set_option maxHeartbeats 4000000 in
set_option maxRecDepth 100000 in
theorem c_copyB (l : Launch) (dC : Nat → ClassId) (dI : Nat → Nat → Nat) (sz : Nat) (r : Nat) (cA : ClassId) (w : Nat) (t : Nat → Int) (i : Int) (hw : w ≤ 100000) (hi : 0 ≤ i ∧ i ≤ 100000 ∧ ¬ i = (w : Int)) : mv_Met l yJA_copyB wsJA_copyB ({ frames := 1, cells := 1, slots := (i : Int).toNat, locals := 60 }) (va_Pc [.ref r, .int (iI i)] (fun U => U.heap.size = sz ∧ va_P (dC, dI) vwCl [(r, .inl (cA, w, .inl (fun j => bI (t j))))] U.heap ∧ va_K (dC, dI) vwCl [(cA, .byte)] U ∧ va_D (fun _ => True) [(r, .inl (cA, w, .inl (fun j => bI (t j))))])) (mv_Q (fun (v : Option Value) (u : Nat × ClassId × (Nat → Int)) (k n : Nat) => match u with | (r', cA', t') => v = some (.ref r') ∧ (∀ j : Nat, (j : Int) < i → j < w → t' j = t j) ∧ (∀ j : Nat, t' j = t j ∨ t' j = 0) ∧ k = 1 ∧ n = (i : Int).toNat) (fun (u : Nat × ClassId × (Nat → Int)) (tS : State) => match u with | (r', cA', t') => va_P (dC, dI) vwCl [(r, .inl (cA, w, .inl (fun j => bI (t j)))), (r', .inl (cA', (i : Int).toNat, .inl (fun j => bI (t' j))))] tS.heap ∧ va_K (dC, dI) vwCl [(cA, .byte), (cA', .byte)] tS ∧ va_D (va_A [(r, .inl (cA, w, .inl (fun j => bI (t j))))] sz) [(r, .inl (cA, w, .inl (fun j => bI (t j)))), (r', .inl (cA', (i : Int).toNat, .inl (fun j => bI (t' j))))]) (va_A [(r, .inl (cA, w, .inl (fun j => bI (t j))))] sz)) (va_A [(r, .inl (cA, w, .inl (fun j => bI (t j))))] sz) := by
  refine mv_ofW (cc := cJA_copyB) (maxL := 3) (ret := (some (.array .byte))) (by decide) rfl ?_
  intro p e s m args below meth c s₁ B hml hv
  obtain ⟨rfl, hsz, hP, hK, hD0⟩ := hv
  have hx := B.exec
  have hb := B.bytes
  have hr := B.returns
  have hT : ∀ w ∈ wT, w.before _ s = true := fun w h => atoms_spec (ws := wsJA_copyB) B.pre w (List.mem_cons_of_mem _ h)
  have hown : s.vm.findClass RJA = some m.cls := findClass_of_methodNamed B.named
  have hlocks := B.notSynchronized
  subst hsz
  have hD := hD0.self (sz := s.heap.size)
  generalize hAe : va_A [(r, .inl (cA, w, .inl (fun j => bI (t j))))] s.heap.size = A at hD ⊢
  have hA : ∀ q : Nat, s.heap.size ≤ q → A q := fun q h => by rw [← hAe]; exact Or.inr h
  have hS : va_S A s.heap s.heap [] := va_S.rf
  have hP : va_P (dC, dI) vwCl [(r, .inl (cA, w, .inl (fun j => bI (t j))))] s.heap := hP
  have hl := lv_entry ([.ref r, .int (iI i)]) (n := 3) (Nat.le_of_ble_eq_true rfl)
  rw [lg_entry_eq]
  generalize (lg_sl ([.ref r, .int (iI i)]) ++ List.replicate (3 - (lg_sl ([.ref r, .int (iI i)])).length) Slot.unset).toArray = ls at hl ⊢
  have hl : lv_has ls 3 [(0, .ref r), (1, .int (iI i))] := hl
  refine lv_iload_n hx hb dJA_copyB_0 rfl (lv_at hl 1 rfl) ?_
  refine lv_aload_n hx hb dJA_copyB_1 rfl (lv_at hl 0 rfl) ?_
  refine li_alen hx hb hK hP 0 0 rfl rfl dJA_copyB_2 ?_
  refine li_icmp_ne (tgt := 14) hx hb (by omega) (by omega) dJA_copyB_3 (by decide) (fun c1 => ?_) (fun c1 => absurd c1 (by omega))
  refine lv_iload_n hx hb dJA_copyB_14 rfl (lv_at hl 1 rfl) ?_
  refine va_newa (atype := .byte) (ty := .byte) (N' := (i : Int).toNat) (a0 := ((i : Int).toNat, .inl (fun j => bI ((fun _ => (0 : Int)) j)))) hx hb (hT _ wd63) rfl hK hP hD hS hA (fun cA => rfl) (by rw [← iI_0, iI_lt (by omega) (by omega)]; omega) (by rw [iI_clamp (by omega)]; try omega) (by show _ * _ ≤ _; simp only [componentBytes]; omega) (by show 0 + 1 ≤ 1; omega) (by show 0 + (i : Int).toNat ≤ (i : Int).toNat; omega) dJA_copyB_15 (fun q2 cA3 H hK hP hD hS => ?_)
  have hP : va_P (dC, dI) vwCl [(r, .inl (cA, w, .inl (fun j => bI (t j)))), (q2, .inl (cA3, (i : Int).toNat, .inl (fun j => bI ((fun _ => (0 : Int)) j))))] H := hP
  have hD : va_D A [(r, .inl (cA, w, .inl (fun j => bI (t j)))), (q2, .inl (cA3, (i : Int).toNat, .inl (fun j => bI ((fun _ => (0 : Int)) j))))] := hD
  have hK : va_K (dC, dI) vwCl [(cA, .byte), (cA3, .byte)] s := hK
  refine lv_astore_n (lv' := [(2, .ref q2), (0, .ref r), (1, .int (iI i))]) hx hb dJA_copyB_17 rfl hl (by decide) rfl (fun ls hl => ?_)
  refine lv_aload_n hx hb dJA_copyB_18 rfl (lv_at hl 1 rfl) ?_
  refine lv_iconst (v := iI 0) hx hb dJA_copyB_19 rfl ?_
  refine lv_aload_n hx hb dJA_copyB_20 rfl (lv_at hl 0 rfl) ?_
  refine lv_iconst (v := iI 0) hx hb dJA_copyB_21 rfl ?_
  refine lv_aload_n hx hb dJA_copyB_22 rfl (lv_at hl 1 rfl) ?_
  refine li_alen hx hb hK hP 0 0 rfl rfl dJA_copyB_23 ?_
  refine lv_iload_n hx hb dJA_copyB_24 rfl (lv_at hl 2 rfl) ?_
  refine li_mmin hx hb (hml.trans hl.1.symm) hown (hT _ wd242) (hT _ wd218) (hT _ wd35) (hT _ wd219) (by show 1 ≤ 1; omega) (by show 4 + 13 ≤ 60; omega) (by show 0 + 1 ≤ 1; omega) (by show 0 + (i : Int).toNat ≤ (i : Int).toNat; omega) (by omega) (by omega) dJA_copyB_25 ?_
  refine li_copyb hx hb (hml.trans hl.1.symm) hown (hT _ wd243) (hT _ wd245) (hT _ wd244) (hT _ wd37) hK hP hD hS 0 1 0 1 rfl rfl rfl rfl (by omega) (by omega) (by omega) (by omega) (by show 1 ≤ 1; omega) (by show _ ≤ 60; decide +kernel) dJA_copyB_28 (fun H locs hP hD hS => ?_)
  have hP : va_P (dC, dI) vwCl [(r, .inl (cA, w, .inl (fun j => bI (t j)))), (q2, .inl (cA3, (i : Int).toNat, .inl (fun j => bI ((va_cpy t (fun _ => (0 : Int)) (0 : Int).toNat (0 : Int).toNat ((min (w : Int) i) : Int).toNat) j))))] H := hP
  have hD : va_D A [(r, .inl (cA, w, .inl (fun j => bI (t j)))), (q2, .inl (cA3, (i : Int).toNat, .inl (fun j => bI ((va_cpy t (fun _ => (0 : Int)) (0 : Int).toNat (0 : Int).toNat ((min (w : Int) i) : Int).toNat) j))))] := hD
  refine lv_aload_n hx hb dJA_copyB_31 rfl (lv_at hl 0 rfl) ?_
  have hP9 := hP.sub (ws' := [(r, .inl (cA, w, .inl (fun j => bI (t j)))), (q2, .inl (cA3, (i : Int).toNat, .inl (fun j => bI ((va_cpy t (fun _ => (0 : Int)) (0 : Int).toNat (0 : Int).toNat ((min (w : Int) i) : Int).toNat) j))))]) [0, 1] rfl
  have hD9 := hD.sub (ws' := [(r, .inl (cA, w, .inl (fun j => bI (t j)))), (q2, .inl (cA3, (i : Int).toNat, .inl (fun j => bI ((va_cpy t (fun _ => (0 : Int)) (0 : Int).toNat (0 : Int).toNat ((min (w : Int) i) : Int).toNat) j))))]) [0, 1] (by decide) rfl
  have hK9 := hK.sub (tys' := [(cA, .byte), (cA3, .byte)]) [0, 1] rfl
  exact mv_aret hx hb hr (Or.inr ⟨_, rfl⟩) hlocks (fun tS ht hW => ⟨⟨_, (q2, cA3, (va_cpy t (fun _ => (0 : Int)) (0 : Int).toNat (0 : Int).toNat ((min (w : Int) i) : Int).toNat)), rfl, ⟨rfl, fun j h1 h2 => cpy_in (by omega), fun j => cpy_or rfl, rfl, by omega⟩, by rw [ht]; exact hP9, va_K.moved hW.alike hK9, hD9⟩, hS.F ht⟩) hS.2.2 dJA_copyB_32
set_option maxHeartbeats 4000000 in
set_option maxRecDepth 100000 in
theorem c_B_len (l : Launch) (dC : Nat → ClassId) (dI : Nat → Nat → Nat) (sz : Nat) (b : Nat) (r : Nat) (cA : ClassId) (w : Nat) (t : Nat → Int) (z : Int) (i : Int) (hw : 64 ≤ w ∧ w ≤ 4096) (hz : 0 ≤ z ∧ z ≤ w) (hi : 0 ≤ i ∧ z + i ≤ 4096) (h8 : ∀ j, 0 ≤ t j ∧ t j < 256) : mv_Met l yX0_lengthen wsX0_lengthen ({ frames := 2, cells := (phB w), slots := (phB w), locals := 100 }) (va_Pc [.ref b, .int (iI i)] (fun U => U.heap.size = sz ∧ va_P (dC, dI) vwCl [(b, .inr (0, [.ref r, .int (iI z)])), (r, .inl (cA, w, .inl (fun j => bI (t j))))] U.heap ∧ va_K (dC, dI) vwCl [(cA, .byte)] U ∧ va_D (fun _ => True) [(b, .inr (0, [.ref r, .int (iI z)])), (r, .inl (cA, w, .inl (fun j => bI (t j))))])) (mv_Q (fun (v : Option Value) (u : Nat × ClassId × Nat × (Nat → Int) × Int) (k n : Nat) => match u with | (r', cA', w', t', z') => z' = z + i ∧ 64 ≤ w' ∧ w' ≤ 4096 ∧ z + i ≤ w' ∧ (∀ j, 0 ≤ t' j ∧ t' j < 256) ∧ (∀ j : Nat, (j : Int) < z → t' j = t j) ∧ v = none ∧ n + phB w' ≤ phB w ∧ k ≤ n) (fun (u : Nat × ClassId × Nat × (Nat → Int) × Int) (tS : State) => match u with | (r', cA', w', t', z') => va_P (dC, dI) vwCl [(b, .inr (0, [.ref r', .int (iI z')])), (r', .inl (cA', w', .inl (fun j => bI (t' j))))] tS.heap ∧ va_K (dC, dI) vwCl [(cA', .byte)] tS ∧ va_D (va_A [(b, .inr (0, [.ref r, .int (iI z)])), (r, .inl (cA, w, .inl (fun j => bI (t j))))] sz) [(b, .inr (0, [.ref r', .int (iI z')])), (r', .inl (cA', w', .inl (fun j => bI (t' j))))]) (va_A [(b, .inr (0, [.ref r, .int (iI z)])), (r, .inl (cA, w, .inl (fun j => bI (t j))))] sz)) (va_A [(b, .inr (0, [.ref r, .int (iI z)])), (r, .inl (cA, w, .inl (fun j => bI (t j))))] sz) := by
  refine mv_ofW (cc := cX0_lengthen) (maxL := 3) (ret := none) (by decide) rfl ?_
  intro p e s m args below meth c s₁ B hml hv
  obtain ⟨rfl, hsz, hP, hK, hD0⟩ := hv
  have hx := B.exec
  have hb := B.bytes
  have hr := B.returns
  have hT : ∀ w ∈ wT, w.before _ s = true := fun w h => atoms_spec (ws := wsX0_lengthen) B.pre w (List.mem_cons_of_mem _ h)
  have hown : s.vm.findClass RX0 = some m.cls := findClass_of_methodNamed B.named
  have hlocks := B.notSynchronized
  subst hsz
  have hD := hD0.self (sz := s.heap.size)
  generalize hAe : va_A [(b, .inr (0, [.ref r, .int (iI z)])), (r, .inl (cA, w, .inl (fun j => bI (t j))))] s.heap.size = A at hD ⊢
  have hA : ∀ q : Nat, s.heap.size ≤ q → A q := fun q h => by rw [← hAe]; exact Or.inr h
  have hS : va_S A s.heap s.heap [] := va_S.rf
  have hP : va_P (dC, dI) vwCl [(b, .inr (0, [.ref r, .int (iI z)])), (r, .inl (cA, w, .inl (fun j => bI (t j))))] s.heap := hP
  have hl := lv_entry ([.ref b, .int (iI i)]) (n := 3) (Nat.le_of_ble_eq_true rfl)
  rw [lg_entry_eq]
  generalize (lg_sl ([.ref b, .int (iI i)]) ++ List.replicate (3 - (lg_sl ([.ref b, .int (iI i)])).length) Slot.unset).toArray = ls at hl ⊢
  have hl : lv_has ls 3 [(0, .ref b), (1, .int (iI i))] := hl
  refine lv_aload_n hx hb dX0_lengthen_0 rfl (lv_at hl 0 rfl) ?_
  refine va_get (D := (dC, dI)) (ci := 0) (v := .int (iI z)) (C := RX0) (T := TX0) (N := 2) hx hb hT inX0 hown hK hP 0 rfl rfl 1 (by decide) (hT _ wd57) (fun _ h9 => h9) rfl dX0_lengthen_1 ?_
  refine lv_iload_n hx hb dX0_lengthen_4 rfl (lv_at hl 1 rfl) ?_
  refine li_iadd hx hb dX0_lengthen_5 ?_
  refine li_nm (fun z1 ez1 => ?_)
  refine lv_istore_n (lv' := [(2, .int (iI z1)), (0, .ref b), (1, .int (iI i))]) hx hb dX0_lengthen_6 rfl hl (by decide) rfl (fun ls hl => ?_)
  refine lv_iload_n hx hb dX0_lengthen_7 rfl (lv_at hl 0 rfl) ?_
  refine lv_aload_n hx hb dX0_lengthen_8 rfl (lv_at hl 1 rfl) ?_
  refine va_get (D := (dC, dI)) (ci := 0) (v := .ref r) (C := RX0) (T := TX0) (N := 2) hx hb hT inX0 hown hK hP 0 rfl rfl 0 (by decide) (hT _ wd56) (fun _ h9 => h9) rfl dX0_lengthen_9 ?_
  refine li_alen hx hb hK hP 1 0 rfl rfl dX0_lengthen_12 ?_
  refine li_icmp_le (tgt := 44) hx hb (by omega) (by omega) dX0_lengthen_13 (by decide) (fun c2 => ?_) (fun c2 => ?_)
  · skip
    refine lv_aload_n hx hb dX0_lengthen_44 rfl (lv_at hl 1 rfl) ?_
    refine lv_iload_n hx hb dX0_lengthen_45 rfl (lv_at hl 0 rfl) ?_
    refine va_put (D := (dC, dI)) (ci := 0) (v := .int (iI z1)) (ty := .int) (C := RX0) (T := TX0) (N := 2) hx hb hT inX0 tyX0 tyX0_ok nX0 hown hK hP hD hS 0 rfl rfl 1 (by decide) (hT _ wd57) (fun _ h9 => h9) rfl (by decide +kernel) rfl rfl (Nat.le_of_ble_eq_true rfl) dX0_lengthen_46 (fun H locs hP hD hS => ?_)
    have hP : va_P (dC, dI) vwCl [(b, .inr (0, [.ref r, .int (iI z1)])), (r, .inl (cA, w, .inl (fun j => bI (t j))))] H := hP
    have hD : va_D A [(b, .inr (0, [.ref r, .int (iI z1)])), (r, .inl (cA, w, .inl (fun j => bI (t j))))] := hD
    have hP9 := hP.sub (ws' := [(b, .inr (0, [.ref r, .int (iI z1)])), (r, .inl (cA, w, .inl (fun j => bI (t j))))]) [0, 1] rfl
    have hD9 := hD.sub (ws' := [(b, .inr (0, [.ref r, .int (iI z1)])), (r, .inl (cA, w, .inl (fun j => bI (t j))))]) [0, 1] (by decide) rfl
    have hK9 := hK.sub (tys' := [(cA, .byte)]) [0] rfl
    exact mv_vret hx hb hr hlocks (fun tS ht hW => ⟨⟨_, (r, cA, w, t, z1), rfl, ⟨by omega, by omega, by omega, by omega, h8, fun _ _ => rfl, rfl, by omega, by omega⟩, by rw [ht]; exact hP9, va_K.moved hW.alike hK9, hD9⟩, hS.F ht⟩) hS.2.2 dX0_lengthen_49
  · skip
    refine lv_aload_n hx hb dX0_lengthen_16 rfl (lv_at hl 1 rfl) ?_
    refine lv_aload_n hx hb dX0_lengthen_17 rfl (lv_at hl 1 rfl) ?_
    refine va_get (D := (dC, dI)) (ci := 0) (v := .ref r) (C := RX0) (T := TX0) (N := 2) hx hb hT inX0 hown hK hP 0 rfl rfl 0 (by decide) (hT _ wd56) (fun _ h9 => h9) rfl dX0_lengthen_18 ?_
    refine lv_iload_n hx hb dX0_lengthen_21 rfl (lv_at hl 0 rfl) ?_
    refine lv_sipush (v := iI 4096) hx hb dX0_lengthen_22 (by decide +kernel) ?_
    refine lv_iconst (v := iI 2) hx hb dX0_lengthen_25 rfl ?_
    refine lv_aload_n hx hb dX0_lengthen_26 rfl (lv_at hl 1 rfl) ?_
    refine va_get (D := (dC, dI)) (ci := 0) (v := .ref r) (C := RX0) (T := TX0) (N := 2) hx hb hT inX0 hown hK hP 0 rfl rfl 0 (by decide) (hT _ wd56) (fun _ h9 => h9) rfl dX0_lengthen_27 ?_
    refine li_alen hx hb hK hP 1 0 rfl rfl dX0_lengthen_30 ?_
    refine li_imul hx hb dX0_lengthen_31 ?_
    refine li_mmin hx hb (hml.trans hl.1.symm) hown (hT _ wd217) (hT _ wd218) (hT _ wd35) (hT _ wd219) (by show 1 ≤ 2; omega) (by show 3 + 13 ≤ 100; omega) (by show 0 ≤ (phB w); omega) (by show 0 ≤ (phB w); omega) (by omega) (by omega) dX0_lengthen_32 ?_
    refine li_mmax hx hb (hml.trans hl.1.symm) hown (hT _ wd229) (hT _ wd230) (hT _ wd35) (hT _ wd231) (by show 1 ≤ 2; omega) (by show 2 + 13 ≤ 100; omega) (by show 0 ≤ (phB w); omega) (by show 0 ≤ (phB w); omega) (by omega) (by omega) dX0_lengthen_35 ?_
    have hph := phB_grow (w := w) (v := (max z1 (min 4096 (2 * (w : Int)))).toNat) (by omega) (by omega) (by omega)
    have hPc := hP.sub (ws' := [(r, .inl (cA, w, .inl (fun j => bI (t j))))]) [1] rfl
    have hDc := hD.sub (ws' := [(r, .inl (cA, w, .inl (fun j => bI (t j))))]) [1] (by decide) rfl
    have hKc := hK.sub (tys' := [(cA, .byte)]) [0] rfl
    have hFc := va_free (wc := [(r, .inl (cA, w, .inl (fun j => bI (t j))))]) hD hS hA [1] rfl
    refine mv_call (mv_runS (As := [.ref r, .int (iI (max z1 (min 4096 (2 * (w : Int)))))]) (rest := [.ref b]) ⟨hx, hb, hml, hown, hT⟩ (c_copyB l dC dI s.heap.size r cA w t (max z1 (min 4096 (2 * (w : Int)))) (by omega) (by omega)) (va_cwS 2 hT (gS2 wd232 wd233 wd36 wd234) rfl rfl rfl (by decide +kernel) ⟨show 1 + 1 ≤ 2 from by omega, show 8 + (3 + 11) + 60 ≤ 100 from by omega⟩) ⟨fun a U g mk q => by obtain ⟨q0, q1, qP, qK, qD⟩ := q; exact ⟨q0, q1, qP, va_K.moved (u := U) (U := U.calling g mk a) (Vm.Alike.refl U.vm) qK, qD⟩, fun U hU hW => ⟨rfl, by rw [hU], by rw [hU]; exact hPc, va_K.moved hW.alike hKc, hDc.weaken (fun _ _ _ _ => trivial)⟩⟩ rfl rfl hl.1 rfl (lv_room (Nat.le_of_ble_eq_true rfl)) dX0_lengthen_38 ⟨show 0 + 1 ≤ (phB w) from by omega, show 0 + (((max z1 (min 4096 (2 * (w : Int)))) : Int).toNat) ≤ (phB w) from by omega⟩) hS (fun q _ h => hFc q h) hFc (fun v5 u k3 n4 tS H1 locs ht hvm hw hB hz1 hk1 hS => ?_)
    obtain ⟨r6, cA7, t8⟩ := u
    obtain ⟨hP1, hK1, hD1⟩ := hB
    rw [ht] at hP1
    have hK1 := va_K.moved hvm.symm hK1
    try dsimp only at hw
    obtain ⟨hP, hD⟩ := va_join (wr := [(b, .inr (0, [.ref r, .int (iI z)]))]) (w1 := [(r, .inl (cA, w, .inl (fun j => bI (t j)))), (r6, .inl (cA7, ((max z1 (min 4096 (2 * (w : Int)))) : Int).toNat, .inl (fun j => bI (t8 j))))]) hP hD [1] [0] rfl rfl (by decide) (by decide) hk1 hFc hP1 hD1
    have hK := (hK.sub (tys' := []) [] rfl).app hK1
    generalize H1 = H at hP hS ⊢
    have hP : va_P (dC, dI) vwCl [(b, .inr (0, [.ref r, .int (iI z)])), (r, .inl (cA, w, .inl (fun j => bI (t j)))), (r6, .inl (cA7, ((max z1 (min 4096 (2 * (w : Int)))) : Int).toNat, .inl (fun j => bI (t8 j))))] H := hP
    have hD : va_D A [(b, .inr (0, [.ref r, .int (iI z)])), (r, .inl (cA, w, .inl (fun j => bI (t j)))), (r6, .inl (cA7, ((max z1 (min 4096 (2 * (w : Int)))) : Int).toNat, .inl (fun j => bI (t8 j))))] := hD
    have hK : va_K (dC, dI) vwCl [(cA, .byte), (cA7, .byte)] s := hK
    obtain ⟨rfl, hjv5, hiv5, rfl, rfl⟩ := hw
    refine W.eq (g2 := F0 m 41 ls [.ref r6, .ref b]) rfl ?_
    refine va_put (D := (dC, dI)) (ci := 0) (v := .ref r6) (ty := .array .byte) (C := RX0) (T := TX0) (N := 2) hx hb hT inX0 tyX0 tyX0_ok nX0 hown hK hP hD hS 0 rfl rfl 0 (by decide) (hT _ wd56) (fun _ h9 => h9) rfl (by decide +kernel) rfl rfl (Nat.le_of_ble_eq_true rfl) dX0_lengthen_41 (fun H locs hP hD hS => ?_)
    have hP : va_P (dC, dI) vwCl [(b, .inr (0, [.ref r6, .int (iI z)])), (r, .inl (cA, w, .inl (fun j => bI (t j)))), (r6, .inl (cA7, ((max z1 (min 4096 (2 * (w : Int)))) : Int).toNat, .inl (fun j => bI (t8 j))))] H := hP
    have hD : va_D A [(b, .inr (0, [.ref r6, .int (iI z)])), (r, .inl (cA, w, .inl (fun j => bI (t j)))), (r6, .inl (cA7, ((max z1 (min 4096 (2 * (w : Int)))) : Int).toNat, .inl (fun j => bI (t8 j))))] := hD
    refine lv_aload_n hx hb dX0_lengthen_44 rfl (lv_at hl 1 rfl) ?_
    refine lv_iload_n hx hb dX0_lengthen_45 rfl (lv_at hl 0 rfl) ?_
    refine va_put (D := (dC, dI)) (ci := 0) (v := .int (iI z1)) (ty := .int) (C := RX0) (T := TX0) (N := 2) hx hb hT inX0 tyX0 tyX0_ok nX0 hown hK hP hD hS 0 rfl rfl 1 (by decide) (hT _ wd57) (fun _ h9 => h9) rfl (by decide +kernel) rfl rfl (Nat.le_of_ble_eq_true rfl) dX0_lengthen_46 (fun H locs hP hD hS => ?_)
    have hP : va_P (dC, dI) vwCl [(b, .inr (0, [.ref r6, .int (iI z1)])), (r, .inl (cA, w, .inl (fun j => bI (t j)))), (r6, .inl (cA7, ((max z1 (min 4096 (2 * (w : Int)))) : Int).toNat, .inl (fun j => bI (t8 j))))] H := hP
    have hD : va_D A [(b, .inr (0, [.ref r6, .int (iI z1)])), (r, .inl (cA, w, .inl (fun j => bI (t j)))), (r6, .inl (cA7, ((max z1 (min 4096 (2 * (w : Int)))) : Int).toNat, .inl (fun j => bI (t8 j))))] := hD
    have hP9 := hP.sub (ws' := [(b, .inr (0, [.ref r6, .int (iI z1)])), (r6, .inl (cA7, (((max z1 (min 4096 (2 * (w : Int)))) : Int).toNat), .inl (fun j => bI (t8 j))))]) [0, 2] rfl
    have hD9 := hD.sub (ws' := [(b, .inr (0, [.ref r6, .int (iI z1)])), (r6, .inl (cA7, (((max z1 (min 4096 (2 * (w : Int)))) : Int).toNat), .inl (fun j => bI (t8 j))))]) [0, 2] (by decide) rfl
    have hK9 := hK.sub (tys' := [(cA7, .byte)]) [1] rfl
    exact mv_vret hx hb hr hlocks (fun tS ht hW => ⟨⟨_, (r6, cA7, ((max z1 (min 4096 (2 * (w : Int)))) : Int).toNat, t8, z1), rfl, ⟨by omega, by omega, by omega, by omega, fun j => (hiv5 j).elim (fun h => by rw [h]; exact h8 j) (fun h => by rw [h]; decide), fun j hj => hjv5 j (by omega) (by omega), rfl, by omega, by omega⟩, by rw [ht]; exact hP9, va_K.moved hW.alike hK9, hD9⟩, hS.F ht⟩) hS.2.2 dX0_lengthen_49
set_option maxHeartbeats 4000000 in
set_option maxRecDepth 100000 in
theorem c_B_app (l : Launch) (dC : Nat → ClassId) (dI : Nat → Nat → Nat) (sz : Nat) (b : Nat) (r : Nat) (cA : ClassId) (w : Nat) (t : Nat → Int) (z : Int) (L : List Int) (x : Int) (hok : okB w t z L) (hl4 : z < 4096) (hx8 : 0 ≤ x ∧ x < 256) : mv_Met l yX0_append wsX0_append ({ frames := 3, cells := (phB w), slots := (phB w), locals := 130 }) (va_Pc [.ref b, .int (iI x)] (fun U => U.heap.size = sz ∧ va_P (dC, dI) vwCl [(b, .inr (0, [.ref r, .int (iI z)])), (r, .inl (cA, w, .inl (fun j => bI (t j))))] U.heap ∧ va_K (dC, dI) vwCl [(cA, .byte)] U ∧ va_D (fun _ => True) [(b, .inr (0, [.ref r, .int (iI z)])), (r, .inl (cA, w, .inl (fun j => bI (t j))))])) (mv_Q (fun (v : Option Value) (u : Nat × ClassId × Nat × (Nat → Int) × Int) (k n : Nat) => match u with | (r', cA', w', t', z') => okB w' t' z' (L ++ [x]) ∧ (z' = z + 1 ∧ 64 ≤ w' ∧ w' ≤ 4096 ∧ z' ≤ (w' : Int)) ∧ v = none ∧ n + phB w' ≤ phB w ∧ k ≤ n) (fun (u : Nat × ClassId × Nat × (Nat → Int) × Int) (tS : State) => match u with | (r', cA', w', t', z') => va_P (dC, dI) vwCl [(b, .inr (0, [.ref r', .int (iI z')])), (r', .inl (cA', w', .inl (fun j => bI (t' j))))] tS.heap ∧ va_K (dC, dI) vwCl [(cA', .byte)] tS ∧ va_D (va_A [(b, .inr (0, [.ref r, .int (iI z)])), (r, .inl (cA, w, .inl (fun j => bI (t j))))] sz) [(b, .inr (0, [.ref r', .int (iI z')])), (r', .inl (cA', w', .inl (fun j => bI (t' j))))]) (va_A [(b, .inr (0, [.ref r, .int (iI z)])), (r, .inl (cA, w, .inl (fun j => bI (t j))))] sz)) (va_A [(b, .inr (0, [.ref r, .int (iI z)])), (r, .inl (cA, w, .inl (fun j => bI (t j))))] sz) := by
  refine mv_ofW (cc := cX0_append) (maxL := 2) (ret := none) (by decide) rfl ?_
  intro p e s m args below meth c s₁ B hml hv
  obtain ⟨rfl, hsz, hP, hK, hD0⟩ := hv
  have hx := B.exec
  have hb := B.bytes
  have hr := B.returns
  have hT : ∀ w ∈ wT, w.before _ s = true := fun w h => atoms_spec (ws := wsX0_append) B.pre w (List.mem_cons_of_mem _ h)
  have hown : s.vm.findClass RX0 = some m.cls := findClass_of_methodNamed B.named
  have hlocks := B.notSynchronized
  subst hsz
  have hD := hD0.self (sz := s.heap.size)
  generalize hAe : va_A [(b, .inr (0, [.ref r, .int (iI z)])), (r, .inl (cA, w, .inl (fun j => bI (t j))))] s.heap.size = A at hD ⊢
  have hA : ∀ q : Nat, s.heap.size ≤ q → A q := fun q h => by rw [← hAe]; exact Or.inr h
  have hS : va_S A s.heap s.heap [] := va_S.rf
  have hP : va_P (dC, dI) vwCl [(b, .inr (0, [.ref r, .int (iI z)])), (r, .inl (cA, w, .inl (fun j => bI (t j))))] s.heap := hP
  have hl := lv_entry ([.ref b, .int (iI x)]) (n := 2) (Nat.le_of_ble_eq_true rfl)
  rw [lg_entry_eq]
  generalize (lg_sl ([.ref b, .int (iI x)]) ++ List.replicate (2 - (lg_sl ([.ref b, .int (iI x)])).length) Slot.unset).toArray = ls at hl ⊢
  have hl : lv_has ls 2 [(0, .ref b), (1, .int (iI x))] := hl
  obtain ⟨hw1, hw2, hw3, hw4, hw5, hw6⟩ := id hok
  refine lv_aload_n hx hb dX0_append_0 rfl (lv_at hl 0 rfl) ?_
  refine lv_iconst (v := iI 1) hx hb dX0_append_1 rfl ?_
  have hPc := hP.sub (ws' := [(b, .inr (0, [.ref r, .int (iI z)]))]) [0] rfl
  have hDc := hD.sub (ws' := [(b, .inr (0, [.ref r, .int (iI z)]))]) [0] (by decide) rfl
  have hKc := hK.sub (tys' := []) [] rfl
  have hFc := va_free (wc := [(b, .inr (0, [.ref r, .int (iI z)]))]) hD hS hA [0] rfl
  refine mv_call (mv_runV (As := [.int (iI 1)]) (rest := []) ⟨hx, hb, hml, hown, hT⟩ (c_B_room l dC dI s.heap.size b r z 1 (by omega) (by omega)) (cwV 1 hT (gV wd224 wd142 wd143 wd27 wd144) rfl rfl rfl (by decide +kernel) ⟨show 0 + 1 ≤ 3 from by omega, show 8 + (2 + 11) + 0 ≤ 130 from by omega⟩) ⟨fun a U g mk q => by obtain ⟨q0, q1, qP, qK, qD⟩ := q; exact ⟨q0, q1, qP, va_K.moved (u := U) (U := U.calling g mk a) (Vm.Alike.refl U.vm) qK, qD⟩, va_recv hKc hPc (ci := 0) (q0 := 0) rfl rfl, fun U hU hW => ⟨rfl, by rw [hU], by rw [hU]; exact hPc, va_K.moved hW.alike hKc, hDc.weaken (fun _ _ _ _ => trivial)⟩⟩ rfl rfl hl.1 rfl (lv_room (Nat.le_of_ble_eq_true rfl)) dX0_append_2 ⟨show 0 + 0 ≤ (phB w) from by omega, show 0 + 0 ≤ (phB w) from by omega⟩) hS (fun q _ h => hFc q h) hFc (fun v3 u k1 n2 tS H1 locs ht hvm hw hB hz1 hk1 hS => ?_)
  obtain ⟨q4, rfl⟩ : ∃ y, y = u := ⟨_, rfl⟩
  obtain ⟨hP1, hK1, hD1⟩ := hB
  rw [ht] at hP1
  have hK1 := va_K.moved hvm.symm hK1
  try dsimp only at hw
  obtain ⟨hP, hD⟩ := va_join (wr := [(r, .inl (cA, w, .inl (fun j => bI (t j))))]) (w1 := [(b, .inr (0, [.ref r, .int (iI z)]))]) hP hD [0] [1] rfl rfl (by decide) (by decide) hk1 hFc hP1 hD1
  have hK := (hK.sub (tys' := [(cA, .byte)]) [0] rfl).app hK1
  generalize H1 = H at hP hS ⊢
  have hP : va_P (dC, dI) vwCl [(r, .inl (cA, w, .inl (fun j => bI (t j)))), (b, .inr (0, [.ref r, .int (iI z)]))] H := hP
  have hD : va_D A [(r, .inl (cA, w, .inl (fun j => bI (t j)))), (b, .inr (0, [.ref r, .int (iI z)]))] := hD
  have hK : va_K (dC, dI) vwCl [(cA, .byte)] s := hK
  obtain ⟨rfl, hq4, rfl, rfl⟩ := hw
  refine W.eq (g2 := F0 m 5 ls [.int (iI q4)]) rfl ?_
  refine li_if_eq (tgt := 24) hx hb (by omega) dX0_append_5 (by decide) (fun c5 => absurd c5 (by omega)) (fun c5 => ?_)
  refine lv_aload_n hx hb dX0_append_8 rfl (lv_at hl 0 rfl) ?_
  refine lv_iconst (v := iI 1) hx hb dX0_append_9 rfl ?_
  have hPc := hP.sub (ws' := [(b, .inr (0, [.ref r, .int (iI z)])), (r, .inl (cA, w, .inl (fun j => bI (t j))))]) [1, 0] rfl
  have hDc := hD.sub (ws' := [(b, .inr (0, [.ref r, .int (iI z)])), (r, .inl (cA, w, .inl (fun j => bI (t j))))]) [1, 0] (by decide) rfl
  have hKc := hK.sub (tys' := [(cA, .byte)]) [0] rfl
  have hFc := va_free (wc := [(b, .inr (0, [.ref r, .int (iI z)])), (r, .inl (cA, w, .inl (fun j => bI (t j))))]) hD hS hA [1, 0] rfl
  refine mv_call (mv_runV (As := [.int (iI 1)]) (rest := []) ⟨hx, hb, hml, hown, hT⟩ (c_B_len l dC dI H.size b r cA w t z 1 (by omega) (by omega) (by omega) (hw5)) (cwV 1 hT (gV wd225 wd227 wd1 wd27 wd228) rfl rfl rfl (by decide +kernel) ⟨show 2 + 1 ≤ 3 from by omega, show 8 + (3 + 11) + 100 ≤ 130 from by omega⟩) ⟨fun a U g mk q => by obtain ⟨q0, q1, qP, qK, qD⟩ := q; exact ⟨q0, q1, qP, va_K.moved (u := U) (U := U.calling g mk a) (Vm.Alike.refl U.vm) qK, qD⟩, va_recv hKc hPc (ci := 0) (q0 := 0) rfl rfl, fun U hU hW => ⟨rfl, by rw [hU], by rw [hU]; exact hPc, va_K.moved hW.alike hKc, hDc.weaken (fun _ _ _ _ => trivial)⟩⟩ rfl rfl hl.1 rfl (lv_room (Nat.le_of_ble_eq_true rfl)) dX0_append_10 ⟨show 0 + 0 + (phB w) ≤ (phB w) from by omega, show 0 + 0 + (phB w) ≤ (phB w) from by omega⟩) hS (fun q _ h => hFc q h) hFc (fun v8 u k6 n7 tS H1 locs ht hvm hw hB hz1 hk1 hS => ?_)
  obtain ⟨r9, cA10, w11, t12, z13⟩ := u
  obtain ⟨hP1, hK1, hD1⟩ := hB
  rw [ht] at hP1
  have hK1 := va_K.moved hvm.symm hK1
  try dsimp only at hw
  obtain ⟨hP, hD⟩ := va_join (wr := []) (w1 := [(b, .inr (0, [.ref r9, .int (iI z13)])), (r9, .inl (cA10, w11, .inl (fun j => bI (t12 j))))]) hP hD [1, 0] [] rfl rfl (by decide) (by decide) hk1 hFc hP1 hD1
  have hK := (hK.sub (tys' := []) [] rfl).app hK1
  generalize H1 = H at hP hS ⊢
  have hP : va_P (dC, dI) vwCl [(b, .inr (0, [.ref r9, .int (iI z13)])), (r9, .inl (cA10, w11, .inl (fun j => bI (t12 j))))] H := hP
  have hD : va_D A [(b, .inr (0, [.ref r9, .int (iI z13)])), (r9, .inl (cA10, w11, .inl (fun j => bI (t12 j))))] := hD
  have hK : va_K (dC, dI) vwCl [(cA10, .byte)] s := hK
  obtain ⟨ev8, hAv8, hBv8, hCv8, hDv8, hEv8, rfl, hFv8, hGv8⟩ := hw
  refine W.eq (g2 := F0 m 13 ls []) rfl ?_
  refine lv_aload_n hx hb dX0_append_13 rfl (lv_at hl 0 rfl) ?_
  refine lv_aload_n hx hb dX0_append_14 rfl (lv_at hl 0 rfl) ?_
  refine va_get (D := (dC, dI)) (ci := 0) (v := .int (iI z13)) (C := RX0) (T := TX0) (N := 2) hx hb hT inX0 hown hK hP 0 rfl rfl 1 (by decide) (hT _ wd57) (fun _ h9 => h9) rfl dX0_append_15 ?_
  refine lv_iconst (v := iI 1) hx hb dX0_append_18 rfl ?_
  refine li_isub hx hb dX0_append_19 ?_
  refine lv_iload_n hx hb dX0_append_20 rfl (lv_at hl 1 rfl) ?_
  have hPc := hP.sub (ws' := [(b, .inr (0, [.ref r9, .int (iI z13)])), (r9, .inl (cA10, w11, .inl (fun j => bI (t12 j))))]) [0, 1] rfl
  have hDc := hD.sub (ws' := [(b, .inr (0, [.ref r9, .int (iI z13)])), (r9, .inl (cA10, w11, .inl (fun j => bI (t12 j))))]) [0, 1] (by decide) rfl
  have hKc := hK.sub (tys' := [(cA10, .byte)]) [0] rfl
  have hFc := va_free (wc := [(b, .inr (0, [.ref r9, .int (iI z13)])), (r9, .inl (cA10, w11, .inl (fun j => bI (t12 j))))]) hD hS hA [0, 1] rfl
  refine mv_call (mv_runV (As := [.int (iI (z13 - 1)), .int (iI x)]) (rest := []) ⟨hx, hb, hml, hown, hT⟩ (c_B_set l dC dI H.size b r9 cA10 w11 t12 z13 (z13 - 1) x (by omega) (by omega)) (cwV 2 hT (gV wd246 wd248 wd2 wd27 wd249) rfl rfl rfl (by decide +kernel) ⟨show 0 + 1 ≤ 3 from by omega, show 8 + (3 + 11) + 0 ≤ 130 from by omega⟩) ⟨fun a U g mk q => by obtain ⟨q0, q1, qP, qK, qD⟩ := q; exact ⟨q0, q1, qP, va_K.moved (u := U) (U := U.calling g mk a) (Vm.Alike.refl U.vm) qK, qD⟩, va_recv hKc hPc (ci := 0) (q0 := 0) rfl rfl, fun U hU hW => ⟨rfl, by rw [hU], by rw [hU]; exact hPc, va_K.moved hW.alike hKc, hDc.weaken (fun _ _ _ _ => trivial)⟩⟩ rfl rfl hl.1 rfl (lv_room (Nat.le_of_ble_eq_true rfl)) dX0_append_21 ⟨show 0 + 0 + k6 + 0 ≤ (phB w) from by omega, show 0 + 0 + n7 + 0 ≤ (phB w) from by omega⟩) hS (fun q _ h => hFc q h) hFc (fun v16 u k14 n15 tS H1 locs ht hvm hw hB hz1 hk1 hS => ?_)
  obtain ⟨hP1, hK1, hD1⟩ := hB
  rw [ht] at hP1
  have hK1 := va_K.moved hvm.symm hK1
  try dsimp only at hw
  obtain ⟨hP, hD⟩ := va_join (wr := []) (w1 := [(b, .inr (0, [.ref r9, .int (iI z13)])), (r9, .inl (cA10, w11, .inl (fun j => bI ((vf_upd t12 ((z13 - 1) : Int).toNat x) j))))]) hP hD [0, 1] [] rfl rfl (by decide) (by decide) hk1 hFc hP1 hD1
  have hK := (hK.sub (tys' := []) [] rfl).app hK1
  generalize H1 = H at hP hS ⊢
  have hP : va_P (dC, dI) vwCl [(b, .inr (0, [.ref r9, .int (iI z13)])), (r9, .inl (cA10, w11, .inl (fun j => bI ((vf_upd t12 ((z13 - 1) : Int).toNat x) j))))] H := hP
  have hD : va_D A [(b, .inr (0, [.ref r9, .int (iI z13)])), (r9, .inl (cA10, w11, .inl (fun j => bI ((vf_upd t12 ((z13 - 1) : Int).toNat x) j))))] := hD
  have hK : va_K (dC, dI) vwCl [(cA10, .byte)] s := hK
  obtain ⟨rfl, rfl, rfl⟩ := hw
  refine W.eq (g2 := F0 m 24 ls []) rfl ?_
  have hP9 := hP.sub (ws' := [(b, .inr (0, [.ref r9, .int (iI z13)])), (r9, .inl (cA10, w11, .inl (fun j => bI ((vf_upd t12 ((z13 - 1) : Int).toNat x) j))))]) [0, 1] rfl
  have hD9 := hD.sub (ws' := [(b, .inr (0, [.ref r9, .int (iI z13)])), (r9, .inl (cA10, w11, .inl (fun j => bI ((vf_upd t12 ((z13 - 1) : Int).toNat x) j))))]) [0, 1] (by decide) rfl
  have hK9 := hK.sub (tys' := [(cA10, .byte)]) [0] rfl
  exact mv_vret hx hb hr hlocks (fun tS ht hW => ⟨⟨_, (r9, cA10, w11, (vf_upd t12 ((z13 - 1) : Int).toNat x), z13), rfl, ⟨okB_app hok (by omega) hDv8 hEv8 hx8 (by omega) (by omega), by omega, rfl, by omega, by omega⟩, by rw [ht]; exact hP9, va_K.moved hW.alike hK9, hD9⟩, hS.F ht⟩) hS.2.2 dX0_append_24
set_option maxHeartbeats 4000000 in
set_option maxRecDepth 100000 in
theorem c_B_num (l : Launch) (dC : Nat → ClassId) (dI : Nat → Nat → Nat) (sz : Nat) (b : Nat) (r : Nat) (cA : ClassId) (w : Nat) (t : Nat → Int) (z : Int) (L : List Int) (x : Int) (i : Int) (hok : okB w t z L) (hi : 0 ≤ i ∧ i ≤ 8) (hl4 : z + i ≤ 4096) (hx8 : -9223372036854775808 ≤ x ∧ x < 9223372036854775808) : mv_Met l yX0_appendNumber wsX0_appendNumber ({ frames := 4, cells := (phB w), slots := (phB w), locals := 160 }) (va_Pc [.ref b, .long (lI x), .int (iI i)] (fun U => U.heap.size = sz ∧ va_P (dC, dI) vwCl [(b, .inr (0, [.ref r, .int (iI z)])), (r, .inl (cA, w, .inl (fun j => bI (t j))))] U.heap ∧ va_K (dC, dI) vwCl [(cA, .byte)] U ∧ va_D (fun _ => True) [(b, .inr (0, [.ref r, .int (iI z)])), (r, .inl (cA, w, .inl (fun j => bI (t j))))])) (mv_Q (fun (v : Option Value) (u : Nat × ClassId × Nat × (Nat → Int) × Int) (k n : Nat) => match u with | (r', cA', w', t', z') => okB w' t' z' (L ++ nb x (i : Int).toNat) ∧ (z' = z + i ∧ 64 ≤ w' ∧ w' ≤ 4096 ∧ z' ≤ (w' : Int)) ∧ v = none ∧ n + phB w' ≤ phB w ∧ k ≤ n) (fun (u : Nat × ClassId × Nat × (Nat → Int) × Int) (tS : State) => match u with | (r', cA', w', t', z') => va_P (dC, dI) vwCl [(b, .inr (0, [.ref r', .int (iI z')])), (r', .inl (cA', w', .inl (fun j => bI (t' j))))] tS.heap ∧ va_K (dC, dI) vwCl [(cA', .byte)] tS ∧ va_D (va_A [(b, .inr (0, [.ref r, .int (iI z)])), (r, .inl (cA, w, .inl (fun j => bI (t j))))] sz) [(b, .inr (0, [.ref r', .int (iI z')])), (r', .inl (cA', w', .inl (fun j => bI (t' j))))]) (va_A [(b, .inr (0, [.ref r, .int (iI z)])), (r, .inl (cA, w, .inl (fun j => bI (t j))))] sz)) (va_A [(b, .inr (0, [.ref r, .int (iI z)])), (r, .inl (cA, w, .inl (fun j => bI (t j))))] sz) := by
  refine mv_ofW (cc := cX0_appendNumber) (maxL := 5) (ret := none) (by decide) rfl ?_
  intro p e s m args below meth c s₁ B hml hv
  obtain ⟨rfl, hsz, hP, hK, hD0⟩ := hv
  have hx := B.exec
  have hb := B.bytes
  have hr := B.returns
  have hT : ∀ w ∈ wT, w.before _ s = true := fun w h => atoms_spec (ws := wsX0_appendNumber) B.pre w (List.mem_cons_of_mem _ h)
  have hown : s.vm.findClass RX0 = some m.cls := findClass_of_methodNamed B.named
  have hlocks := B.notSynchronized
  subst hsz
  have hD := hD0.self (sz := s.heap.size)
  generalize hAe : va_A [(b, .inr (0, [.ref r, .int (iI z)])), (r, .inl (cA, w, .inl (fun j => bI (t j))))] s.heap.size = A at hD ⊢
  have hA : ∀ q : Nat, s.heap.size ≤ q → A q := fun q h => by rw [← hAe]; exact Or.inr h
  have hS : va_S A s.heap s.heap [] := va_S.rf
  have hP : va_P (dC, dI) vwCl [(b, .inr (0, [.ref r, .int (iI z)])), (r, .inl (cA, w, .inl (fun j => bI (t j))))] s.heap := hP
  have hl := lv_entry ([.ref b, .long (lI x), .int (iI i)]) (n := 5) (Nat.le_of_ble_eq_true rfl)
  rw [lg_entry_eq]
  generalize (lg_sl ([.ref b, .long (lI x), .int (iI i)]) ++ List.replicate (5 - (lg_sl ([.ref b, .long (lI x), .int (iI i)])).length) Slot.unset).toArray = ls at hl ⊢
  have hl : lv_has ls 5 [(0, .ref b), (1, .long (lI x)), (3, .int (iI i))] := hl
  obtain ⟨hw1, hw2, hw3, hw4, hw5, hw6⟩ := id hok
  refine mv_nameQ (fun Q9 hQ9 => ?_)
  have LP : ∀ (fu : Nat) (i1 : Int) (r1 : Nat) (cA1 : ClassId) (w1 : Nat) (t1 : Nat → Int) (z1 : Int) (L1 : List Int) (H : Heap) (locs : List Loc) (ls : Array Slot) (kc ks : Nat), (i1 + 1 < (fu : Int)) → (-1 ≤ i1 ∧ i1 ≤ 7) → (okB w1 t1 z1 L1) → (z1 + (i1 + 1) = z + i) → (L1 ++ nb x (i1 + 1).toNat = L ++ nb x (i : Int).toNat) → (ks + phB w1 ≤ phB w) → (kc ≤ ks) → va_K (dC, dI) vwCl [(cA1, .byte)] s → va_P (dC, dI) vwCl [(b, .inr (0, [.ref r1, .int (iI z1)])), (r1, .inl (cA1, w1, .inl (fun j => bI (t1 j))))] H → va_D A [(b, .inr (0, [.ref r1, .int (iI z1)])), (r1, .inl (cA1, w1, .inl (fun j => bI (t1 j))))] → va_S A s.heap H locs → lv_has ls 5 [(0, .ref b), (1, .long (lI x)), (3, .int (iI i)), (4, .int (iI i1))] → W p l e ({ frames := 4, cells := (phB w), slots := (phB w), locals := 160 }) s m ([.ref b, .long (lI x), .int (iI i)] : List Value).toArray below meth c H locs kc ks Q9 (F0 m 10 ls []) := by
    intro fu
    induction fu with
    | zero =>
      intro i1 r1 cA1 w1 t1 z1 L1 H locs ls kc ks hfu hi1 hok1 hl1 hL1 hks hkc hK hP hD hS hl
      exfalso
      omega
    | succ fu ih =>
      intro i1 r1 cA1 w1 t1 z1 L1 H locs ls kc ks hfu hi1 hok1 hl1 hL1 hks hkc hK hP hD hS hl
      obtain ⟨a1, a2, a3, a4, a5, a6⟩ := id hok1
      refine lv_iload hx hb dX0_appendNumber_10 (lv_at hl 3 rfl) ?_
      refine li_if_lt (tgt := 37) hx hb (by omega) dX0_appendNumber_12 (by decide) (fun c1 => ?_) (fun c1 => ?_)
      · skip
        have hend : L1 = L ++ nb x (i : Int).toNat := by rw [← hL1, show (i1 + 1).toNat = 0 by omega]; simp [nb]
        subst hQ9
        have hP9 := hP.sub (ws' := [(b, .inr (0, [.ref r1, .int (iI z1)])), (r1, .inl (cA1, w1, .inl (fun j => bI (t1 j))))]) [0, 1] rfl
        have hD9 := hD.sub (ws' := [(b, .inr (0, [.ref r1, .int (iI z1)])), (r1, .inl (cA1, w1, .inl (fun j => bI (t1 j))))]) [0, 1] (by decide) rfl
        have hK9 := hK.sub (tys' := [(cA1, .byte)]) [0] rfl
        exact mv_vret hx hb hr hlocks (fun tS ht hW => ⟨⟨_, (r1, cA1, w1, t1, z1), rfl, ⟨hend ▸ hok1, by omega, rfl, by omega, by omega⟩, by rw [ht]; exact hP9, va_K.moved hW.alike hK9, hD9⟩, hS.F ht⟩) hS.2.2 dX0_appendNumber_37
      · skip
        refine lv_aload_n hx hb dX0_appendNumber_15 rfl (lv_at hl 0 rfl) ?_
        refine lv_lload_n hx hb dX0_appendNumber_16 rfl (lv_at hl 1 rfl) ?_
        refine lv_bipush (v := iI 8) hx hb dX0_appendNumber_17 (by decide +kernel) ?_
        refine lv_iload hx hb dX0_appendNumber_19 (lv_at hl 3 rfl) ?_
        refine li_imul hx hb dX0_appendNumber_21 ?_
        refine li_lshr hx hb (by omega) (by omega) dX0_appendNumber_22 ?_
        refine li_l2i hx hb dX0_appendNumber_23 ?_
        refine lv_sipush (v := iI 255) hx hb dX0_appendNumber_24 (by decide +kernel) ?_
        refine li_iand255 hx hb dX0_appendNumber_27 ?_
        have hPc := hP.sub (ws' := [(b, .inr (0, [.ref r1, .int (iI z1)])), (r1, .inl (cA1, w1, .inl (fun j => bI (t1 j))))]) [0, 1] rfl
        have hDc := hD.sub (ws' := [(b, .inr (0, [.ref r1, .int (iI z1)])), (r1, .inl (cA1, w1, .inl (fun j => bI (t1 j))))]) [0, 1] (by decide) rfl
        have hKc := hK.sub (tys' := [(cA1, .byte)]) [0] rfl
        have hFc := va_free (wc := [(b, .inr (0, [.ref r1, .int (iI z1)])), (r1, .inl (cA1, w1, .inl (fun j => bI (t1 j))))]) hD hS hA [0, 1] rfl
        refine mv_call (mv_runV (As := [.int (iI ((x / 2 ^ ((8 * i1) : Int).toNat) % 256))]) (rest := []) ⟨hx, hb, hml, hown, hT⟩ (c_B_app l dC dI H.size b r1 cA1 w1 t1 z1 L1 ((x / 2 ^ ((8 * i1) : Int).toNat) % 256) (hok1) (by omega) (by omega)) (cwV 1 hT (gV wd220 wd221 wd222 wd27 wd223) rfl rfl rfl (by decide +kernel) ⟨show 3 + 1 ≤ 4 from by omega, show 8 + (2 + 11) + 130 ≤ 160 from by omega⟩) ⟨fun a U g mk q => by obtain ⟨q0, q1, qP, qK, qD⟩ := q; exact ⟨q0, q1, qP, va_K.moved (u := U) (U := U.calling g mk a) (Vm.Alike.refl U.vm) qK, qD⟩, va_recv hKc hPc (ci := 0) (q0 := 0) rfl rfl, fun U hU hW => ⟨rfl, by rw [hU], by rw [hU]; exact hPc, va_K.moved hW.alike hKc, hDc.weaken (fun _ _ _ _ => trivial)⟩⟩ rfl rfl hl.1 rfl (lv_room (Nat.le_of_ble_eq_true rfl)) dX0_appendNumber_28 ⟨show kc + (phB w1) ≤ (phB w) from by omega, show ks + (phB w1) ≤ (phB w) from by omega⟩) hS (fun q _ h => hFc q h) hFc (fun v4 u k2 n3 tS H1 locs ht hvm hw hB hz1 hk1 hS => ?_)
        obtain ⟨r5, cA6, w7, t8, z9⟩ := u
        obtain ⟨hP1, hK1, hD1⟩ := hB
        rw [ht] at hP1
        have hK1 := va_K.moved hvm.symm hK1
        try dsimp only at hw
        obtain ⟨hP, hD⟩ := va_join (wr := []) (w1 := [(b, .inr (0, [.ref r5, .int (iI z9)])), (r5, .inl (cA6, w7, .inl (fun j => bI (t8 j))))]) hP hD [0, 1] [] rfl rfl (by decide) (by decide) hk1 hFc hP1 hD1
        have hK := (hK.sub (tys' := []) [] rfl).app hK1
        generalize H1 = H at hP hS ⊢
        have hP : va_P (dC, dI) vwCl [(b, .inr (0, [.ref r5, .int (iI z9)])), (r5, .inl (cA6, w7, .inl (fun j => bI (t8 j))))] H := hP
        have hD : va_D A [(b, .inr (0, [.ref r5, .int (iI z9)])), (r5, .inl (cA6, w7, .inl (fun j => bI (t8 j))))] := hD
        have hK : va_K (dC, dI) vwCl [(cA6, .byte)] s := hK
        obtain ⟨hokv4, hNv4, rfl, hFv4, hGv4⟩ := hw
        refine W.eq (g2 := F0 m 31 ls []) rfl ?_
        obtain ⟨z10, ez10⟩ : ∃ y : Int, y = i1 + (-1) := ⟨_, rfl⟩
        refine lv_iinc (v := iI z10) (lv' := [(4, .int (iI z10)), (0, .ref b), (1, .long (lI x)), (3, .int (iI i))]) hx hb dX0_appendNumber_31 hl (k := 3) rfl (by rw [ez10]; exact iI_add _ _) (by decide) rfl (fun ls hl => ?_)
        refine lv_goto (tgt := 10) hx hb dX0_appendNumber_34 (by decide) ?_
        exact ih z10 r5 cA6 w7 t8 z9 (L1 ++ [((x / 2 ^ ((8 * i1) : Int).toNat) % 256)]) _ _ _ _ _ (by omega) (by omega) (hokv4) (by omega) (by rw [List.append_assoc, ← hL1, nb_step x (i := i1) (by omega), p8 (by omega), show (z10 + 1).toNat = i1.toNat by omega]; rfl) (by omega) (by omega) (hK.sub [0] rfl) (hP.sub [0, 1] rfl) (hD.sub [0, 1] (by decide) rfl) hS (lv_sub hl [1, 2, 3, 0] rfl)
  refine lv_iload_n hx hb dX0_appendNumber_0 rfl (lv_at hl 2 rfl) ?_
  refine lv_bipush (v := iI 8) hx hb dX0_appendNumber_1 (by decide +kernel) ?_
  refine li_mmin hx hb (hml.trans hl.1.symm) hown (hT _ wd217) (hT _ wd218) (hT _ wd35) (hT _ wd219) (by show 1 ≤ 4; omega) (by show 0 + 13 ≤ 160; omega) (by show 0 ≤ (phB w); omega) (by show 0 ≤ (phB w); omega) (by omega) (by omega) dX0_appendNumber_3 ?_
  refine lv_iconst (v := iI 1) hx hb dX0_appendNumber_6 rfl ?_
  refine li_isub hx hb dX0_appendNumber_7 ?_
  refine li_nm (fun z11 ez11 => ?_)
  refine lv_istore (lv' := [(4, .int (iI z11)), (0, .ref b), (1, .long (lI x)), (3, .int (iI i))]) hx hb dX0_appendNumber_8 hl (by decide) rfl (fun ls hl => ?_)
  exact LP (10) z11 r cA w t z L _ _ _ _ _ (by omega) (by omega) (hok) (by omega) (by rw [show (z11 + 1).toNat = (i : Int).toNat by omega]) (by omega) (by omega) (hK.sub [0] rfl) (hP.sub [0, 1] rfl) (hD.sub [0, 1] (by decide) rfl) hS (lv_sub hl [1, 2, 3, 0] rfl)
