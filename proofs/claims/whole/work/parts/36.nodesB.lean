set_option maxHeartbeats 4000000 in
set_option maxRecDepth 100000 in
theorem c_copyI (l : Launch) (dC : Nat → ClassId) (dI : Nat → Nat → Nat) (sz : Nat) (r : Nat) (cA : ClassId) (w : Nat) (t : Nat → Int) (i : Int) (hw : w ≤ 100000) (hi : 0 ≤ i ∧ i ≤ 100000 ∧ ¬ i = (w : Int)) : mv_Met l yJA_copyI wsJA_copyI ({ frames := 1, cells := 1, slots := (i : Int).toNat, locals := 60 }) (va_Pc [.ref r, .int (iI i)] (fun U => U.heap.size = sz ∧ va_P (dC, dI) vwCl [(r, .inl (cA, w, .inl (fun j => iI (t j))))] U.heap ∧ va_K (dC, dI) vwCl [(cA, .int)] U ∧ va_D (fun _ => True) [(r, .inl (cA, w, .inl (fun j => iI (t j))))])) (mv_Q (fun (v : Option Value) (u : Nat × ClassId × (Nat → Int)) (k n : Nat) => match u with | (r', cA', t') => v = some (.ref r') ∧ (∀ j : Nat, (j : Int) < i → j < w → t' j = t j) ∧ (∀ j : Nat, t' j = t j ∨ t' j = 0) ∧ k = 1 ∧ n = (i : Int).toNat) (fun (u : Nat × ClassId × (Nat → Int)) (tS : State) => match u with | (r', cA', t') => va_P (dC, dI) vwCl [(r, .inl (cA, w, .inl (fun j => iI (t j)))), (r', .inl (cA', (i : Int).toNat, .inl (fun j => iI (t' j))))] tS.heap ∧ va_K (dC, dI) vwCl [(cA, .int), (cA', .int)] tS ∧ va_D (va_A [(r, .inl (cA, w, .inl (fun j => iI (t j))))] sz) [(r, .inl (cA, w, .inl (fun j => iI (t j)))), (r', .inl (cA', (i : Int).toNat, .inl (fun j => iI (t' j))))]) (va_A [(r, .inl (cA, w, .inl (fun j => iI (t j))))] sz)) (va_A [(r, .inl (cA, w, .inl (fun j => iI (t j))))] sz) := by
  refine mv_ofW (cc := cJA_copyI) (maxL := 3) (ret := (some (.array .int))) (by decide) rfl ?_
  intro p e s m args below meth c s₁ B hml hv
  obtain ⟨rfl, hsz, hP, hK, hD0⟩ := hv
  have hx := B.exec
  have hb := B.bytes
  have hr := B.returns
  have hT : ∀ w ∈ wT, w.before _ s = true := fun w h => atoms_spec (ws := wsJA_copyI) B.pre w (List.mem_cons_of_mem _ h)
  have hown : s.vm.findClass RJA = some m.cls := findClass_of_methodNamed B.named
  have hlocks := B.notSynchronized
  subst hsz
  have hD := hD0.self (sz := s.heap.size)
  generalize hAe : va_A [(r, .inl (cA, w, .inl (fun j => iI (t j))))] s.heap.size = A at hD ⊢
  have hA : ∀ q : Nat, s.heap.size ≤ q → A q := fun q h => by rw [← hAe]; exact Or.inr h
  have hS : va_S A s.heap s.heap [] := va_S.rf
  have hP : va_P (dC, dI) vwCl [(r, .inl (cA, w, .inl (fun j => iI (t j))))] s.heap := hP
  have hl := lv_entry ([.ref r, .int (iI i)]) (n := 3) (Nat.le_of_ble_eq_true rfl)
  rw [lg_entry_eq]
  generalize (lg_sl ([.ref r, .int (iI i)]) ++ List.replicate (3 - (lg_sl ([.ref r, .int (iI i)])).length) Slot.unset).toArray = ls at hl ⊢
  have hl : lv_has ls 3 [(0, .ref r), (1, .int (iI i))] := hl
  refine lv_iload_n hx hb dJA_copyI_0 rfl (lv_at hl 1 rfl) ?_
  refine lv_aload_n hx hb dJA_copyI_1 rfl (lv_at hl 0 rfl) ?_
  refine li_alen hx hb hK hP 0 0 rfl rfl dJA_copyI_2 ?_
  refine li_icmp_ne (tgt := 14) hx hb (by omega) (by omega) dJA_copyI_3 (by decide) (fun c1 => ?_) (fun c1 => absurd c1 (by omega))
  refine lv_iload_n hx hb dJA_copyI_14 rfl (lv_at hl 1 rfl) ?_
  refine va_newa (atype := .int) (ty := .int) (N' := (i : Int).toNat) (a0 := ((i : Int).toNat, .inl (fun j => iI ((fun _ => (0 : Int)) j)))) hx hb (hT _ wd119) rfl hK hP hD hS hA (fun cA => rfl) (by rw [← iI_0, iI_lt (by omega) (by omega)]; omega) (by rw [iI_clamp (by omega)]; try omega) (by show _ * _ ≤ _; simp only [componentBytes]; omega) (by show 0 + 1 ≤ 1; omega) (by show 0 + (i : Int).toNat ≤ (i : Int).toNat; omega) dJA_copyI_15 (fun q2 cA3 H hK hP hD hS => ?_)
  have hP : va_P (dC, dI) vwCl [(r, .inl (cA, w, .inl (fun j => iI (t j)))), (q2, .inl (cA3, (i : Int).toNat, .inl (fun j => iI ((fun _ => (0 : Int)) j))))] H := hP
  have hD : va_D A [(r, .inl (cA, w, .inl (fun j => iI (t j)))), (q2, .inl (cA3, (i : Int).toNat, .inl (fun j => iI ((fun _ => (0 : Int)) j))))] := hD
  have hK : va_K (dC, dI) vwCl [(cA, .int), (cA3, .int)] s := hK
  refine lv_astore_n (lv' := [(2, .ref q2), (0, .ref r), (1, .int (iI i))]) hx hb dJA_copyI_17 rfl hl (by decide) rfl (fun ls hl => ?_)
  refine lv_aload_n hx hb dJA_copyI_18 rfl (lv_at hl 1 rfl) ?_
  refine lv_iconst (v := iI 0) hx hb dJA_copyI_19 rfl ?_
  refine lv_aload_n hx hb dJA_copyI_20 rfl (lv_at hl 0 rfl) ?_
  refine lv_iconst (v := iI 0) hx hb dJA_copyI_21 rfl ?_
  refine lv_aload_n hx hb dJA_copyI_22 rfl (lv_at hl 1 rfl) ?_
  refine li_alen hx hb hK hP 0 0 rfl rfl dJA_copyI_23 ?_
  refine lv_iload_n hx hb dJA_copyI_24 rfl (lv_at hl 2 rfl) ?_
  refine li_mmin hx hb (hml.trans hl.1.symm) hown (hT _ wd242) (hT _ wd218) (hT _ wd35) (hT _ wd219) (by show 1 ≤ 1; omega) (by show 4 + 13 ≤ 60; omega) (by show 0 + 1 ≤ 1; omega) (by show 0 + (i : Int).toNat ≤ (i : Int).toNat; omega) (by omega) (by omega) dJA_copyI_25 ?_
  refine li_copyi hx hb (hml.trans hl.1.symm) hown (hT _ wd243) (hT _ wd245) (hT _ wd244) (hT _ wd37) hK hP hD hS 0 1 0 1 rfl rfl rfl rfl (by omega) (by omega) (by omega) (by omega) (by show 1 ≤ 1; omega) (by show _ ≤ 60; decide +kernel) dJA_copyI_28 (fun H locs hP hD hS => ?_)
  have hP : va_P (dC, dI) vwCl [(r, .inl (cA, w, .inl (fun j => iI (t j)))), (q2, .inl (cA3, (i : Int).toNat, .inl (fun j => iI ((va_cpy t (fun _ => (0 : Int)) (0 : Int).toNat (0 : Int).toNat ((min (w : Int) i) : Int).toNat) j))))] H := hP
  have hD : va_D A [(r, .inl (cA, w, .inl (fun j => iI (t j)))), (q2, .inl (cA3, (i : Int).toNat, .inl (fun j => iI ((va_cpy t (fun _ => (0 : Int)) (0 : Int).toNat (0 : Int).toNat ((min (w : Int) i) : Int).toNat) j))))] := hD
  refine lv_aload_n hx hb dJA_copyI_31 rfl (lv_at hl 0 rfl) ?_
  have hP9 := hP.sub (ws' := [(r, .inl (cA, w, .inl (fun j => iI (t j)))), (q2, .inl (cA3, (i : Int).toNat, .inl (fun j => iI ((va_cpy t (fun _ => (0 : Int)) (0 : Int).toNat (0 : Int).toNat ((min (w : Int) i) : Int).toNat) j))))]) [0, 1] rfl
  have hD9 := hD.sub (ws' := [(r, .inl (cA, w, .inl (fun j => iI (t j)))), (q2, .inl (cA3, (i : Int).toNat, .inl (fun j => iI ((va_cpy t (fun _ => (0 : Int)) (0 : Int).toNat (0 : Int).toNat ((min (w : Int) i) : Int).toNat) j))))]) [0, 1] (by decide) rfl
  have hK9 := hK.sub (tys' := [(cA, .int), (cA3, .int)]) [0, 1] rfl
  exact mv_aret hx hb hr (Or.inr ⟨_, rfl⟩) hlocks (fun tS ht hW => ⟨⟨_, (q2, cA3, (va_cpy t (fun _ => (0 : Int)) (0 : Int).toNat (0 : Int).toNat ((min (w : Int) i) : Int).toNat)), rfl, ⟨rfl, fun j h1 h2 => cpy_in (by omega), fun j => cpy_or rfl, rfl, by omega⟩, by rw [ht]; exact hP9, va_K.moved hW.alike hK9, hD9⟩, hS.F ht⟩) hS.2.2 dJA_copyI_32
set_option maxHeartbeats 4000000 in
set_option maxRecDepth 100000 in
theorem c_N_ent (l : Launch) (dC : Nat → ClassId) (dI : Nat → Nat → Nat) (sz : Nat) (nd : Nat) (b : Nat) (h : Nat) (rw : Nat) (mn : Int) (sx : Int) (cR : ClassId) (M : Nat) (V : Nat → Int) (kd : Int) (cs : Int) (tg : Int) (op : Int) (sz1 : Int) (ct : Int) (i : Int) (pr : Int) (hoN : okN M V mn) (hm8 : mn < 2048) (hhd : 0 ≤ kd ∧ kd ≤ 3 ∧ (cs = 0 ∨ cs = 1) ∧ -1 ≤ tg ∧ tg ≤ 2147483647 ∧ 0 ≤ ct ∧ ct ≤ 4096 ∧ 0 ≤ sz1 ∧ sz1 ≤ 4096) (hi : 0 ≤ i ∧ i ≤ 4096) (hpr : -1 ≤ pr ∧ pr < mn) : mv_Met l yX2_enter wsX2_enter ({ frames := 3, cells := (phR M), slots := (phR M), locals := 130 }) (va_Pc [.ref nd, .int (iI i), .int (iI pr)] (fun U => U.heap.size = sz ∧ va_P (dC, dI) vwCl [(nd, .inr (2, [.ref b, .ref h, .ref rw, .int (iI mn), .int (iI sx)])), (rw, .inl (cR, M, .inl (fun j => iI (V j)))), (h, .inr (1, [.int (iI kd), .int (iI cs), .int (iI tg), .int (iI op), .int (iI sz1), .int (iI ct)]))] U.heap ∧ va_K (dC, dI) vwCl [(cR, .int)] U ∧ va_D (fun _ => True) [(nd, .inr (2, [.ref b, .ref h, .ref rw, .int (iI mn), .int (iI sx)])), (rw, .inl (cR, M, .inl (fun j => iI (V j)))), (h, .inr (1, [.int (iI kd), .int (iI cs), .int (iI tg), .int (iI op), .int (iI sz1), .int (iI ct)]))] ∧ nsW U)) (mv_Q (fun (v : Option Value) (u : Nat × ClassId × Nat × (Nat → Int)) (k n : Nat) => match u with | (rw', cR', M', V') => v = some (.int (iI mn)) ∧ okN M' V' (mn + 1) ∧ (∀ j : Nat, (j : Int) < 8 * (mn + 1) → V' j = entV V mn kd tg cs i ct sz1 pr j) ∧ n + phR M' ≤ phR M ∧ k ≤ n) (fun (u : Nat × ClassId × Nat × (Nat → Int)) (tS : State) => match u with | (rw', cR', M', V') => va_P (dC, dI) vwCl [(nd, .inr (2, [.ref b, .ref h, .ref rw', .int (iI (mn + 1)), .int (iI sx)])), (rw', .inl (cR', M', .inl (fun j => iI (V' j)))), (h, .inr (1, [.int (iI kd), .int (iI cs), .int (iI tg), .int (iI op), .int (iI sz1), .int (iI ct)]))] tS.heap ∧ va_K (dC, dI) vwCl [(cR', .int)] tS ∧ va_D (va_A [(nd, .inr (2, [.ref b, .ref h, .ref rw, .int (iI mn), .int (iI sx)])), (rw, .inl (cR, M, .inl (fun j => iI (V j)))), (h, .inr (1, [.int (iI kd), .int (iI cs), .int (iI tg), .int (iI op), .int (iI sz1), .int (iI ct)]))] sz) [(nd, .inr (2, [.ref b, .ref h, .ref rw', .int (iI (mn + 1)), .int (iI sx)])), (rw', .inl (cR', M', .inl (fun j => iI (V' j)))), (h, .inr (1, [.int (iI kd), .int (iI cs), .int (iI tg), .int (iI op), .int (iI sz1), .int (iI ct)]))]) (va_A [(nd, .inr (2, [.ref b, .ref h, .ref rw, .int (iI mn), .int (iI sx)])), (rw, .inl (cR, M, .inl (fun j => iI (V j)))), (h, .inr (1, [.int (iI kd), .int (iI cs), .int (iI tg), .int (iI op), .int (iI sz1), .int (iI ct)]))] sz)) (va_A [(nd, .inr (2, [.ref b, .ref h, .ref rw, .int (iI mn), .int (iI sx)])), (rw, .inl (cR, M, .inl (fun j => iI (V j)))), (h, .inr (1, [.int (iI kd), .int (iI cs), .int (iI tg), .int (iI op), .int (iI sz1), .int (iI ct)]))] sz) := by
  refine mv_ofW (cc := cX2_enter) (maxL := 4) (ret := (some .int)) (by decide) rfl ?_
  intro p e s m args below meth c s₁ B hml hv
  obtain ⟨rfl, hsz, hP, hK, hD0, hN⟩ := hv
  have hx := B.exec
  have hb := B.bytes
  have hr := B.returns
  have hT : ∀ w ∈ wT, w.before _ s = true := fun w h => atoms_spec (ws := wsX2_enter) B.pre w (List.mem_cons_of_mem _ h)
  have hown : s.vm.findClass RX2 = some m.cls := findClass_of_methodNamed B.named
  have hlocks := B.notSynchronized
  subst hsz
  have hD := hD0.self (sz := s.heap.size)
  generalize hAe : va_A [(nd, .inr (2, [.ref b, .ref h, .ref rw, .int (iI mn), .int (iI sx)])), (rw, .inl (cR, M, .inl (fun j => iI (V j)))), (h, .inr (1, [.int (iI kd), .int (iI cs), .int (iI tg), .int (iI op), .int (iI sz1), .int (iI ct)]))] s.heap.size = A at hD ⊢
  have hA : ∀ q : Nat, s.heap.size ≤ q → A q := fun q h => by rw [← hAe]; exact Or.inr h
  have hS : va_S A s.heap s.heap [] := va_S.rf
  have hP : va_P (dC, dI) vwCl [(nd, .inr (2, [.ref b, .ref h, .ref rw, .int (iI mn), .int (iI sx)])), (rw, .inl (cR, M, .inl (fun j => iI (V j)))), (h, .inr (1, [.int (iI kd), .int (iI cs), .int (iI tg), .int (iI op), .int (iI sz1), .int (iI ct)]))] s.heap := hP
  have hl := lv_entry ([.ref nd, .int (iI i), .int (iI pr)]) (n := 4) (Nat.le_of_ble_eq_true rfl)
  rw [lg_entry_eq]
  generalize (lg_sl ([.ref nd, .int (iI i), .int (iI pr)]) ++ List.replicate (4 - (lg_sl ([.ref nd, .int (iI i), .int (iI pr)])).length) Slot.unset).toArray = ls at hl ⊢
  have hl : lv_has ls 4 [(0, .ref nd), (1, .int (iI i)), (2, .int (iI pr))] := hl
  obtain ⟨hn1, hn2, hn3, hn4, hn5, hn6, hn7⟩ := id hoN
  refine lv_aload_n hx hb dX2_enter_0 rfl (lv_at hl 0 rfl) ?_
  refine va_get (D := (dC, dI)) (ci := 2) (v := .int (iI mn)) (C := RX2) (T := TX2) (N := 5) hx hb hT inX2 hown hK hP 0 rfl rfl 3 (by decide) (hT _ wd106) (fun _ h9 => h9) rfl dX2_enter_1 ?_
  refine lv_istore_n (lv' := [(3, .int (iI mn)), (0, .ref nd), (1, .int (iI i)), (2, .int (iI pr))]) hx hb dX2_enter_4 rfl hl (by decide) rfl (fun ls hl => ?_)
  refine lv_iload_n hx hb dX2_enter_5 rfl (lv_at hl 0 rfl) ?_
  refine lv_iconst (v := iI 1) hx hb dX2_enter_6 rfl ?_
  refine li_iadd hx hb dX2_enter_7 ?_
  refine lv_bipush (v := iI 8) hx hb dX2_enter_8 (by decide +kernel) ?_
  refine li_imul hx hb dX2_enter_10 ?_
  refine lv_aload_n hx hb dX2_enter_11 rfl (lv_at hl 1 rfl) ?_
  refine va_get (D := (dC, dI)) (ci := 2) (v := .ref rw) (C := RX2) (T := TX2) (N := 5) hx hb hT inX2 hown hK hP 0 rfl rfl 2 (by decide) (hT _ wd105) (fun _ h9 => h9) rfl dX2_enter_12 ?_
  refine li_alen hx hb hK hP 1 0 rfl rfl dX2_enter_15 ?_
  refine li_icmp_le (tgt := 43) hx hb (by omega) (by omega) dX2_enter_16 (by decide) (fun c1 => ?_) (fun c1 => ?_)
  · skip
    have hV0 : ∀ j, -2147483648 ≤ V j ∧ V j < 2147483648 := hn6
    have h00 : ∀ j : Nat, (j : Int) < 8 * mn → V j = V j := fun _ _ => rfl
    refine lv_aload_n hx hb dX2_enter_43 rfl (lv_at hl 1 rfl) ?_
    refine lv_iload_n hx hb dX2_enter_44 rfl (lv_at hl 0 rfl) ?_
    refine lv_iconst (v := iI 1) hx hb dX2_enter_45 rfl ?_
    refine li_iadd hx hb dX2_enter_46 ?_
    refine va_put (D := (dC, dI)) (ci := 2) (v := .int (iI (mn + 1))) (ty := .int) (C := RX2) (T := TX2) (N := 5) hx hb hT inX2 tyX2 tyX2_ok nX2 hown hK hP hD hS 0 rfl rfl 3 (by decide) (hT _ wd106) (fun _ h9 => h9) rfl (by decide +kernel) rfl rfl (Nat.le_of_ble_eq_true rfl) dX2_enter_47 (fun H locs hP hD hS => ?_)
    have hP : va_P (dC, dI) vwCl [(nd, .inr (2, [.ref b, .ref h, .ref rw, .int (iI (mn + 1)), .int (iI sx)])), (rw, .inl (cR, M, .inl (fun j => iI (V j)))), (h, .inr (1, [.int (iI kd), .int (iI cs), .int (iI tg), .int (iI op), .int (iI sz1), .int (iI ct)]))] H := hP
    have hD : va_D A [(nd, .inr (2, [.ref b, .ref h, .ref rw, .int (iI (mn + 1)), .int (iI sx)])), (rw, .inl (cR, M, .inl (fun j => iI (V j)))), (h, .inr (1, [.int (iI kd), .int (iI cs), .int (iI tg), .int (iI op), .int (iI sz1), .int (iI ct)]))] := hD
    refine lv_aload_n hx hb dX2_enter_50 rfl (lv_at hl 1 rfl) ?_
    refine lv_iload_n hx hb dX2_enter_51 rfl (lv_at hl 0 rfl) ?_
    refine lv_iconst (v := iI 0) hx hb dX2_enter_52 rfl ?_
    refine lv_aload_n hx hb dX2_enter_53 rfl (lv_at hl 1 rfl) ?_
    refine va_get (D := (dC, dI)) (ci := 2) (v := .ref h) (C := RX2) (T := TX2) (N := 5) hx hb hT inX2 hown hK hP 0 rfl rfl 1 (by decide) (hT _ wd104) (fun _ h9 => h9) rfl dX2_enter_54 ?_
    refine va_getN (D := (dC, dI)) (ci := 1) (v := .int (iI kd)) (C := RX1) (T := TX1) (N := 6) hx hb hT inX1 hown hK hP 2 rfl rfl 0 (by decide) (va_Nw.use rfl hN.1) (fun _ h9 => h9) rfl dX2_enter_57 ?_
    have hPc := hP.sub (ws' := [(nd, .inr (2, [.ref b, .ref h, .ref rw, .int (iI (mn + 1)), .int (iI sx)])), (rw, .inl (cR, M, .inl (fun j => iI (V j))))]) [0, 1] rfl
    have hDc := hD.sub (ws' := [(nd, .inr (2, [.ref b, .ref h, .ref rw, .int (iI (mn + 1)), .int (iI sx)])), (rw, .inl (cR, M, .inl (fun j => iI (V j))))]) [0, 1] (by decide) rfl
    have hKc := hK.sub (tys' := [(cR, .int)]) [0] rfl
    have hFc := va_free (wc := [(nd, .inr (2, [.ref b, .ref h, .ref rw, .int (iI (mn + 1)), .int (iI sx)])), (rw, .inl (cR, M, .inl (fun j => iI (V j))))]) hD hS hA [0, 1] rfl
    refine mv_call (mv_runV (As := [.int (iI mn), .int (iI 0), .int (iI kd)]) (rest := []) ⟨hx, hb, hml, hown, hT⟩ (c_N_putV l dC dI H.size nd b h rw (mn + 1) sx cR M V mn 0 kd (by omega) (by omega) (by omega) (by omega) (by omega)) (cwV 3 hT (gV wd349 wd351 wd9 wd28 wd352) rfl rfl rfl (by decide +kernel) ⟨show 2 + 1 ≤ 3 from by omega, show 8 + (5 + 11) + 70 ≤ 130 from by omega⟩) ⟨fun a U g mk q => by obtain ⟨q0, q1, qP, qK, qD⟩ := q; exact ⟨q0, q1, qP, va_K.moved (u := U) (U := U.calling g mk a) (Vm.Alike.refl U.vm) qK, qD⟩, va_recv hKc hPc (ci := 2) (q0 := 0) rfl rfl, fun U hU hW => ⟨rfl, by rw [hU], by rw [hU]; exact hPc, va_K.moved hW.alike hKc, hDc.weaken (fun _ _ _ _ => trivial)⟩⟩ rfl rfl hl.1 rfl (lv_room (Nat.le_of_ble_eq_true rfl)) dX2_enter_60 ⟨show 0 + 0 ≤ (phR M) from by omega, show 0 + 0 ≤ (phR M) from by omega⟩) hS (fun q _ h => hFc q h) hFc (fun v4 u k2 n3 tS H1 locs ht hvm hw hB hz1 hk1 hS => ?_)
    obtain ⟨hP1, hK1, hD1⟩ := hB
    rw [ht] at hP1
    have hK1 := va_K.moved hvm.symm hK1
    try dsimp only at hw
    obtain ⟨hP, hD⟩ := va_join (wr := [(h, .inr (1, [.int (iI kd), .int (iI cs), .int (iI tg), .int (iI op), .int (iI sz1), .int (iI ct)]))]) (w1 := [(nd, .inr (2, [.ref b, .ref h, .ref rw, .int (iI (mn + 1)), .int (iI sx)])), (rw, .inl (cR, M, .inl (fun j => iI ((vf_upd V (mn * 8 + 0).toNat kd) j))))]) hP hD [0, 1] [2] rfl rfl (by decide) (by decide) hk1 hFc hP1 hD1
    have hK := (hK.sub (tys' := []) [] rfl).app hK1
    generalize H1 = H at hP hS ⊢
    have hP : va_P (dC, dI) vwCl [(h, .inr (1, [.int (iI kd), .int (iI cs), .int (iI tg), .int (iI op), .int (iI sz1), .int (iI ct)])), (nd, .inr (2, [.ref b, .ref h, .ref rw, .int (iI (mn + 1)), .int (iI sx)])), (rw, .inl (cR, M, .inl (fun j => iI ((vf_upd V (mn * 8 + 0).toNat kd) j))))] H := hP
    have hD : va_D A [(h, .inr (1, [.int (iI kd), .int (iI cs), .int (iI tg), .int (iI op), .int (iI sz1), .int (iI ct)])), (nd, .inr (2, [.ref b, .ref h, .ref rw, .int (iI (mn + 1)), .int (iI sx)])), (rw, .inl (cR, M, .inl (fun j => iI ((vf_upd V (mn * 8 + 0).toNat kd) j))))] := hD
    have hK : va_K (dC, dI) vwCl [(cR, .int)] s := hK
    obtain ⟨rfl, rfl, rfl⟩ := hw
    refine W.eq (g2 := F0 m 63 ls []) rfl ?_
    refine lv_aload_n hx hb dX2_enter_63 rfl (lv_at hl 1 rfl) ?_
    refine lv_iload_n hx hb dX2_enter_64 rfl (lv_at hl 0 rfl) ?_
    refine lv_iconst (v := iI 1) hx hb dX2_enter_65 rfl ?_
    refine lv_aload_n hx hb dX2_enter_66 rfl (lv_at hl 1 rfl) ?_
    refine va_get (D := (dC, dI)) (ci := 2) (v := .ref h) (C := RX2) (T := TX2) (N := 5) hx hb hT inX2 hown hK hP 1 rfl rfl 1 (by decide) (hT _ wd104) (fun _ h9 => h9) rfl dX2_enter_67 ?_
    refine va_getN (D := (dC, dI)) (ci := 1) (v := .int (iI tg)) (C := RX1) (T := TX1) (N := 6) hx hb hT inX1 hown hK hP 0 rfl rfl 2 (by decide) (va_Nw.use rfl hN.2.2.1) (fun _ h9 => h9) rfl dX2_enter_70 ?_
    have hPc := hP.sub (ws' := [(nd, .inr (2, [.ref b, .ref h, .ref rw, .int (iI (mn + 1)), .int (iI sx)])), (rw, .inl (cR, M, .inl (fun j => iI ((vf_upd V (mn * 8 + 0).toNat kd) j))))]) [1, 2] rfl
    have hDc := hD.sub (ws' := [(nd, .inr (2, [.ref b, .ref h, .ref rw, .int (iI (mn + 1)), .int (iI sx)])), (rw, .inl (cR, M, .inl (fun j => iI ((vf_upd V (mn * 8 + 0).toNat kd) j))))]) [1, 2] (by decide) rfl
    have hKc := hK.sub (tys' := [(cR, .int)]) [0] rfl
    have hFc := va_free (wc := [(nd, .inr (2, [.ref b, .ref h, .ref rw, .int (iI (mn + 1)), .int (iI sx)])), (rw, .inl (cR, M, .inl (fun j => iI ((vf_upd V (mn * 8 + 0).toNat kd) j))))]) hD hS hA [1, 2] rfl
    refine mv_call (mv_runV (As := [.int (iI mn), .int (iI 1), .int (iI tg)]) (rest := []) ⟨hx, hb, hml, hown, hT⟩ (c_N_putV l dC dI H.size nd b h rw (mn + 1) sx cR M (vf_upd V (mn * 8 + 0).toNat kd) mn 1 tg (by omega) (by omega) (by omega) (by omega) (by omega)) (cwV 3 hT (gV wd349 wd351 wd9 wd28 wd352) rfl rfl rfl (by decide +kernel) ⟨show 2 + 1 ≤ 3 from by omega, show 8 + (5 + 11) + 70 ≤ 130 from by omega⟩) ⟨fun a U g mk q => by obtain ⟨q0, q1, qP, qK, qD⟩ := q; exact ⟨q0, q1, qP, va_K.moved (u := U) (U := U.calling g mk a) (Vm.Alike.refl U.vm) qK, qD⟩, va_recv hKc hPc (ci := 2) (q0 := 0) rfl rfl, fun U hU hW => ⟨rfl, by rw [hU], by rw [hU]; exact hPc, va_K.moved hW.alike hKc, hDc.weaken (fun _ _ _ _ => trivial)⟩⟩ rfl rfl hl.1 rfl (lv_room (Nat.le_of_ble_eq_true rfl)) dX2_enter_73 ⟨show 0 + 0 + 0 ≤ (phR M) from by omega, show 0 + 0 + 0 ≤ (phR M) from by omega⟩) hS (fun q _ h => hFc q h) hFc (fun v7 u k5 n6 tS H1 locs ht hvm hw hB hz1 hk1 hS => ?_)
    obtain ⟨hP1, hK1, hD1⟩ := hB
    rw [ht] at hP1
    have hK1 := va_K.moved hvm.symm hK1
    try dsimp only at hw
    obtain ⟨hP, hD⟩ := va_join (wr := [(h, .inr (1, [.int (iI kd), .int (iI cs), .int (iI tg), .int (iI op), .int (iI sz1), .int (iI ct)]))]) (w1 := [(nd, .inr (2, [.ref b, .ref h, .ref rw, .int (iI (mn + 1)), .int (iI sx)])), (rw, .inl (cR, M, .inl (fun j => iI ((vf_upd (vf_upd V (mn * 8 + 0).toNat kd) (mn * 8 + 1).toNat tg) j))))]) hP hD [1, 2] [0] rfl rfl (by decide) (by decide) hk1 hFc hP1 hD1
    have hK := (hK.sub (tys' := []) [] rfl).app hK1
    generalize H1 = H at hP hS ⊢
    have hP : va_P (dC, dI) vwCl [(h, .inr (1, [.int (iI kd), .int (iI cs), .int (iI tg), .int (iI op), .int (iI sz1), .int (iI ct)])), (nd, .inr (2, [.ref b, .ref h, .ref rw, .int (iI (mn + 1)), .int (iI sx)])), (rw, .inl (cR, M, .inl (fun j => iI ((vf_upd (vf_upd V (mn * 8 + 0).toNat kd) (mn * 8 + 1).toNat tg) j))))] H := hP
    have hD : va_D A [(h, .inr (1, [.int (iI kd), .int (iI cs), .int (iI tg), .int (iI op), .int (iI sz1), .int (iI ct)])), (nd, .inr (2, [.ref b, .ref h, .ref rw, .int (iI (mn + 1)), .int (iI sx)])), (rw, .inl (cR, M, .inl (fun j => iI ((vf_upd (vf_upd V (mn * 8 + 0).toNat kd) (mn * 8 + 1).toNat tg) j))))] := hD
    have hK : va_K (dC, dI) vwCl [(cR, .int)] s := hK
    obtain ⟨rfl, rfl, rfl⟩ := hw
    refine W.eq (g2 := F0 m 76 ls []) rfl ?_
    refine lv_aload_n hx hb dX2_enter_76 rfl (lv_at hl 1 rfl) ?_
    refine lv_iload_n hx hb dX2_enter_77 rfl (lv_at hl 0 rfl) ?_
    refine lv_iconst (v := iI 2) hx hb dX2_enter_78 rfl ?_
    refine lv_aload_n hx hb dX2_enter_79 rfl (lv_at hl 1 rfl) ?_
    refine va_get (D := (dC, dI)) (ci := 2) (v := .ref h) (C := RX2) (T := TX2) (N := 5) hx hb hT inX2 hown hK hP 1 rfl rfl 1 (by decide) (hT _ wd104) (fun _ h9 => h9) rfl dX2_enter_80 ?_
    refine va_getN (D := (dC, dI)) (ci := 1) (v := .int (iI cs)) (C := RX1) (T := TX1) (N := 6) hx hb hT inX1 hown hK hP 0 rfl rfl 1 (by decide) (va_Nw.use rfl hN.2.1) (fun _ h9 => h9) rfl dX2_enter_83 ?_
    refine li_if_eq (tgt := 93) hx hb (by omega) dX2_enter_86 (by decide) (fun c8 => ?_) (fun c8 => ?_)
    · skip
      refine lv_iconst (v := iI 0) hx hb dX2_enter_93 rfl ?_
      refine li_re (show (0 : Int) = cs by omega) ?_
      have hPc := hP.sub (ws' := [(nd, .inr (2, [.ref b, .ref h, .ref rw, .int (iI (mn + 1)), .int (iI sx)])), (rw, .inl (cR, M, .inl (fun j => iI ((vf_upd (vf_upd V (mn * 8 + 0).toNat kd) (mn * 8 + 1).toNat tg) j))))]) [1, 2] rfl
      have hDc := hD.sub (ws' := [(nd, .inr (2, [.ref b, .ref h, .ref rw, .int (iI (mn + 1)), .int (iI sx)])), (rw, .inl (cR, M, .inl (fun j => iI ((vf_upd (vf_upd V (mn * 8 + 0).toNat kd) (mn * 8 + 1).toNat tg) j))))]) [1, 2] (by decide) rfl
      have hKc := hK.sub (tys' := [(cR, .int)]) [0] rfl
      have hFc := va_free (wc := [(nd, .inr (2, [.ref b, .ref h, .ref rw, .int (iI (mn + 1)), .int (iI sx)])), (rw, .inl (cR, M, .inl (fun j => iI ((vf_upd (vf_upd V (mn * 8 + 0).toNat kd) (mn * 8 + 1).toNat tg) j))))]) hD hS hA [1, 2] rfl
      refine mv_call (mv_runV (As := [.int (iI mn), .int (iI 2), .int (iI cs)]) (rest := []) ⟨hx, hb, hml, hown, hT⟩ (c_N_putV l dC dI H.size nd b h rw (mn + 1) sx cR M (vf_upd (vf_upd V (mn * 8 + 0).toNat kd) (mn * 8 + 1).toNat tg) mn 2 cs (by omega) (by omega) (by omega) (by omega) (by omega)) (cwV 3 hT (gV wd349 wd351 wd9 wd28 wd352) rfl rfl rfl (by decide +kernel) ⟨show 2 + 1 ≤ 3 from by omega, show 8 + (5 + 11) + 70 ≤ 130 from by omega⟩) ⟨fun a U g mk q => by obtain ⟨q0, q1, qP, qK, qD⟩ := q; exact ⟨q0, q1, qP, va_K.moved (u := U) (U := U.calling g mk a) (Vm.Alike.refl U.vm) qK, qD⟩, va_recv hKc hPc (ci := 2) (q0 := 0) rfl rfl, fun U hU hW => ⟨rfl, by rw [hU], by rw [hU]; exact hPc, va_K.moved hW.alike hKc, hDc.weaken (fun _ _ _ _ => trivial)⟩⟩ rfl rfl hl.1 rfl (lv_room (Nat.le_of_ble_eq_true rfl)) dX2_enter_94 ⟨show 0 + 0 + 0 + 0 ≤ (phR M) from by omega, show 0 + 0 + 0 + 0 ≤ (phR M) from by omega⟩) hS (fun q _ h => hFc q h) hFc (fun v11 u k9 n10 tS H1 locs ht hvm hw hB hz1 hk1 hS => ?_)
      obtain ⟨hP1, hK1, hD1⟩ := hB
      rw [ht] at hP1
      have hK1 := va_K.moved hvm.symm hK1
      try dsimp only at hw
      obtain ⟨hP, hD⟩ := va_join (wr := [(h, .inr (1, [.int (iI kd), .int (iI cs), .int (iI tg), .int (iI op), .int (iI sz1), .int (iI ct)]))]) (w1 := [(nd, .inr (2, [.ref b, .ref h, .ref rw, .int (iI (mn + 1)), .int (iI sx)])), (rw, .inl (cR, M, .inl (fun j => iI ((vf_upd (vf_upd (vf_upd V (mn * 8 + 0).toNat kd) (mn * 8 + 1).toNat tg) (mn * 8 + 2).toNat cs) j))))]) hP hD [1, 2] [0] rfl rfl (by decide) (by decide) hk1 hFc hP1 hD1
      have hK := (hK.sub (tys' := []) [] rfl).app hK1
      generalize H1 = H at hP hS ⊢
      have hP : va_P (dC, dI) vwCl [(h, .inr (1, [.int (iI kd), .int (iI cs), .int (iI tg), .int (iI op), .int (iI sz1), .int (iI ct)])), (nd, .inr (2, [.ref b, .ref h, .ref rw, .int (iI (mn + 1)), .int (iI sx)])), (rw, .inl (cR, M, .inl (fun j => iI ((vf_upd (vf_upd (vf_upd V (mn * 8 + 0).toNat kd) (mn * 8 + 1).toNat tg) (mn * 8 + 2).toNat cs) j))))] H := hP
      have hD : va_D A [(h, .inr (1, [.int (iI kd), .int (iI cs), .int (iI tg), .int (iI op), .int (iI sz1), .int (iI ct)])), (nd, .inr (2, [.ref b, .ref h, .ref rw, .int (iI (mn + 1)), .int (iI sx)])), (rw, .inl (cR, M, .inl (fun j => iI ((vf_upd (vf_upd (vf_upd V (mn * 8 + 0).toNat kd) (mn * 8 + 1).toNat tg) (mn * 8 + 2).toNat cs) j))))] := hD
      have hK : va_K (dC, dI) vwCl [(cR, .int)] s := hK
      obtain ⟨rfl, rfl, rfl⟩ := hw
      refine W.eq (g2 := F0 m 97 ls []) rfl ?_
      refine lv_aload_n hx hb dX2_enter_97 rfl (lv_at hl 1 rfl) ?_
      refine lv_iload_n hx hb dX2_enter_98 rfl (lv_at hl 0 rfl) ?_
      refine lv_iconst (v := iI 3) hx hb dX2_enter_99 rfl ?_
      refine lv_iload_n hx hb dX2_enter_100 rfl (lv_at hl 2 rfl) ?_
      have hPc := hP.sub (ws' := [(nd, .inr (2, [.ref b, .ref h, .ref rw, .int (iI (mn + 1)), .int (iI sx)])), (rw, .inl (cR, M, .inl (fun j => iI ((vf_upd (vf_upd (vf_upd V (mn * 8 + 0).toNat kd) (mn * 8 + 1).toNat tg) (mn * 8 + 2).toNat cs) j))))]) [1, 2] rfl
      have hDc := hD.sub (ws' := [(nd, .inr (2, [.ref b, .ref h, .ref rw, .int (iI (mn + 1)), .int (iI sx)])), (rw, .inl (cR, M, .inl (fun j => iI ((vf_upd (vf_upd (vf_upd V (mn * 8 + 0).toNat kd) (mn * 8 + 1).toNat tg) (mn * 8 + 2).toNat cs) j))))]) [1, 2] (by decide) rfl
      have hKc := hK.sub (tys' := [(cR, .int)]) [0] rfl
      have hFc := va_free (wc := [(nd, .inr (2, [.ref b, .ref h, .ref rw, .int (iI (mn + 1)), .int (iI sx)])), (rw, .inl (cR, M, .inl (fun j => iI ((vf_upd (vf_upd (vf_upd V (mn * 8 + 0).toNat kd) (mn * 8 + 1).toNat tg) (mn * 8 + 2).toNat cs) j))))]) hD hS hA [1, 2] rfl
      refine mv_call (mv_runV (As := [.int (iI mn), .int (iI 3), .int (iI i)]) (rest := []) ⟨hx, hb, hml, hown, hT⟩ (c_N_putV l dC dI H.size nd b h rw (mn + 1) sx cR M (vf_upd (vf_upd (vf_upd V (mn * 8 + 0).toNat kd) (mn * 8 + 1).toNat tg) (mn * 8 + 2).toNat cs) mn 3 i (by omega) (by omega) (by omega) (by omega) (by omega)) (cwV 3 hT (gV wd349 wd351 wd9 wd28 wd352) rfl rfl rfl (by decide +kernel) ⟨show 2 + 1 ≤ 3 from by omega, show 8 + (5 + 11) + 70 ≤ 130 from by omega⟩) ⟨fun a U g mk q => by obtain ⟨q0, q1, qP, qK, qD⟩ := q; exact ⟨q0, q1, qP, va_K.moved (u := U) (U := U.calling g mk a) (Vm.Alike.refl U.vm) qK, qD⟩, va_recv hKc hPc (ci := 2) (q0 := 0) rfl rfl, fun U hU hW => ⟨rfl, by rw [hU], by rw [hU]; exact hPc, va_K.moved hW.alike hKc, hDc.weaken (fun _ _ _ _ => trivial)⟩⟩ rfl rfl hl.1 rfl (lv_room (Nat.le_of_ble_eq_true rfl)) dX2_enter_101 ⟨show 0 + 0 + 0 + 0 + 0 ≤ (phR M) from by omega, show 0 + 0 + 0 + 0 + 0 ≤ (phR M) from by omega⟩) hS (fun q _ h => hFc q h) hFc (fun v14 u k12 n13 tS H1 locs ht hvm hw hB hz1 hk1 hS => ?_)
      obtain ⟨hP1, hK1, hD1⟩ := hB
      rw [ht] at hP1
      have hK1 := va_K.moved hvm.symm hK1
      try dsimp only at hw
      obtain ⟨hP, hD⟩ := va_join (wr := [(h, .inr (1, [.int (iI kd), .int (iI cs), .int (iI tg), .int (iI op), .int (iI sz1), .int (iI ct)]))]) (w1 := [(nd, .inr (2, [.ref b, .ref h, .ref rw, .int (iI (mn + 1)), .int (iI sx)])), (rw, .inl (cR, M, .inl (fun j => iI ((vf_upd (vf_upd (vf_upd (vf_upd V (mn * 8 + 0).toNat kd) (mn * 8 + 1).toNat tg) (mn * 8 + 2).toNat cs) (mn * 8 + 3).toNat i) j))))]) hP hD [1, 2] [0] rfl rfl (by decide) (by decide) hk1 hFc hP1 hD1
      have hK := (hK.sub (tys' := []) [] rfl).app hK1
      generalize H1 = H at hP hS ⊢
      have hP : va_P (dC, dI) vwCl [(h, .inr (1, [.int (iI kd), .int (iI cs), .int (iI tg), .int (iI op), .int (iI sz1), .int (iI ct)])), (nd, .inr (2, [.ref b, .ref h, .ref rw, .int (iI (mn + 1)), .int (iI sx)])), (rw, .inl (cR, M, .inl (fun j => iI ((vf_upd (vf_upd (vf_upd (vf_upd V (mn * 8 + 0).toNat kd) (mn * 8 + 1).toNat tg) (mn * 8 + 2).toNat cs) (mn * 8 + 3).toNat i) j))))] H := hP
      have hD : va_D A [(h, .inr (1, [.int (iI kd), .int (iI cs), .int (iI tg), .int (iI op), .int (iI sz1), .int (iI ct)])), (nd, .inr (2, [.ref b, .ref h, .ref rw, .int (iI (mn + 1)), .int (iI sx)])), (rw, .inl (cR, M, .inl (fun j => iI ((vf_upd (vf_upd (vf_upd (vf_upd V (mn * 8 + 0).toNat kd) (mn * 8 + 1).toNat tg) (mn * 8 + 2).toNat cs) (mn * 8 + 3).toNat i) j))))] := hD
      have hK : va_K (dC, dI) vwCl [(cR, .int)] s := hK
      obtain ⟨rfl, rfl, rfl⟩ := hw
      refine W.eq (g2 := F0 m 104 ls []) rfl ?_
      refine lv_aload_n hx hb dX2_enter_104 rfl (lv_at hl 1 rfl) ?_
      refine lv_iload_n hx hb dX2_enter_105 rfl (lv_at hl 0 rfl) ?_
      refine lv_iconst (v := iI 4) hx hb dX2_enter_106 rfl ?_
      refine lv_aload_n hx hb dX2_enter_107 rfl (lv_at hl 1 rfl) ?_
      refine va_get (D := (dC, dI)) (ci := 2) (v := .ref h) (C := RX2) (T := TX2) (N := 5) hx hb hT inX2 hown hK hP 1 rfl rfl 1 (by decide) (hT _ wd104) (fun _ h9 => h9) rfl dX2_enter_108 ?_
      refine va_getN (D := (dC, dI)) (ci := 1) (v := .int (iI ct)) (C := RX1) (T := TX1) (N := 6) hx hb hT inX1 hown hK hP 0 rfl rfl 5 (by decide) (va_Nw.use rfl hN.2.2.2.2.2) (fun _ h9 => h9) rfl dX2_enter_111 ?_
      have hPc := hP.sub (ws' := [(nd, .inr (2, [.ref b, .ref h, .ref rw, .int (iI (mn + 1)), .int (iI sx)])), (rw, .inl (cR, M, .inl (fun j => iI ((vf_upd (vf_upd (vf_upd (vf_upd V (mn * 8 + 0).toNat kd) (mn * 8 + 1).toNat tg) (mn * 8 + 2).toNat cs) (mn * 8 + 3).toNat i) j))))]) [1, 2] rfl
      have hDc := hD.sub (ws' := [(nd, .inr (2, [.ref b, .ref h, .ref rw, .int (iI (mn + 1)), .int (iI sx)])), (rw, .inl (cR, M, .inl (fun j => iI ((vf_upd (vf_upd (vf_upd (vf_upd V (mn * 8 + 0).toNat kd) (mn * 8 + 1).toNat tg) (mn * 8 + 2).toNat cs) (mn * 8 + 3).toNat i) j))))]) [1, 2] (by decide) rfl
      have hKc := hK.sub (tys' := [(cR, .int)]) [0] rfl
      have hFc := va_free (wc := [(nd, .inr (2, [.ref b, .ref h, .ref rw, .int (iI (mn + 1)), .int (iI sx)])), (rw, .inl (cR, M, .inl (fun j => iI ((vf_upd (vf_upd (vf_upd (vf_upd V (mn * 8 + 0).toNat kd) (mn * 8 + 1).toNat tg) (mn * 8 + 2).toNat cs) (mn * 8 + 3).toNat i) j))))]) hD hS hA [1, 2] rfl
      refine mv_call (mv_runV (As := [.int (iI mn), .int (iI 4), .int (iI ct)]) (rest := []) ⟨hx, hb, hml, hown, hT⟩ (c_N_putV l dC dI H.size nd b h rw (mn + 1) sx cR M (vf_upd (vf_upd (vf_upd (vf_upd V (mn * 8 + 0).toNat kd) (mn * 8 + 1).toNat tg) (mn * 8 + 2).toNat cs) (mn * 8 + 3).toNat i) mn 4 ct (by omega) (by omega) (by omega) (by omega) (by omega)) (cwV 3 hT (gV wd349 wd351 wd9 wd28 wd352) rfl rfl rfl (by decide +kernel) ⟨show 2 + 1 ≤ 3 from by omega, show 8 + (5 + 11) + 70 ≤ 130 from by omega⟩) ⟨fun a U g mk q => by obtain ⟨q0, q1, qP, qK, qD⟩ := q; exact ⟨q0, q1, qP, va_K.moved (u := U) (U := U.calling g mk a) (Vm.Alike.refl U.vm) qK, qD⟩, va_recv hKc hPc (ci := 2) (q0 := 0) rfl rfl, fun U hU hW => ⟨rfl, by rw [hU], by rw [hU]; exact hPc, va_K.moved hW.alike hKc, hDc.weaken (fun _ _ _ _ => trivial)⟩⟩ rfl rfl hl.1 rfl (lv_room (Nat.le_of_ble_eq_true rfl)) dX2_enter_114 ⟨show 0 + 0 + 0 + 0 + 0 + 0 ≤ (phR M) from by omega, show 0 + 0 + 0 + 0 + 0 + 0 ≤ (phR M) from by omega⟩) hS (fun q _ h => hFc q h) hFc (fun v17 u k15 n16 tS H1 locs ht hvm hw hB hz1 hk1 hS => ?_)
      obtain ⟨hP1, hK1, hD1⟩ := hB
      rw [ht] at hP1
      have hK1 := va_K.moved hvm.symm hK1
      try dsimp only at hw
      obtain ⟨hP, hD⟩ := va_join (wr := [(h, .inr (1, [.int (iI kd), .int (iI cs), .int (iI tg), .int (iI op), .int (iI sz1), .int (iI ct)]))]) (w1 := [(nd, .inr (2, [.ref b, .ref h, .ref rw, .int (iI (mn + 1)), .int (iI sx)])), (rw, .inl (cR, M, .inl (fun j => iI ((vf_upd (vf_upd (vf_upd (vf_upd (vf_upd V (mn * 8 + 0).toNat kd) (mn * 8 + 1).toNat tg) (mn * 8 + 2).toNat cs) (mn * 8 + 3).toNat i) (mn * 8 + 4).toNat ct) j))))]) hP hD [1, 2] [0] rfl rfl (by decide) (by decide) hk1 hFc hP1 hD1
      have hK := (hK.sub (tys' := []) [] rfl).app hK1
      generalize H1 = H at hP hS ⊢
      have hP : va_P (dC, dI) vwCl [(h, .inr (1, [.int (iI kd), .int (iI cs), .int (iI tg), .int (iI op), .int (iI sz1), .int (iI ct)])), (nd, .inr (2, [.ref b, .ref h, .ref rw, .int (iI (mn + 1)), .int (iI sx)])), (rw, .inl (cR, M, .inl (fun j => iI ((vf_upd (vf_upd (vf_upd (vf_upd (vf_upd V (mn * 8 + 0).toNat kd) (mn * 8 + 1).toNat tg) (mn * 8 + 2).toNat cs) (mn * 8 + 3).toNat i) (mn * 8 + 4).toNat ct) j))))] H := hP
      have hD : va_D A [(h, .inr (1, [.int (iI kd), .int (iI cs), .int (iI tg), .int (iI op), .int (iI sz1), .int (iI ct)])), (nd, .inr (2, [.ref b, .ref h, .ref rw, .int (iI (mn + 1)), .int (iI sx)])), (rw, .inl (cR, M, .inl (fun j => iI ((vf_upd (vf_upd (vf_upd (vf_upd (vf_upd V (mn * 8 + 0).toNat kd) (mn * 8 + 1).toNat tg) (mn * 8 + 2).toNat cs) (mn * 8 + 3).toNat i) (mn * 8 + 4).toNat ct) j))))] := hD
      have hK : va_K (dC, dI) vwCl [(cR, .int)] s := hK
      obtain ⟨rfl, rfl, rfl⟩ := hw
      refine W.eq (g2 := F0 m 117 ls []) rfl ?_
      refine lv_aload_n hx hb dX2_enter_117 rfl (lv_at hl 1 rfl) ?_
      refine lv_iload_n hx hb dX2_enter_118 rfl (lv_at hl 0 rfl) ?_
      refine lv_iconst (v := iI 5) hx hb dX2_enter_119 rfl ?_
      refine lv_aload_n hx hb dX2_enter_120 rfl (lv_at hl 1 rfl) ?_
      refine va_get (D := (dC, dI)) (ci := 2) (v := .ref h) (C := RX2) (T := TX2) (N := 5) hx hb hT inX2 hown hK hP 1 rfl rfl 1 (by decide) (hT _ wd104) (fun _ h9 => h9) rfl dX2_enter_121 ?_
      refine va_getN (D := (dC, dI)) (ci := 1) (v := .int (iI sz1)) (C := RX1) (T := TX1) (N := 6) hx hb hT inX1 hown hK hP 0 rfl rfl 4 (by decide) (va_Nw.use rfl hN.2.2.2.2.1) (fun _ h9 => h9) rfl dX2_enter_124 ?_
      have hPc := hP.sub (ws' := [(nd, .inr (2, [.ref b, .ref h, .ref rw, .int (iI (mn + 1)), .int (iI sx)])), (rw, .inl (cR, M, .inl (fun j => iI ((vf_upd (vf_upd (vf_upd (vf_upd (vf_upd V (mn * 8 + 0).toNat kd) (mn * 8 + 1).toNat tg) (mn * 8 + 2).toNat cs) (mn * 8 + 3).toNat i) (mn * 8 + 4).toNat ct) j))))]) [1, 2] rfl
      have hDc := hD.sub (ws' := [(nd, .inr (2, [.ref b, .ref h, .ref rw, .int (iI (mn + 1)), .int (iI sx)])), (rw, .inl (cR, M, .inl (fun j => iI ((vf_upd (vf_upd (vf_upd (vf_upd (vf_upd V (mn * 8 + 0).toNat kd) (mn * 8 + 1).toNat tg) (mn * 8 + 2).toNat cs) (mn * 8 + 3).toNat i) (mn * 8 + 4).toNat ct) j))))]) [1, 2] (by decide) rfl
      have hKc := hK.sub (tys' := [(cR, .int)]) [0] rfl
      have hFc := va_free (wc := [(nd, .inr (2, [.ref b, .ref h, .ref rw, .int (iI (mn + 1)), .int (iI sx)])), (rw, .inl (cR, M, .inl (fun j => iI ((vf_upd (vf_upd (vf_upd (vf_upd (vf_upd V (mn * 8 + 0).toNat kd) (mn * 8 + 1).toNat tg) (mn * 8 + 2).toNat cs) (mn * 8 + 3).toNat i) (mn * 8 + 4).toNat ct) j))))]) hD hS hA [1, 2] rfl
      refine mv_call (mv_runV (As := [.int (iI mn), .int (iI 5), .int (iI sz1)]) (rest := []) ⟨hx, hb, hml, hown, hT⟩ (c_N_putV l dC dI H.size nd b h rw (mn + 1) sx cR M (vf_upd (vf_upd (vf_upd (vf_upd (vf_upd V (mn * 8 + 0).toNat kd) (mn * 8 + 1).toNat tg) (mn * 8 + 2).toNat cs) (mn * 8 + 3).toNat i) (mn * 8 + 4).toNat ct) mn 5 sz1 (by omega) (by omega) (by omega) (by omega) (by omega)) (cwV 3 hT (gV wd349 wd351 wd9 wd28 wd352) rfl rfl rfl (by decide +kernel) ⟨show 2 + 1 ≤ 3 from by omega, show 8 + (5 + 11) + 70 ≤ 130 from by omega⟩) ⟨fun a U g mk q => by obtain ⟨q0, q1, qP, qK, qD⟩ := q; exact ⟨q0, q1, qP, va_K.moved (u := U) (U := U.calling g mk a) (Vm.Alike.refl U.vm) qK, qD⟩, va_recv hKc hPc (ci := 2) (q0 := 0) rfl rfl, fun U hU hW => ⟨rfl, by rw [hU], by rw [hU]; exact hPc, va_K.moved hW.alike hKc, hDc.weaken (fun _ _ _ _ => trivial)⟩⟩ rfl rfl hl.1 rfl (lv_room (Nat.le_of_ble_eq_true rfl)) dX2_enter_127 ⟨show 0 + 0 + 0 + 0 + 0 + 0 + 0 ≤ (phR M) from by omega, show 0 + 0 + 0 + 0 + 0 + 0 + 0 ≤ (phR M) from by omega⟩) hS (fun q _ h => hFc q h) hFc (fun v20 u k18 n19 tS H1 locs ht hvm hw hB hz1 hk1 hS => ?_)
      obtain ⟨hP1, hK1, hD1⟩ := hB
      rw [ht] at hP1
      have hK1 := va_K.moved hvm.symm hK1
      try dsimp only at hw
      obtain ⟨hP, hD⟩ := va_join (wr := [(h, .inr (1, [.int (iI kd), .int (iI cs), .int (iI tg), .int (iI op), .int (iI sz1), .int (iI ct)]))]) (w1 := [(nd, .inr (2, [.ref b, .ref h, .ref rw, .int (iI (mn + 1)), .int (iI sx)])), (rw, .inl (cR, M, .inl (fun j => iI ((vf_upd (vf_upd (vf_upd (vf_upd (vf_upd (vf_upd V (mn * 8 + 0).toNat kd) (mn * 8 + 1).toNat tg) (mn * 8 + 2).toNat cs) (mn * 8 + 3).toNat i) (mn * 8 + 4).toNat ct) (mn * 8 + 5).toNat sz1) j))))]) hP hD [1, 2] [0] rfl rfl (by decide) (by decide) hk1 hFc hP1 hD1
      have hK := (hK.sub (tys' := []) [] rfl).app hK1
      generalize H1 = H at hP hS ⊢
      have hP : va_P (dC, dI) vwCl [(h, .inr (1, [.int (iI kd), .int (iI cs), .int (iI tg), .int (iI op), .int (iI sz1), .int (iI ct)])), (nd, .inr (2, [.ref b, .ref h, .ref rw, .int (iI (mn + 1)), .int (iI sx)])), (rw, .inl (cR, M, .inl (fun j => iI ((vf_upd (vf_upd (vf_upd (vf_upd (vf_upd (vf_upd V (mn * 8 + 0).toNat kd) (mn * 8 + 1).toNat tg) (mn * 8 + 2).toNat cs) (mn * 8 + 3).toNat i) (mn * 8 + 4).toNat ct) (mn * 8 + 5).toNat sz1) j))))] H := hP
      have hD : va_D A [(h, .inr (1, [.int (iI kd), .int (iI cs), .int (iI tg), .int (iI op), .int (iI sz1), .int (iI ct)])), (nd, .inr (2, [.ref b, .ref h, .ref rw, .int (iI (mn + 1)), .int (iI sx)])), (rw, .inl (cR, M, .inl (fun j => iI ((vf_upd (vf_upd (vf_upd (vf_upd (vf_upd (vf_upd V (mn * 8 + 0).toNat kd) (mn * 8 + 1).toNat tg) (mn * 8 + 2).toNat cs) (mn * 8 + 3).toNat i) (mn * 8 + 4).toNat ct) (mn * 8 + 5).toNat sz1) j))))] := hD
      have hK : va_K (dC, dI) vwCl [(cR, .int)] s := hK
      obtain ⟨rfl, rfl, rfl⟩ := hw
      refine W.eq (g2 := F0 m 130 ls []) rfl ?_
      refine lv_aload_n hx hb dX2_enter_130 rfl (lv_at hl 1 rfl) ?_
      refine lv_iload_n hx hb dX2_enter_131 rfl (lv_at hl 0 rfl) ?_
      refine lv_bipush (v := iI 6) hx hb dX2_enter_132 (by decide +kernel) ?_
      refine lv_iload_n hx hb dX2_enter_134 rfl (lv_at hl 3 rfl) ?_
      have hPc := hP.sub (ws' := [(nd, .inr (2, [.ref b, .ref h, .ref rw, .int (iI (mn + 1)), .int (iI sx)])), (rw, .inl (cR, M, .inl (fun j => iI ((vf_upd (vf_upd (vf_upd (vf_upd (vf_upd (vf_upd V (mn * 8 + 0).toNat kd) (mn * 8 + 1).toNat tg) (mn * 8 + 2).toNat cs) (mn * 8 + 3).toNat i) (mn * 8 + 4).toNat ct) (mn * 8 + 5).toNat sz1) j))))]) [1, 2] rfl
      have hDc := hD.sub (ws' := [(nd, .inr (2, [.ref b, .ref h, .ref rw, .int (iI (mn + 1)), .int (iI sx)])), (rw, .inl (cR, M, .inl (fun j => iI ((vf_upd (vf_upd (vf_upd (vf_upd (vf_upd (vf_upd V (mn * 8 + 0).toNat kd) (mn * 8 + 1).toNat tg) (mn * 8 + 2).toNat cs) (mn * 8 + 3).toNat i) (mn * 8 + 4).toNat ct) (mn * 8 + 5).toNat sz1) j))))]) [1, 2] (by decide) rfl
      have hKc := hK.sub (tys' := [(cR, .int)]) [0] rfl
      have hFc := va_free (wc := [(nd, .inr (2, [.ref b, .ref h, .ref rw, .int (iI (mn + 1)), .int (iI sx)])), (rw, .inl (cR, M, .inl (fun j => iI ((vf_upd (vf_upd (vf_upd (vf_upd (vf_upd (vf_upd V (mn * 8 + 0).toNat kd) (mn * 8 + 1).toNat tg) (mn * 8 + 2).toNat cs) (mn * 8 + 3).toNat i) (mn * 8 + 4).toNat ct) (mn * 8 + 5).toNat sz1) j))))]) hD hS hA [1, 2] rfl
      refine mv_call (mv_runV (As := [.int (iI mn), .int (iI 6), .int (iI pr)]) (rest := []) ⟨hx, hb, hml, hown, hT⟩ (c_N_putV l dC dI H.size nd b h rw (mn + 1) sx cR M (vf_upd (vf_upd (vf_upd (vf_upd (vf_upd (vf_upd V (mn * 8 + 0).toNat kd) (mn * 8 + 1).toNat tg) (mn * 8 + 2).toNat cs) (mn * 8 + 3).toNat i) (mn * 8 + 4).toNat ct) (mn * 8 + 5).toNat sz1) mn 6 pr (by omega) (by omega) (by omega) (by omega) (by omega)) (cwV 3 hT (gV wd349 wd351 wd9 wd28 wd352) rfl rfl rfl (by decide +kernel) ⟨show 2 + 1 ≤ 3 from by omega, show 8 + (5 + 11) + 70 ≤ 130 from by omega⟩) ⟨fun a U g mk q => by obtain ⟨q0, q1, qP, qK, qD⟩ := q; exact ⟨q0, q1, qP, va_K.moved (u := U) (U := U.calling g mk a) (Vm.Alike.refl U.vm) qK, qD⟩, va_recv hKc hPc (ci := 2) (q0 := 0) rfl rfl, fun U hU hW => ⟨rfl, by rw [hU], by rw [hU]; exact hPc, va_K.moved hW.alike hKc, hDc.weaken (fun _ _ _ _ => trivial)⟩⟩ rfl rfl hl.1 rfl (lv_room (Nat.le_of_ble_eq_true rfl)) dX2_enter_135 ⟨show 0 + 0 + 0 + 0 + 0 + 0 + 0 + 0 ≤ (phR M) from by omega, show 0 + 0 + 0 + 0 + 0 + 0 + 0 + 0 ≤ (phR M) from by omega⟩) hS (fun q _ h => hFc q h) hFc (fun v23 u k21 n22 tS H1 locs ht hvm hw hB hz1 hk1 hS => ?_)
      obtain ⟨hP1, hK1, hD1⟩ := hB
      rw [ht] at hP1
      have hK1 := va_K.moved hvm.symm hK1
      try dsimp only at hw
      obtain ⟨hP, hD⟩ := va_join (wr := [(h, .inr (1, [.int (iI kd), .int (iI cs), .int (iI tg), .int (iI op), .int (iI sz1), .int (iI ct)]))]) (w1 := [(nd, .inr (2, [.ref b, .ref h, .ref rw, .int (iI (mn + 1)), .int (iI sx)])), (rw, .inl (cR, M, .inl (fun j => iI ((vf_upd (vf_upd (vf_upd (vf_upd (vf_upd (vf_upd (vf_upd V (mn * 8 + 0).toNat kd) (mn * 8 + 1).toNat tg) (mn * 8 + 2).toNat cs) (mn * 8 + 3).toNat i) (mn * 8 + 4).toNat ct) (mn * 8 + 5).toNat sz1) (mn * 8 + 6).toNat pr) j))))]) hP hD [1, 2] [0] rfl rfl (by decide) (by decide) hk1 hFc hP1 hD1
      have hK := (hK.sub (tys' := []) [] rfl).app hK1
      generalize H1 = H at hP hS ⊢
      have hP : va_P (dC, dI) vwCl [(h, .inr (1, [.int (iI kd), .int (iI cs), .int (iI tg), .int (iI op), .int (iI sz1), .int (iI ct)])), (nd, .inr (2, [.ref b, .ref h, .ref rw, .int (iI (mn + 1)), .int (iI sx)])), (rw, .inl (cR, M, .inl (fun j => iI ((vf_upd (vf_upd (vf_upd (vf_upd (vf_upd (vf_upd (vf_upd V (mn * 8 + 0).toNat kd) (mn * 8 + 1).toNat tg) (mn * 8 + 2).toNat cs) (mn * 8 + 3).toNat i) (mn * 8 + 4).toNat ct) (mn * 8 + 5).toNat sz1) (mn * 8 + 6).toNat pr) j))))] H := hP
      have hD : va_D A [(h, .inr (1, [.int (iI kd), .int (iI cs), .int (iI tg), .int (iI op), .int (iI sz1), .int (iI ct)])), (nd, .inr (2, [.ref b, .ref h, .ref rw, .int (iI (mn + 1)), .int (iI sx)])), (rw, .inl (cR, M, .inl (fun j => iI ((vf_upd (vf_upd (vf_upd (vf_upd (vf_upd (vf_upd (vf_upd V (mn * 8 + 0).toNat kd) (mn * 8 + 1).toNat tg) (mn * 8 + 2).toNat cs) (mn * 8 + 3).toNat i) (mn * 8 + 4).toNat ct) (mn * 8 + 5).toNat sz1) (mn * 8 + 6).toNat pr) j))))] := hD
      have hK : va_K (dC, dI) vwCl [(cR, .int)] s := hK
      obtain ⟨rfl, rfl, rfl⟩ := hw
      refine W.eq (g2 := F0 m 138 ls []) rfl ?_
      refine lv_aload_n hx hb dX2_enter_138 rfl (lv_at hl 1 rfl) ?_
      refine lv_iload_n hx hb dX2_enter_139 rfl (lv_at hl 0 rfl) ?_
      refine lv_bipush (v := iI 7) hx hb dX2_enter_140 (by decide +kernel) ?_
      refine lv_iconst (v := iI 0) hx hb dX2_enter_142 rfl ?_
      have hPc := hP.sub (ws' := [(nd, .inr (2, [.ref b, .ref h, .ref rw, .int (iI (mn + 1)), .int (iI sx)])), (rw, .inl (cR, M, .inl (fun j => iI ((vf_upd (vf_upd (vf_upd (vf_upd (vf_upd (vf_upd (vf_upd V (mn * 8 + 0).toNat kd) (mn * 8 + 1).toNat tg) (mn * 8 + 2).toNat cs) (mn * 8 + 3).toNat i) (mn * 8 + 4).toNat ct) (mn * 8 + 5).toNat sz1) (mn * 8 + 6).toNat pr) j))))]) [1, 2] rfl
      have hDc := hD.sub (ws' := [(nd, .inr (2, [.ref b, .ref h, .ref rw, .int (iI (mn + 1)), .int (iI sx)])), (rw, .inl (cR, M, .inl (fun j => iI ((vf_upd (vf_upd (vf_upd (vf_upd (vf_upd (vf_upd (vf_upd V (mn * 8 + 0).toNat kd) (mn * 8 + 1).toNat tg) (mn * 8 + 2).toNat cs) (mn * 8 + 3).toNat i) (mn * 8 + 4).toNat ct) (mn * 8 + 5).toNat sz1) (mn * 8 + 6).toNat pr) j))))]) [1, 2] (by decide) rfl
      have hKc := hK.sub (tys' := [(cR, .int)]) [0] rfl
      have hFc := va_free (wc := [(nd, .inr (2, [.ref b, .ref h, .ref rw, .int (iI (mn + 1)), .int (iI sx)])), (rw, .inl (cR, M, .inl (fun j => iI ((vf_upd (vf_upd (vf_upd (vf_upd (vf_upd (vf_upd (vf_upd V (mn * 8 + 0).toNat kd) (mn * 8 + 1).toNat tg) (mn * 8 + 2).toNat cs) (mn * 8 + 3).toNat i) (mn * 8 + 4).toNat ct) (mn * 8 + 5).toNat sz1) (mn * 8 + 6).toNat pr) j))))]) hD hS hA [1, 2] rfl
      refine mv_call (mv_runV (As := [.int (iI mn), .int (iI 7), .int (iI 0)]) (rest := []) ⟨hx, hb, hml, hown, hT⟩ (c_N_putV l dC dI H.size nd b h rw (mn + 1) sx cR M (vf_upd (vf_upd (vf_upd (vf_upd (vf_upd (vf_upd (vf_upd V (mn * 8 + 0).toNat kd) (mn * 8 + 1).toNat tg) (mn * 8 + 2).toNat cs) (mn * 8 + 3).toNat i) (mn * 8 + 4).toNat ct) (mn * 8 + 5).toNat sz1) (mn * 8 + 6).toNat pr) mn 7 0 (by omega) (by omega) (by omega) (by omega) (by omega)) (cwV 3 hT (gV wd349 wd351 wd9 wd28 wd352) rfl rfl rfl (by decide +kernel) ⟨show 2 + 1 ≤ 3 from by omega, show 8 + (5 + 11) + 70 ≤ 130 from by omega⟩) ⟨fun a U g mk q => by obtain ⟨q0, q1, qP, qK, qD⟩ := q; exact ⟨q0, q1, qP, va_K.moved (u := U) (U := U.calling g mk a) (Vm.Alike.refl U.vm) qK, qD⟩, va_recv hKc hPc (ci := 2) (q0 := 0) rfl rfl, fun U hU hW => ⟨rfl, by rw [hU], by rw [hU]; exact hPc, va_K.moved hW.alike hKc, hDc.weaken (fun _ _ _ _ => trivial)⟩⟩ rfl rfl hl.1 rfl (lv_room (Nat.le_of_ble_eq_true rfl)) dX2_enter_143 ⟨show 0 + 0 + 0 + 0 + 0 + 0 + 0 + 0 + 0 ≤ (phR M) from by omega, show 0 + 0 + 0 + 0 + 0 + 0 + 0 + 0 + 0 ≤ (phR M) from by omega⟩) hS (fun q _ h => hFc q h) hFc (fun v26 u k24 n25 tS H1 locs ht hvm hw hB hz1 hk1 hS => ?_)
      obtain ⟨hP1, hK1, hD1⟩ := hB
      rw [ht] at hP1
      have hK1 := va_K.moved hvm.symm hK1
      try dsimp only at hw
      obtain ⟨hP, hD⟩ := va_join (wr := [(h, .inr (1, [.int (iI kd), .int (iI cs), .int (iI tg), .int (iI op), .int (iI sz1), .int (iI ct)]))]) (w1 := [(nd, .inr (2, [.ref b, .ref h, .ref rw, .int (iI (mn + 1)), .int (iI sx)])), (rw, .inl (cR, M, .inl (fun j => iI ((vf_upd (vf_upd (vf_upd (vf_upd (vf_upd (vf_upd (vf_upd (vf_upd V (mn * 8 + 0).toNat kd) (mn * 8 + 1).toNat tg) (mn * 8 + 2).toNat cs) (mn * 8 + 3).toNat i) (mn * 8 + 4).toNat ct) (mn * 8 + 5).toNat sz1) (mn * 8 + 6).toNat pr) (mn * 8 + 7).toNat 0) j))))]) hP hD [1, 2] [0] rfl rfl (by decide) (by decide) hk1 hFc hP1 hD1
      have hK := (hK.sub (tys' := []) [] rfl).app hK1
      generalize H1 = H at hP hS ⊢
      have hP : va_P (dC, dI) vwCl [(h, .inr (1, [.int (iI kd), .int (iI cs), .int (iI tg), .int (iI op), .int (iI sz1), .int (iI ct)])), (nd, .inr (2, [.ref b, .ref h, .ref rw, .int (iI (mn + 1)), .int (iI sx)])), (rw, .inl (cR, M, .inl (fun j => iI ((vf_upd (vf_upd (vf_upd (vf_upd (vf_upd (vf_upd (vf_upd (vf_upd V (mn * 8 + 0).toNat kd) (mn * 8 + 1).toNat tg) (mn * 8 + 2).toNat cs) (mn * 8 + 3).toNat i) (mn * 8 + 4).toNat ct) (mn * 8 + 5).toNat sz1) (mn * 8 + 6).toNat pr) (mn * 8 + 7).toNat 0) j))))] H := hP
      have hD : va_D A [(h, .inr (1, [.int (iI kd), .int (iI cs), .int (iI tg), .int (iI op), .int (iI sz1), .int (iI ct)])), (nd, .inr (2, [.ref b, .ref h, .ref rw, .int (iI (mn + 1)), .int (iI sx)])), (rw, .inl (cR, M, .inl (fun j => iI ((vf_upd (vf_upd (vf_upd (vf_upd (vf_upd (vf_upd (vf_upd (vf_upd V (mn * 8 + 0).toNat kd) (mn * 8 + 1).toNat tg) (mn * 8 + 2).toNat cs) (mn * 8 + 3).toNat i) (mn * 8 + 4).toNat ct) (mn * 8 + 5).toNat sz1) (mn * 8 + 6).toNat pr) (mn * 8 + 7).toNat 0) j))))] := hD
      have hK : va_K (dC, dI) vwCl [(cR, .int)] s := hK
      obtain ⟨rfl, rfl, rfl⟩ := hw
      refine W.eq (g2 := F0 m 146 ls []) rfl ?_
      refine lv_aload_n hx hb dX2_enter_146 rfl (lv_at hl 1 rfl) ?_
      refine lv_iload_n hx hb dX2_enter_147 rfl (lv_at hl 3 rfl) ?_
      refine lv_bipush (v := iI 7) hx hb dX2_enter_148 (by decide +kernel) ?_
      refine lv_aload_n hx hb dX2_enter_150 rfl (lv_at hl 1 rfl) ?_
      refine lv_iload_n hx hb dX2_enter_151 rfl (lv_at hl 3 rfl) ?_
      refine lv_bipush (v := iI 7) hx hb dX2_enter_152 (by decide +kernel) ?_
      have hPc := hP.sub (ws' := [(nd, .inr (2, [.ref b, .ref h, .ref rw, .int (iI (mn + 1)), .int (iI sx)])), (rw, .inl (cR, M, .inl (fun j => iI ((vf_upd (vf_upd (vf_upd (vf_upd (vf_upd (vf_upd (vf_upd (vf_upd V (mn * 8 + 0).toNat kd) (mn * 8 + 1).toNat tg) (mn * 8 + 2).toNat cs) (mn * 8 + 3).toNat i) (mn * 8 + 4).toNat ct) (mn * 8 + 5).toNat sz1) (mn * 8 + 6).toNat pr) (mn * 8 + 7).toNat 0) j))))]) [1, 2] rfl
      have hDc := hD.sub (ws' := [(nd, .inr (2, [.ref b, .ref h, .ref rw, .int (iI (mn + 1)), .int (iI sx)])), (rw, .inl (cR, M, .inl (fun j => iI ((vf_upd (vf_upd (vf_upd (vf_upd (vf_upd (vf_upd (vf_upd (vf_upd V (mn * 8 + 0).toNat kd) (mn * 8 + 1).toNat tg) (mn * 8 + 2).toNat cs) (mn * 8 + 3).toNat i) (mn * 8 + 4).toNat ct) (mn * 8 + 5).toNat sz1) (mn * 8 + 6).toNat pr) (mn * 8 + 7).toNat 0) j))))]) [1, 2] (by decide) rfl
      have hKc := hK.sub (tys' := [(cR, .int)]) [0] rfl
      have hFc := va_free (wc := [(nd, .inr (2, [.ref b, .ref h, .ref rw, .int (iI (mn + 1)), .int (iI sx)])), (rw, .inl (cR, M, .inl (fun j => iI ((vf_upd (vf_upd (vf_upd (vf_upd (vf_upd (vf_upd (vf_upd (vf_upd V (mn * 8 + 0).toNat kd) (mn * 8 + 1).toNat tg) (mn * 8 + 2).toNat cs) (mn * 8 + 3).toNat i) (mn * 8 + 4).toNat ct) (mn * 8 + 5).toNat sz1) (mn * 8 + 6).toNat pr) (mn * 8 + 7).toNat 0) j))))]) hD hS hA [1, 2] rfl
      refine mv_call (mv_runV (As := [.int (iI pr), .int (iI 7)]) (rest := [.int (iI 7), .int (iI pr), .ref nd]) ⟨hx, hb, hml, hown, hT⟩ (c_N_get l dC dI H.size nd b h rw (mn + 1) sx cR M (vf_upd (vf_upd (vf_upd (vf_upd (vf_upd (vf_upd (vf_upd (vf_upd V (mn * 8 + 0).toNat kd) (mn * 8 + 1).toNat tg) (mn * 8 + 2).toNat cs) (mn * 8 + 3).toNat i) (mn * 8 + 4).toNat ct) (mn * 8 + 5).toNat sz1) (mn * 8 + 6).toNat pr) (mn * 8 + 7).toNat 0) pr 7 (by omega) (by omega) (by omega) (entN_rng hV0 (by omega) (by omega) (by omega) (by omega) (by omega) (by omega) (by omega)) (by omega) (by omega)) (cwV 2 hT (gV wd361 wd362 wd363 wd28 wd364) rfl rfl rfl (by decide +kernel) ⟨show 2 + 1 ≤ 3 from by omega, show 8 + (4 + 11) + 70 ≤ 130 from by omega⟩) ⟨fun a U g mk q => by obtain ⟨q0, q1, qP, qK, qD⟩ := q; exact ⟨q0, q1, qP, va_K.moved (u := U) (U := U.calling g mk a) (Vm.Alike.refl U.vm) qK, qD⟩, va_recv hKc hPc (ci := 2) (q0 := 0) rfl rfl, fun U hU hW => ⟨rfl, by rw [hU], by rw [hU]; exact hPc, va_K.moved hW.alike hKc, hDc.weaken (fun _ _ _ _ => trivial)⟩⟩ rfl rfl hl.1 rfl (lv_room (Nat.le_of_ble_eq_true rfl)) dX2_enter_154 ⟨show 0 + 0 + 0 + 0 + 0 + 0 + 0 + 0 + 0 + 0 ≤ (phR M) from by omega, show 0 + 0 + 0 + 0 + 0 + 0 + 0 + 0 + 0 + 0 ≤ (phR M) from by omega⟩) hS (fun q _ h => hFc q h) hFc (fun v29 u k27 n28 tS H1 locs ht hvm hw hB hz1 hk1 hS => ?_)
      obtain ⟨q30, rfl⟩ : ∃ y, y = u := ⟨_, rfl⟩
      obtain ⟨hP1, hK1, hD1⟩ := hB
      rw [ht] at hP1
      have hK1 := va_K.moved hvm.symm hK1
      try dsimp only at hw
      obtain ⟨hP, hD⟩ := va_join (wr := [(h, .inr (1, [.int (iI kd), .int (iI cs), .int (iI tg), .int (iI op), .int (iI sz1), .int (iI ct)]))]) (w1 := [(nd, .inr (2, [.ref b, .ref h, .ref rw, .int (iI (mn + 1)), .int (iI sx)])), (rw, .inl (cR, M, .inl (fun j => iI ((vf_upd (vf_upd (vf_upd (vf_upd (vf_upd (vf_upd (vf_upd (vf_upd V (mn * 8 + 0).toNat kd) (mn * 8 + 1).toNat tg) (mn * 8 + 2).toNat cs) (mn * 8 + 3).toNat i) (mn * 8 + 4).toNat ct) (mn * 8 + 5).toNat sz1) (mn * 8 + 6).toNat pr) (mn * 8 + 7).toNat 0) j))))]) hP hD [1, 2] [0] rfl rfl (by decide) (by decide) hk1 hFc hP1 hD1
      have hK := (hK.sub (tys' := []) [] rfl).app hK1
      generalize H1 = H at hP hS ⊢
      have hP : va_P (dC, dI) vwCl [(h, .inr (1, [.int (iI kd), .int (iI cs), .int (iI tg), .int (iI op), .int (iI sz1), .int (iI ct)])), (nd, .inr (2, [.ref b, .ref h, .ref rw, .int (iI (mn + 1)), .int (iI sx)])), (rw, .inl (cR, M, .inl (fun j => iI ((vf_upd (vf_upd (vf_upd (vf_upd (vf_upd (vf_upd (vf_upd (vf_upd V (mn * 8 + 0).toNat kd) (mn * 8 + 1).toNat tg) (mn * 8 + 2).toNat cs) (mn * 8 + 3).toNat i) (mn * 8 + 4).toNat ct) (mn * 8 + 5).toNat sz1) (mn * 8 + 6).toNat pr) (mn * 8 + 7).toNat 0) j))))] H := hP
      have hD : va_D A [(h, .inr (1, [.int (iI kd), .int (iI cs), .int (iI tg), .int (iI op), .int (iI sz1), .int (iI ct)])), (nd, .inr (2, [.ref b, .ref h, .ref rw, .int (iI (mn + 1)), .int (iI sx)])), (rw, .inl (cR, M, .inl (fun j => iI ((vf_upd (vf_upd (vf_upd (vf_upd (vf_upd (vf_upd (vf_upd (vf_upd V (mn * 8 + 0).toNat kd) (mn * 8 + 1).toNat tg) (mn * 8 + 2).toNat cs) (mn * 8 + 3).toNat i) (mn * 8 + 4).toNat ct) (mn * 8 + 5).toNat sz1) (mn * 8 + 6).toNat pr) (mn * 8 + 7).toNat 0) j))))] := hD
      have hK : va_K (dC, dI) vwCl [(cR, .int)] s := hK
      obtain ⟨rfl, hqv29, hrv29, rfl, rfl⟩ := hw
      refine W.eq (g2 := F0 m 157 ls [.int (iI q30), .int (iI 7), .int (iI pr), .ref nd]) rfl ?_
      refine lv_iconst (v := iI 1) hx hb dX2_enter_157 rfl ?_
      refine li_iadd hx hb dX2_enter_158 ?_
      have hPc := hP.sub (ws' := [(nd, .inr (2, [.ref b, .ref h, .ref rw, .int (iI (mn + 1)), .int (iI sx)])), (rw, .inl (cR, M, .inl (fun j => iI ((vf_upd (vf_upd (vf_upd (vf_upd (vf_upd (vf_upd (vf_upd (vf_upd V (mn * 8 + 0).toNat kd) (mn * 8 + 1).toNat tg) (mn * 8 + 2).toNat cs) (mn * 8 + 3).toNat i) (mn * 8 + 4).toNat ct) (mn * 8 + 5).toNat sz1) (mn * 8 + 6).toNat pr) (mn * 8 + 7).toNat 0) j))))]) [1, 2] rfl
      have hDc := hD.sub (ws' := [(nd, .inr (2, [.ref b, .ref h, .ref rw, .int (iI (mn + 1)), .int (iI sx)])), (rw, .inl (cR, M, .inl (fun j => iI ((vf_upd (vf_upd (vf_upd (vf_upd (vf_upd (vf_upd (vf_upd (vf_upd V (mn * 8 + 0).toNat kd) (mn * 8 + 1).toNat tg) (mn * 8 + 2).toNat cs) (mn * 8 + 3).toNat i) (mn * 8 + 4).toNat ct) (mn * 8 + 5).toNat sz1) (mn * 8 + 6).toNat pr) (mn * 8 + 7).toNat 0) j))))]) [1, 2] (by decide) rfl
      have hKc := hK.sub (tys' := [(cR, .int)]) [0] rfl
      have hFc := va_free (wc := [(nd, .inr (2, [.ref b, .ref h, .ref rw, .int (iI (mn + 1)), .int (iI sx)])), (rw, .inl (cR, M, .inl (fun j => iI ((vf_upd (vf_upd (vf_upd (vf_upd (vf_upd (vf_upd (vf_upd (vf_upd V (mn * 8 + 0).toNat kd) (mn * 8 + 1).toNat tg) (mn * 8 + 2).toNat cs) (mn * 8 + 3).toNat i) (mn * 8 + 4).toNat ct) (mn * 8 + 5).toNat sz1) (mn * 8 + 6).toNat pr) (mn * 8 + 7).toNat 0) j))))]) hD hS hA [1, 2] rfl
      refine mv_call (mv_runV (As := [.int (iI pr), .int (iI 7), .int (iI (q30 + 1))]) (rest := []) ⟨hx, hb, hml, hown, hT⟩ (c_N_put l dC dI H.size nd b h rw (mn + 1) sx cR M (vf_upd (vf_upd (vf_upd (vf_upd (vf_upd (vf_upd (vf_upd (vf_upd V (mn * 8 + 0).toNat kd) (mn * 8 + 1).toNat tg) (mn * 8 + 2).toNat cs) (mn * 8 + 3).toNat i) (mn * 8 + 4).toNat ct) (mn * 8 + 5).toNat sz1) (mn * 8 + 6).toNat pr) (mn * 8 + 7).toNat 0) pr 7 (q30 + 1) (by omega) (by omega) (by omega) (by omega) (by omega)) (cwV 3 hT (gV wd349 wd351 wd9 wd28 wd352) rfl rfl rfl (by decide +kernel) ⟨show 2 + 1 ≤ 3 from by omega, show 8 + (5 + 11) + 70 ≤ 130 from by omega⟩) ⟨fun a U g mk q => by obtain ⟨q0, q1, qP, qK, qD⟩ := q; exact ⟨q0, q1, qP, va_K.moved (u := U) (U := U.calling g mk a) (Vm.Alike.refl U.vm) qK, qD⟩, va_recv hKc hPc (ci := 2) (q0 := 0) rfl rfl, fun U hU hW => ⟨rfl, by rw [hU], by rw [hU]; exact hPc, va_K.moved hW.alike hKc, hDc.weaken (fun _ _ _ _ => trivial)⟩⟩ rfl rfl hl.1 rfl (lv_room (Nat.le_of_ble_eq_true rfl)) dX2_enter_159 ⟨show 0 + 0 + 0 + 0 + 0 + 0 + 0 + 0 + 0 + 0 + 0 ≤ (phR M) from by omega, show 0 + 0 + 0 + 0 + 0 + 0 + 0 + 0 + 0 + 0 + 0 ≤ (phR M) from by omega⟩) hS (fun q _ h => hFc q h) hFc (fun v33 u k31 n32 tS H1 locs ht hvm hw hB hz1 hk1 hS => ?_)
      obtain ⟨V34, rfl⟩ : ∃ y, y = u := ⟨_, rfl⟩
      obtain ⟨hP1, hK1, hD1⟩ := hB
      rw [ht] at hP1
      have hK1 := va_K.moved hvm.symm hK1
      try dsimp only at hw
      obtain ⟨hP, hD⟩ := va_join (wr := [(h, .inr (1, [.int (iI kd), .int (iI cs), .int (iI tg), .int (iI op), .int (iI sz1), .int (iI ct)]))]) (w1 := [(nd, .inr (2, [.ref b, .ref h, .ref rw, .int (iI (mn + 1)), .int (iI sx)])), (rw, .inl (cR, M, .inl (fun j => iI (V34 j))))]) hP hD [1, 2] [0] rfl rfl (by decide) (by decide) hk1 hFc hP1 hD1
      have hK := (hK.sub (tys' := []) [] rfl).app hK1
      generalize H1 = H at hP hS ⊢
      have hP : va_P (dC, dI) vwCl [(h, .inr (1, [.int (iI kd), .int (iI cs), .int (iI tg), .int (iI op), .int (iI sz1), .int (iI ct)])), (nd, .inr (2, [.ref b, .ref h, .ref rw, .int (iI (mn + 1)), .int (iI sx)])), (rw, .inl (cR, M, .inl (fun j => iI (V34 j))))] H := hP
      have hD : va_D A [(h, .inr (1, [.int (iI kd), .int (iI cs), .int (iI tg), .int (iI op), .int (iI sz1), .int (iI ct)])), (nd, .inr (2, [.ref b, .ref h, .ref rw, .int (iI (mn + 1)), .int (iI sx)])), (rw, .inl (cR, M, .inl (fun j => iI (V34 j))))] := hD
      have hK : va_K (dC, dI) vwCl [(cR, .int)] s := hK
      obtain ⟨hqv33, rfl, rfl, rfl⟩ := hw
      refine W.eq (g2 := F0 m 162 ls []) rfl ?_
      refine lv_iload_n hx hb dX2_enter_162 rfl (lv_at hl 0 rfl) ?_
      have hE := ent_fin hn3 h00 hqv29 hqv33
      have hr9 := ent_r9 (entN_rng hV0 (by omega) (by omega) (by omega) (by omega) (by omega) (by omega) (by omega)) (ent_q hoN h00 hpr hqv29) hqv33
      have hP9 := hP.sub (ws' := [(nd, .inr (2, [.ref b, .ref h, .ref rw, .int (iI (mn + 1)), .int (iI sx)])), (rw, .inl (cR, M, .inl (fun j => iI (V34 j)))), (h, .inr (1, [.int (iI kd), .int (iI cs), .int (iI tg), .int (iI op), .int (iI sz1), .int (iI ct)]))]) [1, 2, 0] rfl
      have hD9 := hD.sub (ws' := [(nd, .inr (2, [.ref b, .ref h, .ref rw, .int (iI (mn + 1)), .int (iI sx)])), (rw, .inl (cR, M, .inl (fun j => iI (V34 j)))), (h, .inr (1, [.int (iI kd), .int (iI cs), .int (iI tg), .int (iI op), .int (iI sz1), .int (iI ct)]))]) [1, 2, 0] (by decide) rfl
      have hK9 := hK.sub (tys' := [(cR, .int)]) [0] rfl
      exact mv_iret hx hb hr hlocks (fun tS ht hW => ⟨⟨_, (rw, cR, M, V34), rfl, ⟨rfl, okN_ent hoN hm8 (by omega) (by omega) (by omega) hr9 hE, hE, by omega, by omega⟩, by rw [ht]; exact hP9, va_K.moved hW.alike hK9, hD9⟩, hS.F ht⟩) hS.2.2 dX2_enter_163
    · skip
      refine lv_iconst (v := iI 1) hx hb dX2_enter_89 rfl ?_
      refine lv_goto (tgt := 94) hx hb dX2_enter_90 (by decide) ?_
      refine li_re (show (1 : Int) = cs by omega) ?_
      have hPc := hP.sub (ws' := [(nd, .inr (2, [.ref b, .ref h, .ref rw, .int (iI (mn + 1)), .int (iI sx)])), (rw, .inl (cR, M, .inl (fun j => iI ((vf_upd (vf_upd V (mn * 8 + 0).toNat kd) (mn * 8 + 1).toNat tg) j))))]) [1, 2] rfl
      have hDc := hD.sub (ws' := [(nd, .inr (2, [.ref b, .ref h, .ref rw, .int (iI (mn + 1)), .int (iI sx)])), (rw, .inl (cR, M, .inl (fun j => iI ((vf_upd (vf_upd V (mn * 8 + 0).toNat kd) (mn * 8 + 1).toNat tg) j))))]) [1, 2] (by decide) rfl
      have hKc := hK.sub (tys' := [(cR, .int)]) [0] rfl
      have hFc := va_free (wc := [(nd, .inr (2, [.ref b, .ref h, .ref rw, .int (iI (mn + 1)), .int (iI sx)])), (rw, .inl (cR, M, .inl (fun j => iI ((vf_upd (vf_upd V (mn * 8 + 0).toNat kd) (mn * 8 + 1).toNat tg) j))))]) hD hS hA [1, 2] rfl
      refine mv_call (mv_runV (As := [.int (iI mn), .int (iI 2), .int (iI cs)]) (rest := []) ⟨hx, hb, hml, hown, hT⟩ (c_N_putV l dC dI H.size nd b h rw (mn + 1) sx cR M (vf_upd (vf_upd V (mn * 8 + 0).toNat kd) (mn * 8 + 1).toNat tg) mn 2 cs (by omega) (by omega) (by omega) (by omega) (by omega)) (cwV 3 hT (gV wd349 wd351 wd9 wd28 wd352) rfl rfl rfl (by decide +kernel) ⟨show 2 + 1 ≤ 3 from by omega, show 8 + (5 + 11) + 70 ≤ 130 from by omega⟩) ⟨fun a U g mk q => by obtain ⟨q0, q1, qP, qK, qD⟩ := q; exact ⟨q0, q1, qP, va_K.moved (u := U) (U := U.calling g mk a) (Vm.Alike.refl U.vm) qK, qD⟩, va_recv hKc hPc (ci := 2) (q0 := 0) rfl rfl, fun U hU hW => ⟨rfl, by rw [hU], by rw [hU]; exact hPc, va_K.moved hW.alike hKc, hDc.weaken (fun _ _ _ _ => trivial)⟩⟩ rfl rfl hl.1 rfl (lv_room (Nat.le_of_ble_eq_true rfl)) dX2_enter_94 ⟨show 0 + 0 + 0 + 0 ≤ (phR M) from by omega, show 0 + 0 + 0 + 0 ≤ (phR M) from by omega⟩) hS (fun q _ h => hFc q h) hFc (fun v37 u k35 n36 tS H1 locs ht hvm hw hB hz1 hk1 hS => ?_)
      obtain ⟨hP1, hK1, hD1⟩ := hB
      rw [ht] at hP1
      have hK1 := va_K.moved hvm.symm hK1
      try dsimp only at hw
      obtain ⟨hP, hD⟩ := va_join (wr := [(h, .inr (1, [.int (iI kd), .int (iI cs), .int (iI tg), .int (iI op), .int (iI sz1), .int (iI ct)]))]) (w1 := [(nd, .inr (2, [.ref b, .ref h, .ref rw, .int (iI (mn + 1)), .int (iI sx)])), (rw, .inl (cR, M, .inl (fun j => iI ((vf_upd (vf_upd (vf_upd V (mn * 8 + 0).toNat kd) (mn * 8 + 1).toNat tg) (mn * 8 + 2).toNat cs) j))))]) hP hD [1, 2] [0] rfl rfl (by decide) (by decide) hk1 hFc hP1 hD1
      have hK := (hK.sub (tys' := []) [] rfl).app hK1
      generalize H1 = H at hP hS ⊢
      have hP : va_P (dC, dI) vwCl [(h, .inr (1, [.int (iI kd), .int (iI cs), .int (iI tg), .int (iI op), .int (iI sz1), .int (iI ct)])), (nd, .inr (2, [.ref b, .ref h, .ref rw, .int (iI (mn + 1)), .int (iI sx)])), (rw, .inl (cR, M, .inl (fun j => iI ((vf_upd (vf_upd (vf_upd V (mn * 8 + 0).toNat kd) (mn * 8 + 1).toNat tg) (mn * 8 + 2).toNat cs) j))))] H := hP
      have hD : va_D A [(h, .inr (1, [.int (iI kd), .int (iI cs), .int (iI tg), .int (iI op), .int (iI sz1), .int (iI ct)])), (nd, .inr (2, [.ref b, .ref h, .ref rw, .int (iI (mn + 1)), .int (iI sx)])), (rw, .inl (cR, M, .inl (fun j => iI ((vf_upd (vf_upd (vf_upd V (mn * 8 + 0).toNat kd) (mn * 8 + 1).toNat tg) (mn * 8 + 2).toNat cs) j))))] := hD
      have hK : va_K (dC, dI) vwCl [(cR, .int)] s := hK
      obtain ⟨rfl, rfl, rfl⟩ := hw
      refine W.eq (g2 := F0 m 97 ls []) rfl ?_
      refine lv_aload_n hx hb dX2_enter_97 rfl (lv_at hl 1 rfl) ?_
      refine lv_iload_n hx hb dX2_enter_98 rfl (lv_at hl 0 rfl) ?_
      refine lv_iconst (v := iI 3) hx hb dX2_enter_99 rfl ?_
      refine lv_iload_n hx hb dX2_enter_100 rfl (lv_at hl 2 rfl) ?_
      have hPc := hP.sub (ws' := [(nd, .inr (2, [.ref b, .ref h, .ref rw, .int (iI (mn + 1)), .int (iI sx)])), (rw, .inl (cR, M, .inl (fun j => iI ((vf_upd (vf_upd (vf_upd V (mn * 8 + 0).toNat kd) (mn * 8 + 1).toNat tg) (mn * 8 + 2).toNat cs) j))))]) [1, 2] rfl
      have hDc := hD.sub (ws' := [(nd, .inr (2, [.ref b, .ref h, .ref rw, .int (iI (mn + 1)), .int (iI sx)])), (rw, .inl (cR, M, .inl (fun j => iI ((vf_upd (vf_upd (vf_upd V (mn * 8 + 0).toNat kd) (mn * 8 + 1).toNat tg) (mn * 8 + 2).toNat cs) j))))]) [1, 2] (by decide) rfl
      have hKc := hK.sub (tys' := [(cR, .int)]) [0] rfl
      have hFc := va_free (wc := [(nd, .inr (2, [.ref b, .ref h, .ref rw, .int (iI (mn + 1)), .int (iI sx)])), (rw, .inl (cR, M, .inl (fun j => iI ((vf_upd (vf_upd (vf_upd V (mn * 8 + 0).toNat kd) (mn * 8 + 1).toNat tg) (mn * 8 + 2).toNat cs) j))))]) hD hS hA [1, 2] rfl
      refine mv_call (mv_runV (As := [.int (iI mn), .int (iI 3), .int (iI i)]) (rest := []) ⟨hx, hb, hml, hown, hT⟩ (c_N_putV l dC dI H.size nd b h rw (mn + 1) sx cR M (vf_upd (vf_upd (vf_upd V (mn * 8 + 0).toNat kd) (mn * 8 + 1).toNat tg) (mn * 8 + 2).toNat cs) mn 3 i (by omega) (by omega) (by omega) (by omega) (by omega)) (cwV 3 hT (gV wd349 wd351 wd9 wd28 wd352) rfl rfl rfl (by decide +kernel) ⟨show 2 + 1 ≤ 3 from by omega, show 8 + (5 + 11) + 70 ≤ 130 from by omega⟩) ⟨fun a U g mk q => by obtain ⟨q0, q1, qP, qK, qD⟩ := q; exact ⟨q0, q1, qP, va_K.moved (u := U) (U := U.calling g mk a) (Vm.Alike.refl U.vm) qK, qD⟩, va_recv hKc hPc (ci := 2) (q0 := 0) rfl rfl, fun U hU hW => ⟨rfl, by rw [hU], by rw [hU]; exact hPc, va_K.moved hW.alike hKc, hDc.weaken (fun _ _ _ _ => trivial)⟩⟩ rfl rfl hl.1 rfl (lv_room (Nat.le_of_ble_eq_true rfl)) dX2_enter_101 ⟨show 0 + 0 + 0 + 0 + 0 ≤ (phR M) from by omega, show 0 + 0 + 0 + 0 + 0 ≤ (phR M) from by omega⟩) hS (fun q _ h => hFc q h) hFc (fun v40 u k38 n39 tS H1 locs ht hvm hw hB hz1 hk1 hS => ?_)
      obtain ⟨hP1, hK1, hD1⟩ := hB
      rw [ht] at hP1
      have hK1 := va_K.moved hvm.symm hK1
      try dsimp only at hw
      obtain ⟨hP, hD⟩ := va_join (wr := [(h, .inr (1, [.int (iI kd), .int (iI cs), .int (iI tg), .int (iI op), .int (iI sz1), .int (iI ct)]))]) (w1 := [(nd, .inr (2, [.ref b, .ref h, .ref rw, .int (iI (mn + 1)), .int (iI sx)])), (rw, .inl (cR, M, .inl (fun j => iI ((vf_upd (vf_upd (vf_upd (vf_upd V (mn * 8 + 0).toNat kd) (mn * 8 + 1).toNat tg) (mn * 8 + 2).toNat cs) (mn * 8 + 3).toNat i) j))))]) hP hD [1, 2] [0] rfl rfl (by decide) (by decide) hk1 hFc hP1 hD1
      have hK := (hK.sub (tys' := []) [] rfl).app hK1
      generalize H1 = H at hP hS ⊢
      have hP : va_P (dC, dI) vwCl [(h, .inr (1, [.int (iI kd), .int (iI cs), .int (iI tg), .int (iI op), .int (iI sz1), .int (iI ct)])), (nd, .inr (2, [.ref b, .ref h, .ref rw, .int (iI (mn + 1)), .int (iI sx)])), (rw, .inl (cR, M, .inl (fun j => iI ((vf_upd (vf_upd (vf_upd (vf_upd V (mn * 8 + 0).toNat kd) (mn * 8 + 1).toNat tg) (mn * 8 + 2).toNat cs) (mn * 8 + 3).toNat i) j))))] H := hP
      have hD : va_D A [(h, .inr (1, [.int (iI kd), .int (iI cs), .int (iI tg), .int (iI op), .int (iI sz1), .int (iI ct)])), (nd, .inr (2, [.ref b, .ref h, .ref rw, .int (iI (mn + 1)), .int (iI sx)])), (rw, .inl (cR, M, .inl (fun j => iI ((vf_upd (vf_upd (vf_upd (vf_upd V (mn * 8 + 0).toNat kd) (mn * 8 + 1).toNat tg) (mn * 8 + 2).toNat cs) (mn * 8 + 3).toNat i) j))))] := hD
      have hK : va_K (dC, dI) vwCl [(cR, .int)] s := hK
      obtain ⟨rfl, rfl, rfl⟩ := hw
      refine W.eq (g2 := F0 m 104 ls []) rfl ?_
      refine lv_aload_n hx hb dX2_enter_104 rfl (lv_at hl 1 rfl) ?_
      refine lv_iload_n hx hb dX2_enter_105 rfl (lv_at hl 0 rfl) ?_
      refine lv_iconst (v := iI 4) hx hb dX2_enter_106 rfl ?_
      refine lv_aload_n hx hb dX2_enter_107 rfl (lv_at hl 1 rfl) ?_
      refine va_get (D := (dC, dI)) (ci := 2) (v := .ref h) (C := RX2) (T := TX2) (N := 5) hx hb hT inX2 hown hK hP 1 rfl rfl 1 (by decide) (hT _ wd104) (fun _ h9 => h9) rfl dX2_enter_108 ?_
      refine va_getN (D := (dC, dI)) (ci := 1) (v := .int (iI ct)) (C := RX1) (T := TX1) (N := 6) hx hb hT inX1 hown hK hP 0 rfl rfl 5 (by decide) (va_Nw.use rfl hN.2.2.2.2.2) (fun _ h9 => h9) rfl dX2_enter_111 ?_
      have hPc := hP.sub (ws' := [(nd, .inr (2, [.ref b, .ref h, .ref rw, .int (iI (mn + 1)), .int (iI sx)])), (rw, .inl (cR, M, .inl (fun j => iI ((vf_upd (vf_upd (vf_upd (vf_upd V (mn * 8 + 0).toNat kd) (mn * 8 + 1).toNat tg) (mn * 8 + 2).toNat cs) (mn * 8 + 3).toNat i) j))))]) [1, 2] rfl
      have hDc := hD.sub (ws' := [(nd, .inr (2, [.ref b, .ref h, .ref rw, .int (iI (mn + 1)), .int (iI sx)])), (rw, .inl (cR, M, .inl (fun j => iI ((vf_upd (vf_upd (vf_upd (vf_upd V (mn * 8 + 0).toNat kd) (mn * 8 + 1).toNat tg) (mn * 8 + 2).toNat cs) (mn * 8 + 3).toNat i) j))))]) [1, 2] (by decide) rfl
      have hKc := hK.sub (tys' := [(cR, .int)]) [0] rfl
      have hFc := va_free (wc := [(nd, .inr (2, [.ref b, .ref h, .ref rw, .int (iI (mn + 1)), .int (iI sx)])), (rw, .inl (cR, M, .inl (fun j => iI ((vf_upd (vf_upd (vf_upd (vf_upd V (mn * 8 + 0).toNat kd) (mn * 8 + 1).toNat tg) (mn * 8 + 2).toNat cs) (mn * 8 + 3).toNat i) j))))]) hD hS hA [1, 2] rfl
      refine mv_call (mv_runV (As := [.int (iI mn), .int (iI 4), .int (iI ct)]) (rest := []) ⟨hx, hb, hml, hown, hT⟩ (c_N_putV l dC dI H.size nd b h rw (mn + 1) sx cR M (vf_upd (vf_upd (vf_upd (vf_upd V (mn * 8 + 0).toNat kd) (mn * 8 + 1).toNat tg) (mn * 8 + 2).toNat cs) (mn * 8 + 3).toNat i) mn 4 ct (by omega) (by omega) (by omega) (by omega) (by omega)) (cwV 3 hT (gV wd349 wd351 wd9 wd28 wd352) rfl rfl rfl (by decide +kernel) ⟨show 2 + 1 ≤ 3 from by omega, show 8 + (5 + 11) + 70 ≤ 130 from by omega⟩) ⟨fun a U g mk q => by obtain ⟨q0, q1, qP, qK, qD⟩ := q; exact ⟨q0, q1, qP, va_K.moved (u := U) (U := U.calling g mk a) (Vm.Alike.refl U.vm) qK, qD⟩, va_recv hKc hPc (ci := 2) (q0 := 0) rfl rfl, fun U hU hW => ⟨rfl, by rw [hU], by rw [hU]; exact hPc, va_K.moved hW.alike hKc, hDc.weaken (fun _ _ _ _ => trivial)⟩⟩ rfl rfl hl.1 rfl (lv_room (Nat.le_of_ble_eq_true rfl)) dX2_enter_114 ⟨show 0 + 0 + 0 + 0 + 0 + 0 ≤ (phR M) from by omega, show 0 + 0 + 0 + 0 + 0 + 0 ≤ (phR M) from by omega⟩) hS (fun q _ h => hFc q h) hFc (fun v43 u k41 n42 tS H1 locs ht hvm hw hB hz1 hk1 hS => ?_)
      obtain ⟨hP1, hK1, hD1⟩ := hB
      rw [ht] at hP1
      have hK1 := va_K.moved hvm.symm hK1
      try dsimp only at hw
      obtain ⟨hP, hD⟩ := va_join (wr := [(h, .inr (1, [.int (iI kd), .int (iI cs), .int (iI tg), .int (iI op), .int (iI sz1), .int (iI ct)]))]) (w1 := [(nd, .inr (2, [.ref b, .ref h, .ref rw, .int (iI (mn + 1)), .int (iI sx)])), (rw, .inl (cR, M, .inl (fun j => iI ((vf_upd (vf_upd (vf_upd (vf_upd (vf_upd V (mn * 8 + 0).toNat kd) (mn * 8 + 1).toNat tg) (mn * 8 + 2).toNat cs) (mn * 8 + 3).toNat i) (mn * 8 + 4).toNat ct) j))))]) hP hD [1, 2] [0] rfl rfl (by decide) (by decide) hk1 hFc hP1 hD1
      have hK := (hK.sub (tys' := []) [] rfl).app hK1
      generalize H1 = H at hP hS ⊢
      have hP : va_P (dC, dI) vwCl [(h, .inr (1, [.int (iI kd), .int (iI cs), .int (iI tg), .int (iI op), .int (iI sz1), .int (iI ct)])), (nd, .inr (2, [.ref b, .ref h, .ref rw, .int (iI (mn + 1)), .int (iI sx)])), (rw, .inl (cR, M, .inl (fun j => iI ((vf_upd (vf_upd (vf_upd (vf_upd (vf_upd V (mn * 8 + 0).toNat kd) (mn * 8 + 1).toNat tg) (mn * 8 + 2).toNat cs) (mn * 8 + 3).toNat i) (mn * 8 + 4).toNat ct) j))))] H := hP
      have hD : va_D A [(h, .inr (1, [.int (iI kd), .int (iI cs), .int (iI tg), .int (iI op), .int (iI sz1), .int (iI ct)])), (nd, .inr (2, [.ref b, .ref h, .ref rw, .int (iI (mn + 1)), .int (iI sx)])), (rw, .inl (cR, M, .inl (fun j => iI ((vf_upd (vf_upd (vf_upd (vf_upd (vf_upd V (mn * 8 + 0).toNat kd) (mn * 8 + 1).toNat tg) (mn * 8 + 2).toNat cs) (mn * 8 + 3).toNat i) (mn * 8 + 4).toNat ct) j))))] := hD
      have hK : va_K (dC, dI) vwCl [(cR, .int)] s := hK
      obtain ⟨rfl, rfl, rfl⟩ := hw
      refine W.eq (g2 := F0 m 117 ls []) rfl ?_
      refine lv_aload_n hx hb dX2_enter_117 rfl (lv_at hl 1 rfl) ?_
      refine lv_iload_n hx hb dX2_enter_118 rfl (lv_at hl 0 rfl) ?_
      refine lv_iconst (v := iI 5) hx hb dX2_enter_119 rfl ?_
      refine lv_aload_n hx hb dX2_enter_120 rfl (lv_at hl 1 rfl) ?_
      refine va_get (D := (dC, dI)) (ci := 2) (v := .ref h) (C := RX2) (T := TX2) (N := 5) hx hb hT inX2 hown hK hP 1 rfl rfl 1 (by decide) (hT _ wd104) (fun _ h9 => h9) rfl dX2_enter_121 ?_
      refine va_getN (D := (dC, dI)) (ci := 1) (v := .int (iI sz1)) (C := RX1) (T := TX1) (N := 6) hx hb hT inX1 hown hK hP 0 rfl rfl 4 (by decide) (va_Nw.use rfl hN.2.2.2.2.1) (fun _ h9 => h9) rfl dX2_enter_124 ?_
      have hPc := hP.sub (ws' := [(nd, .inr (2, [.ref b, .ref h, .ref rw, .int (iI (mn + 1)), .int (iI sx)])), (rw, .inl (cR, M, .inl (fun j => iI ((vf_upd (vf_upd (vf_upd (vf_upd (vf_upd V (mn * 8 + 0).toNat kd) (mn * 8 + 1).toNat tg) (mn * 8 + 2).toNat cs) (mn * 8 + 3).toNat i) (mn * 8 + 4).toNat ct) j))))]) [1, 2] rfl
      have hDc := hD.sub (ws' := [(nd, .inr (2, [.ref b, .ref h, .ref rw, .int (iI (mn + 1)), .int (iI sx)])), (rw, .inl (cR, M, .inl (fun j => iI ((vf_upd (vf_upd (vf_upd (vf_upd (vf_upd V (mn * 8 + 0).toNat kd) (mn * 8 + 1).toNat tg) (mn * 8 + 2).toNat cs) (mn * 8 + 3).toNat i) (mn * 8 + 4).toNat ct) j))))]) [1, 2] (by decide) rfl
      have hKc := hK.sub (tys' := [(cR, .int)]) [0] rfl
      have hFc := va_free (wc := [(nd, .inr (2, [.ref b, .ref h, .ref rw, .int (iI (mn + 1)), .int (iI sx)])), (rw, .inl (cR, M, .inl (fun j => iI ((vf_upd (vf_upd (vf_upd (vf_upd (vf_upd V (mn * 8 + 0).toNat kd) (mn * 8 + 1).toNat tg) (mn * 8 + 2).toNat cs) (mn * 8 + 3).toNat i) (mn * 8 + 4).toNat ct) j))))]) hD hS hA [1, 2] rfl
      refine mv_call (mv_runV (As := [.int (iI mn), .int (iI 5), .int (iI sz1)]) (rest := []) ⟨hx, hb, hml, hown, hT⟩ (c_N_putV l dC dI H.size nd b h rw (mn + 1) sx cR M (vf_upd (vf_upd (vf_upd (vf_upd (vf_upd V (mn * 8 + 0).toNat kd) (mn * 8 + 1).toNat tg) (mn * 8 + 2).toNat cs) (mn * 8 + 3).toNat i) (mn * 8 + 4).toNat ct) mn 5 sz1 (by omega) (by omega) (by omega) (by omega) (by omega)) (cwV 3 hT (gV wd349 wd351 wd9 wd28 wd352) rfl rfl rfl (by decide +kernel) ⟨show 2 + 1 ≤ 3 from by omega, show 8 + (5 + 11) + 70 ≤ 130 from by omega⟩) ⟨fun a U g mk q => by obtain ⟨q0, q1, qP, qK, qD⟩ := q; exact ⟨q0, q1, qP, va_K.moved (u := U) (U := U.calling g mk a) (Vm.Alike.refl U.vm) qK, qD⟩, va_recv hKc hPc (ci := 2) (q0 := 0) rfl rfl, fun U hU hW => ⟨rfl, by rw [hU], by rw [hU]; exact hPc, va_K.moved hW.alike hKc, hDc.weaken (fun _ _ _ _ => trivial)⟩⟩ rfl rfl hl.1 rfl (lv_room (Nat.le_of_ble_eq_true rfl)) dX2_enter_127 ⟨show 0 + 0 + 0 + 0 + 0 + 0 + 0 ≤ (phR M) from by omega, show 0 + 0 + 0 + 0 + 0 + 0 + 0 ≤ (phR M) from by omega⟩) hS (fun q _ h => hFc q h) hFc (fun v46 u k44 n45 tS H1 locs ht hvm hw hB hz1 hk1 hS => ?_)
      obtain ⟨hP1, hK1, hD1⟩ := hB
      rw [ht] at hP1
      have hK1 := va_K.moved hvm.symm hK1
      try dsimp only at hw
      obtain ⟨hP, hD⟩ := va_join (wr := [(h, .inr (1, [.int (iI kd), .int (iI cs), .int (iI tg), .int (iI op), .int (iI sz1), .int (iI ct)]))]) (w1 := [(nd, .inr (2, [.ref b, .ref h, .ref rw, .int (iI (mn + 1)), .int (iI sx)])), (rw, .inl (cR, M, .inl (fun j => iI ((vf_upd (vf_upd (vf_upd (vf_upd (vf_upd (vf_upd V (mn * 8 + 0).toNat kd) (mn * 8 + 1).toNat tg) (mn * 8 + 2).toNat cs) (mn * 8 + 3).toNat i) (mn * 8 + 4).toNat ct) (mn * 8 + 5).toNat sz1) j))))]) hP hD [1, 2] [0] rfl rfl (by decide) (by decide) hk1 hFc hP1 hD1
      have hK := (hK.sub (tys' := []) [] rfl).app hK1
      generalize H1 = H at hP hS ⊢
      have hP : va_P (dC, dI) vwCl [(h, .inr (1, [.int (iI kd), .int (iI cs), .int (iI tg), .int (iI op), .int (iI sz1), .int (iI ct)])), (nd, .inr (2, [.ref b, .ref h, .ref rw, .int (iI (mn + 1)), .int (iI sx)])), (rw, .inl (cR, M, .inl (fun j => iI ((vf_upd (vf_upd (vf_upd (vf_upd (vf_upd (vf_upd V (mn * 8 + 0).toNat kd) (mn * 8 + 1).toNat tg) (mn * 8 + 2).toNat cs) (mn * 8 + 3).toNat i) (mn * 8 + 4).toNat ct) (mn * 8 + 5).toNat sz1) j))))] H := hP
      have hD : va_D A [(h, .inr (1, [.int (iI kd), .int (iI cs), .int (iI tg), .int (iI op), .int (iI sz1), .int (iI ct)])), (nd, .inr (2, [.ref b, .ref h, .ref rw, .int (iI (mn + 1)), .int (iI sx)])), (rw, .inl (cR, M, .inl (fun j => iI ((vf_upd (vf_upd (vf_upd (vf_upd (vf_upd (vf_upd V (mn * 8 + 0).toNat kd) (mn * 8 + 1).toNat tg) (mn * 8 + 2).toNat cs) (mn * 8 + 3).toNat i) (mn * 8 + 4).toNat ct) (mn * 8 + 5).toNat sz1) j))))] := hD
      have hK : va_K (dC, dI) vwCl [(cR, .int)] s := hK
      obtain ⟨rfl, rfl, rfl⟩ := hw
      refine W.eq (g2 := F0 m 130 ls []) rfl ?_
      refine lv_aload_n hx hb dX2_enter_130 rfl (lv_at hl 1 rfl) ?_
      refine lv_iload_n hx hb dX2_enter_131 rfl (lv_at hl 0 rfl) ?_
      refine lv_bipush (v := iI 6) hx hb dX2_enter_132 (by decide +kernel) ?_
      refine lv_iload_n hx hb dX2_enter_134 rfl (lv_at hl 3 rfl) ?_
      have hPc := hP.sub (ws' := [(nd, .inr (2, [.ref b, .ref h, .ref rw, .int (iI (mn + 1)), .int (iI sx)])), (rw, .inl (cR, M, .inl (fun j => iI ((vf_upd (vf_upd (vf_upd (vf_upd (vf_upd (vf_upd V (mn * 8 + 0).toNat kd) (mn * 8 + 1).toNat tg) (mn * 8 + 2).toNat cs) (mn * 8 + 3).toNat i) (mn * 8 + 4).toNat ct) (mn * 8 + 5).toNat sz1) j))))]) [1, 2] rfl
      have hDc := hD.sub (ws' := [(nd, .inr (2, [.ref b, .ref h, .ref rw, .int (iI (mn + 1)), .int (iI sx)])), (rw, .inl (cR, M, .inl (fun j => iI ((vf_upd (vf_upd (vf_upd (vf_upd (vf_upd (vf_upd V (mn * 8 + 0).toNat kd) (mn * 8 + 1).toNat tg) (mn * 8 + 2).toNat cs) (mn * 8 + 3).toNat i) (mn * 8 + 4).toNat ct) (mn * 8 + 5).toNat sz1) j))))]) [1, 2] (by decide) rfl
      have hKc := hK.sub (tys' := [(cR, .int)]) [0] rfl
      have hFc := va_free (wc := [(nd, .inr (2, [.ref b, .ref h, .ref rw, .int (iI (mn + 1)), .int (iI sx)])), (rw, .inl (cR, M, .inl (fun j => iI ((vf_upd (vf_upd (vf_upd (vf_upd (vf_upd (vf_upd V (mn * 8 + 0).toNat kd) (mn * 8 + 1).toNat tg) (mn * 8 + 2).toNat cs) (mn * 8 + 3).toNat i) (mn * 8 + 4).toNat ct) (mn * 8 + 5).toNat sz1) j))))]) hD hS hA [1, 2] rfl
      refine mv_call (mv_runV (As := [.int (iI mn), .int (iI 6), .int (iI pr)]) (rest := []) ⟨hx, hb, hml, hown, hT⟩ (c_N_putV l dC dI H.size nd b h rw (mn + 1) sx cR M (vf_upd (vf_upd (vf_upd (vf_upd (vf_upd (vf_upd V (mn * 8 + 0).toNat kd) (mn * 8 + 1).toNat tg) (mn * 8 + 2).toNat cs) (mn * 8 + 3).toNat i) (mn * 8 + 4).toNat ct) (mn * 8 + 5).toNat sz1) mn 6 pr (by omega) (by omega) (by omega) (by omega) (by omega)) (cwV 3 hT (gV wd349 wd351 wd9 wd28 wd352) rfl rfl rfl (by decide +kernel) ⟨show 2 + 1 ≤ 3 from by omega, show 8 + (5 + 11) + 70 ≤ 130 from by omega⟩) ⟨fun a U g mk q => by obtain ⟨q0, q1, qP, qK, qD⟩ := q; exact ⟨q0, q1, qP, va_K.moved (u := U) (U := U.calling g mk a) (Vm.Alike.refl U.vm) qK, qD⟩, va_recv hKc hPc (ci := 2) (q0 := 0) rfl rfl, fun U hU hW => ⟨rfl, by rw [hU], by rw [hU]; exact hPc, va_K.moved hW.alike hKc, hDc.weaken (fun _ _ _ _ => trivial)⟩⟩ rfl rfl hl.1 rfl (lv_room (Nat.le_of_ble_eq_true rfl)) dX2_enter_135 ⟨show 0 + 0 + 0 + 0 + 0 + 0 + 0 + 0 ≤ (phR M) from by omega, show 0 + 0 + 0 + 0 + 0 + 0 + 0 + 0 ≤ (phR M) from by omega⟩) hS (fun q _ h => hFc q h) hFc (fun v49 u k47 n48 tS H1 locs ht hvm hw hB hz1 hk1 hS => ?_)
      obtain ⟨hP1, hK1, hD1⟩ := hB
      rw [ht] at hP1
      have hK1 := va_K.moved hvm.symm hK1
      try dsimp only at hw
      obtain ⟨hP, hD⟩ := va_join (wr := [(h, .inr (1, [.int (iI kd), .int (iI cs), .int (iI tg), .int (iI op), .int (iI sz1), .int (iI ct)]))]) (w1 := [(nd, .inr (2, [.ref b, .ref h, .ref rw, .int (iI (mn + 1)), .int (iI sx)])), (rw, .inl (cR, M, .inl (fun j => iI ((vf_upd (vf_upd (vf_upd (vf_upd (vf_upd (vf_upd (vf_upd V (mn * 8 + 0).toNat kd) (mn * 8 + 1).toNat tg) (mn * 8 + 2).toNat cs) (mn * 8 + 3).toNat i) (mn * 8 + 4).toNat ct) (mn * 8 + 5).toNat sz1) (mn * 8 + 6).toNat pr) j))))]) hP hD [1, 2] [0] rfl rfl (by decide) (by decide) hk1 hFc hP1 hD1
      have hK := (hK.sub (tys' := []) [] rfl).app hK1
      generalize H1 = H at hP hS ⊢
      have hP : va_P (dC, dI) vwCl [(h, .inr (1, [.int (iI kd), .int (iI cs), .int (iI tg), .int (iI op), .int (iI sz1), .int (iI ct)])), (nd, .inr (2, [.ref b, .ref h, .ref rw, .int (iI (mn + 1)), .int (iI sx)])), (rw, .inl (cR, M, .inl (fun j => iI ((vf_upd (vf_upd (vf_upd (vf_upd (vf_upd (vf_upd (vf_upd V (mn * 8 + 0).toNat kd) (mn * 8 + 1).toNat tg) (mn * 8 + 2).toNat cs) (mn * 8 + 3).toNat i) (mn * 8 + 4).toNat ct) (mn * 8 + 5).toNat sz1) (mn * 8 + 6).toNat pr) j))))] H := hP
      have hD : va_D A [(h, .inr (1, [.int (iI kd), .int (iI cs), .int (iI tg), .int (iI op), .int (iI sz1), .int (iI ct)])), (nd, .inr (2, [.ref b, .ref h, .ref rw, .int (iI (mn + 1)), .int (iI sx)])), (rw, .inl (cR, M, .inl (fun j => iI ((vf_upd (vf_upd (vf_upd (vf_upd (vf_upd (vf_upd (vf_upd V (mn * 8 + 0).toNat kd) (mn * 8 + 1).toNat tg) (mn * 8 + 2).toNat cs) (mn * 8 + 3).toNat i) (mn * 8 + 4).toNat ct) (mn * 8 + 5).toNat sz1) (mn * 8 + 6).toNat pr) j))))] := hD
      have hK : va_K (dC, dI) vwCl [(cR, .int)] s := hK
      obtain ⟨rfl, rfl, rfl⟩ := hw
      refine W.eq (g2 := F0 m 138 ls []) rfl ?_
      refine lv_aload_n hx hb dX2_enter_138 rfl (lv_at hl 1 rfl) ?_
      refine lv_iload_n hx hb dX2_enter_139 rfl (lv_at hl 0 rfl) ?_
      refine lv_bipush (v := iI 7) hx hb dX2_enter_140 (by decide +kernel) ?_
      refine lv_iconst (v := iI 0) hx hb dX2_enter_142 rfl ?_
      have hPc := hP.sub (ws' := [(nd, .inr (2, [.ref b, .ref h, .ref rw, .int (iI (mn + 1)), .int (iI sx)])), (rw, .inl (cR, M, .inl (fun j => iI ((vf_upd (vf_upd (vf_upd (vf_upd (vf_upd (vf_upd (vf_upd V (mn * 8 + 0).toNat kd) (mn * 8 + 1).toNat tg) (mn * 8 + 2).toNat cs) (mn * 8 + 3).toNat i) (mn * 8 + 4).toNat ct) (mn * 8 + 5).toNat sz1) (mn * 8 + 6).toNat pr) j))))]) [1, 2] rfl
      have hDc := hD.sub (ws' := [(nd, .inr (2, [.ref b, .ref h, .ref rw, .int (iI (mn + 1)), .int (iI sx)])), (rw, .inl (cR, M, .inl (fun j => iI ((vf_upd (vf_upd (vf_upd (vf_upd (vf_upd (vf_upd (vf_upd V (mn * 8 + 0).toNat kd) (mn * 8 + 1).toNat tg) (mn * 8 + 2).toNat cs) (mn * 8 + 3).toNat i) (mn * 8 + 4).toNat ct) (mn * 8 + 5).toNat sz1) (mn * 8 + 6).toNat pr) j))))]) [1, 2] (by decide) rfl
      have hKc := hK.sub (tys' := [(cR, .int)]) [0] rfl
      have hFc := va_free (wc := [(nd, .inr (2, [.ref b, .ref h, .ref rw, .int (iI (mn + 1)), .int (iI sx)])), (rw, .inl (cR, M, .inl (fun j => iI ((vf_upd (vf_upd (vf_upd (vf_upd (vf_upd (vf_upd (vf_upd V (mn * 8 + 0).toNat kd) (mn * 8 + 1).toNat tg) (mn * 8 + 2).toNat cs) (mn * 8 + 3).toNat i) (mn * 8 + 4).toNat ct) (mn * 8 + 5).toNat sz1) (mn * 8 + 6).toNat pr) j))))]) hD hS hA [1, 2] rfl
      refine mv_call (mv_runV (As := [.int (iI mn), .int (iI 7), .int (iI 0)]) (rest := []) ⟨hx, hb, hml, hown, hT⟩ (c_N_putV l dC dI H.size nd b h rw (mn + 1) sx cR M (vf_upd (vf_upd (vf_upd (vf_upd (vf_upd (vf_upd (vf_upd V (mn * 8 + 0).toNat kd) (mn * 8 + 1).toNat tg) (mn * 8 + 2).toNat cs) (mn * 8 + 3).toNat i) (mn * 8 + 4).toNat ct) (mn * 8 + 5).toNat sz1) (mn * 8 + 6).toNat pr) mn 7 0 (by omega) (by omega) (by omega) (by omega) (by omega)) (cwV 3 hT (gV wd349 wd351 wd9 wd28 wd352) rfl rfl rfl (by decide +kernel) ⟨show 2 + 1 ≤ 3 from by omega, show 8 + (5 + 11) + 70 ≤ 130 from by omega⟩) ⟨fun a U g mk q => by obtain ⟨q0, q1, qP, qK, qD⟩ := q; exact ⟨q0, q1, qP, va_K.moved (u := U) (U := U.calling g mk a) (Vm.Alike.refl U.vm) qK, qD⟩, va_recv hKc hPc (ci := 2) (q0 := 0) rfl rfl, fun U hU hW => ⟨rfl, by rw [hU], by rw [hU]; exact hPc, va_K.moved hW.alike hKc, hDc.weaken (fun _ _ _ _ => trivial)⟩⟩ rfl rfl hl.1 rfl (lv_room (Nat.le_of_ble_eq_true rfl)) dX2_enter_143 ⟨show 0 + 0 + 0 + 0 + 0 + 0 + 0 + 0 + 0 ≤ (phR M) from by omega, show 0 + 0 + 0 + 0 + 0 + 0 + 0 + 0 + 0 ≤ (phR M) from by omega⟩) hS (fun q _ h => hFc q h) hFc (fun v52 u k50 n51 tS H1 locs ht hvm hw hB hz1 hk1 hS => ?_)
      obtain ⟨hP1, hK1, hD1⟩ := hB
      rw [ht] at hP1
      have hK1 := va_K.moved hvm.symm hK1
      try dsimp only at hw
      obtain ⟨hP, hD⟩ := va_join (wr := [(h, .inr (1, [.int (iI kd), .int (iI cs), .int (iI tg), .int (iI op), .int (iI sz1), .int (iI ct)]))]) (w1 := [(nd, .inr (2, [.ref b, .ref h, .ref rw, .int (iI (mn + 1)), .int (iI sx)])), (rw, .inl (cR, M, .inl (fun j => iI ((vf_upd (vf_upd (vf_upd (vf_upd (vf_upd (vf_upd (vf_upd (vf_upd V (mn * 8 + 0).toNat kd) (mn * 8 + 1).toNat tg) (mn * 8 + 2).toNat cs) (mn * 8 + 3).toNat i) (mn * 8 + 4).toNat ct) (mn * 8 + 5).toNat sz1) (mn * 8 + 6).toNat pr) (mn * 8 + 7).toNat 0) j))))]) hP hD [1, 2] [0] rfl rfl (by decide) (by decide) hk1 hFc hP1 hD1
      have hK := (hK.sub (tys' := []) [] rfl).app hK1
      generalize H1 = H at hP hS ⊢
      have hP : va_P (dC, dI) vwCl [(h, .inr (1, [.int (iI kd), .int (iI cs), .int (iI tg), .int (iI op), .int (iI sz1), .int (iI ct)])), (nd, .inr (2, [.ref b, .ref h, .ref rw, .int (iI (mn + 1)), .int (iI sx)])), (rw, .inl (cR, M, .inl (fun j => iI ((vf_upd (vf_upd (vf_upd (vf_upd (vf_upd (vf_upd (vf_upd (vf_upd V (mn * 8 + 0).toNat kd) (mn * 8 + 1).toNat tg) (mn * 8 + 2).toNat cs) (mn * 8 + 3).toNat i) (mn * 8 + 4).toNat ct) (mn * 8 + 5).toNat sz1) (mn * 8 + 6).toNat pr) (mn * 8 + 7).toNat 0) j))))] H := hP
      have hD : va_D A [(h, .inr (1, [.int (iI kd), .int (iI cs), .int (iI tg), .int (iI op), .int (iI sz1), .int (iI ct)])), (nd, .inr (2, [.ref b, .ref h, .ref rw, .int (iI (mn + 1)), .int (iI sx)])), (rw, .inl (cR, M, .inl (fun j => iI ((vf_upd (vf_upd (vf_upd (vf_upd (vf_upd (vf_upd (vf_upd (vf_upd V (mn * 8 + 0).toNat kd) (mn * 8 + 1).toNat tg) (mn * 8 + 2).toNat cs) (mn * 8 + 3).toNat i) (mn * 8 + 4).toNat ct) (mn * 8 + 5).toNat sz1) (mn * 8 + 6).toNat pr) (mn * 8 + 7).toNat 0) j))))] := hD
      have hK : va_K (dC, dI) vwCl [(cR, .int)] s := hK
      obtain ⟨rfl, rfl, rfl⟩ := hw
      refine W.eq (g2 := F0 m 146 ls []) rfl ?_
      refine lv_aload_n hx hb dX2_enter_146 rfl (lv_at hl 1 rfl) ?_
      refine lv_iload_n hx hb dX2_enter_147 rfl (lv_at hl 3 rfl) ?_
      refine lv_bipush (v := iI 7) hx hb dX2_enter_148 (by decide +kernel) ?_
      refine lv_aload_n hx hb dX2_enter_150 rfl (lv_at hl 1 rfl) ?_
      refine lv_iload_n hx hb dX2_enter_151 rfl (lv_at hl 3 rfl) ?_
      refine lv_bipush (v := iI 7) hx hb dX2_enter_152 (by decide +kernel) ?_
      have hPc := hP.sub (ws' := [(nd, .inr (2, [.ref b, .ref h, .ref rw, .int (iI (mn + 1)), .int (iI sx)])), (rw, .inl (cR, M, .inl (fun j => iI ((vf_upd (vf_upd (vf_upd (vf_upd (vf_upd (vf_upd (vf_upd (vf_upd V (mn * 8 + 0).toNat kd) (mn * 8 + 1).toNat tg) (mn * 8 + 2).toNat cs) (mn * 8 + 3).toNat i) (mn * 8 + 4).toNat ct) (mn * 8 + 5).toNat sz1) (mn * 8 + 6).toNat pr) (mn * 8 + 7).toNat 0) j))))]) [1, 2] rfl
      have hDc := hD.sub (ws' := [(nd, .inr (2, [.ref b, .ref h, .ref rw, .int (iI (mn + 1)), .int (iI sx)])), (rw, .inl (cR, M, .inl (fun j => iI ((vf_upd (vf_upd (vf_upd (vf_upd (vf_upd (vf_upd (vf_upd (vf_upd V (mn * 8 + 0).toNat kd) (mn * 8 + 1).toNat tg) (mn * 8 + 2).toNat cs) (mn * 8 + 3).toNat i) (mn * 8 + 4).toNat ct) (mn * 8 + 5).toNat sz1) (mn * 8 + 6).toNat pr) (mn * 8 + 7).toNat 0) j))))]) [1, 2] (by decide) rfl
      have hKc := hK.sub (tys' := [(cR, .int)]) [0] rfl
      have hFc := va_free (wc := [(nd, .inr (2, [.ref b, .ref h, .ref rw, .int (iI (mn + 1)), .int (iI sx)])), (rw, .inl (cR, M, .inl (fun j => iI ((vf_upd (vf_upd (vf_upd (vf_upd (vf_upd (vf_upd (vf_upd (vf_upd V (mn * 8 + 0).toNat kd) (mn * 8 + 1).toNat tg) (mn * 8 + 2).toNat cs) (mn * 8 + 3).toNat i) (mn * 8 + 4).toNat ct) (mn * 8 + 5).toNat sz1) (mn * 8 + 6).toNat pr) (mn * 8 + 7).toNat 0) j))))]) hD hS hA [1, 2] rfl
      refine mv_call (mv_runV (As := [.int (iI pr), .int (iI 7)]) (rest := [.int (iI 7), .int (iI pr), .ref nd]) ⟨hx, hb, hml, hown, hT⟩ (c_N_get l dC dI H.size nd b h rw (mn + 1) sx cR M (vf_upd (vf_upd (vf_upd (vf_upd (vf_upd (vf_upd (vf_upd (vf_upd V (mn * 8 + 0).toNat kd) (mn * 8 + 1).toNat tg) (mn * 8 + 2).toNat cs) (mn * 8 + 3).toNat i) (mn * 8 + 4).toNat ct) (mn * 8 + 5).toNat sz1) (mn * 8 + 6).toNat pr) (mn * 8 + 7).toNat 0) pr 7 (by omega) (by omega) (by omega) (entN_rng hV0 (by omega) (by omega) (by omega) (by omega) (by omega) (by omega) (by omega)) (by omega) (by omega)) (cwV 2 hT (gV wd361 wd362 wd363 wd28 wd364) rfl rfl rfl (by decide +kernel) ⟨show 2 + 1 ≤ 3 from by omega, show 8 + (4 + 11) + 70 ≤ 130 from by omega⟩) ⟨fun a U g mk q => by obtain ⟨q0, q1, qP, qK, qD⟩ := q; exact ⟨q0, q1, qP, va_K.moved (u := U) (U := U.calling g mk a) (Vm.Alike.refl U.vm) qK, qD⟩, va_recv hKc hPc (ci := 2) (q0 := 0) rfl rfl, fun U hU hW => ⟨rfl, by rw [hU], by rw [hU]; exact hPc, va_K.moved hW.alike hKc, hDc.weaken (fun _ _ _ _ => trivial)⟩⟩ rfl rfl hl.1 rfl (lv_room (Nat.le_of_ble_eq_true rfl)) dX2_enter_154 ⟨show 0 + 0 + 0 + 0 + 0 + 0 + 0 + 0 + 0 + 0 ≤ (phR M) from by omega, show 0 + 0 + 0 + 0 + 0 + 0 + 0 + 0 + 0 + 0 ≤ (phR M) from by omega⟩) hS (fun q _ h => hFc q h) hFc (fun v55 u k53 n54 tS H1 locs ht hvm hw hB hz1 hk1 hS => ?_)
      obtain ⟨q56, rfl⟩ : ∃ y, y = u := ⟨_, rfl⟩
      obtain ⟨hP1, hK1, hD1⟩ := hB
      rw [ht] at hP1
      have hK1 := va_K.moved hvm.symm hK1
      try dsimp only at hw
      obtain ⟨hP, hD⟩ := va_join (wr := [(h, .inr (1, [.int (iI kd), .int (iI cs), .int (iI tg), .int (iI op), .int (iI sz1), .int (iI ct)]))]) (w1 := [(nd, .inr (2, [.ref b, .ref h, .ref rw, .int (iI (mn + 1)), .int (iI sx)])), (rw, .inl (cR, M, .inl (fun j => iI ((vf_upd (vf_upd (vf_upd (vf_upd (vf_upd (vf_upd (vf_upd (vf_upd V (mn * 8 + 0).toNat kd) (mn * 8 + 1).toNat tg) (mn * 8 + 2).toNat cs) (mn * 8 + 3).toNat i) (mn * 8 + 4).toNat ct) (mn * 8 + 5).toNat sz1) (mn * 8 + 6).toNat pr) (mn * 8 + 7).toNat 0) j))))]) hP hD [1, 2] [0] rfl rfl (by decide) (by decide) hk1 hFc hP1 hD1
      have hK := (hK.sub (tys' := []) [] rfl).app hK1
      generalize H1 = H at hP hS ⊢
      have hP : va_P (dC, dI) vwCl [(h, .inr (1, [.int (iI kd), .int (iI cs), .int (iI tg), .int (iI op), .int (iI sz1), .int (iI ct)])), (nd, .inr (2, [.ref b, .ref h, .ref rw, .int (iI (mn + 1)), .int (iI sx)])), (rw, .inl (cR, M, .inl (fun j => iI ((vf_upd (vf_upd (vf_upd (vf_upd (vf_upd (vf_upd (vf_upd (vf_upd V (mn * 8 + 0).toNat kd) (mn * 8 + 1).toNat tg) (mn * 8 + 2).toNat cs) (mn * 8 + 3).toNat i) (mn * 8 + 4).toNat ct) (mn * 8 + 5).toNat sz1) (mn * 8 + 6).toNat pr) (mn * 8 + 7).toNat 0) j))))] H := hP
      have hD : va_D A [(h, .inr (1, [.int (iI kd), .int (iI cs), .int (iI tg), .int (iI op), .int (iI sz1), .int (iI ct)])), (nd, .inr (2, [.ref b, .ref h, .ref rw, .int (iI (mn + 1)), .int (iI sx)])), (rw, .inl (cR, M, .inl (fun j => iI ((vf_upd (vf_upd (vf_upd (vf_upd (vf_upd (vf_upd (vf_upd (vf_upd V (mn * 8 + 0).toNat kd) (mn * 8 + 1).toNat tg) (mn * 8 + 2).toNat cs) (mn * 8 + 3).toNat i) (mn * 8 + 4).toNat ct) (mn * 8 + 5).toNat sz1) (mn * 8 + 6).toNat pr) (mn * 8 + 7).toNat 0) j))))] := hD
      have hK : va_K (dC, dI) vwCl [(cR, .int)] s := hK
      obtain ⟨rfl, hqv55, hrv55, rfl, rfl⟩ := hw
      refine W.eq (g2 := F0 m 157 ls [.int (iI q56), .int (iI 7), .int (iI pr), .ref nd]) rfl ?_
      refine lv_iconst (v := iI 1) hx hb dX2_enter_157 rfl ?_
      refine li_iadd hx hb dX2_enter_158 ?_
      have hPc := hP.sub (ws' := [(nd, .inr (2, [.ref b, .ref h, .ref rw, .int (iI (mn + 1)), .int (iI sx)])), (rw, .inl (cR, M, .inl (fun j => iI ((vf_upd (vf_upd (vf_upd (vf_upd (vf_upd (vf_upd (vf_upd (vf_upd V (mn * 8 + 0).toNat kd) (mn * 8 + 1).toNat tg) (mn * 8 + 2).toNat cs) (mn * 8 + 3).toNat i) (mn * 8 + 4).toNat ct) (mn * 8 + 5).toNat sz1) (mn * 8 + 6).toNat pr) (mn * 8 + 7).toNat 0) j))))]) [1, 2] rfl
      have hDc := hD.sub (ws' := [(nd, .inr (2, [.ref b, .ref h, .ref rw, .int (iI (mn + 1)), .int (iI sx)])), (rw, .inl (cR, M, .inl (fun j => iI ((vf_upd (vf_upd (vf_upd (vf_upd (vf_upd (vf_upd (vf_upd (vf_upd V (mn * 8 + 0).toNat kd) (mn * 8 + 1).toNat tg) (mn * 8 + 2).toNat cs) (mn * 8 + 3).toNat i) (mn * 8 + 4).toNat ct) (mn * 8 + 5).toNat sz1) (mn * 8 + 6).toNat pr) (mn * 8 + 7).toNat 0) j))))]) [1, 2] (by decide) rfl
      have hKc := hK.sub (tys' := [(cR, .int)]) [0] rfl
      have hFc := va_free (wc := [(nd, .inr (2, [.ref b, .ref h, .ref rw, .int (iI (mn + 1)), .int (iI sx)])), (rw, .inl (cR, M, .inl (fun j => iI ((vf_upd (vf_upd (vf_upd (vf_upd (vf_upd (vf_upd (vf_upd (vf_upd V (mn * 8 + 0).toNat kd) (mn * 8 + 1).toNat tg) (mn * 8 + 2).toNat cs) (mn * 8 + 3).toNat i) (mn * 8 + 4).toNat ct) (mn * 8 + 5).toNat sz1) (mn * 8 + 6).toNat pr) (mn * 8 + 7).toNat 0) j))))]) hD hS hA [1, 2] rfl
      refine mv_call (mv_runV (As := [.int (iI pr), .int (iI 7), .int (iI (q56 + 1))]) (rest := []) ⟨hx, hb, hml, hown, hT⟩ (c_N_put l dC dI H.size nd b h rw (mn + 1) sx cR M (vf_upd (vf_upd (vf_upd (vf_upd (vf_upd (vf_upd (vf_upd (vf_upd V (mn * 8 + 0).toNat kd) (mn * 8 + 1).toNat tg) (mn * 8 + 2).toNat cs) (mn * 8 + 3).toNat i) (mn * 8 + 4).toNat ct) (mn * 8 + 5).toNat sz1) (mn * 8 + 6).toNat pr) (mn * 8 + 7).toNat 0) pr 7 (q56 + 1) (by omega) (by omega) (by omega) (by omega) (by omega)) (cwV 3 hT (gV wd349 wd351 wd9 wd28 wd352) rfl rfl rfl (by decide +kernel) ⟨show 2 + 1 ≤ 3 from by omega, show 8 + (5 + 11) + 70 ≤ 130 from by omega⟩) ⟨fun a U g mk q => by obtain ⟨q0, q1, qP, qK, qD⟩ := q; exact ⟨q0, q1, qP, va_K.moved (u := U) (U := U.calling g mk a) (Vm.Alike.refl U.vm) qK, qD⟩, va_recv hKc hPc (ci := 2) (q0 := 0) rfl rfl, fun U hU hW => ⟨rfl, by rw [hU], by rw [hU]; exact hPc, va_K.moved hW.alike hKc, hDc.weaken (fun _ _ _ _ => trivial)⟩⟩ rfl rfl hl.1 rfl (lv_room (Nat.le_of_ble_eq_true rfl)) dX2_enter_159 ⟨show 0 + 0 + 0 + 0 + 0 + 0 + 0 + 0 + 0 + 0 + 0 ≤ (phR M) from by omega, show 0 + 0 + 0 + 0 + 0 + 0 + 0 + 0 + 0 + 0 + 0 ≤ (phR M) from by omega⟩) hS (fun q _ h => hFc q h) hFc (fun v59 u k57 n58 tS H1 locs ht hvm hw hB hz1 hk1 hS => ?_)
      obtain ⟨V60, rfl⟩ : ∃ y, y = u := ⟨_, rfl⟩
      obtain ⟨hP1, hK1, hD1⟩ := hB
      rw [ht] at hP1
      have hK1 := va_K.moved hvm.symm hK1
      try dsimp only at hw
      obtain ⟨hP, hD⟩ := va_join (wr := [(h, .inr (1, [.int (iI kd), .int (iI cs), .int (iI tg), .int (iI op), .int (iI sz1), .int (iI ct)]))]) (w1 := [(nd, .inr (2, [.ref b, .ref h, .ref rw, .int (iI (mn + 1)), .int (iI sx)])), (rw, .inl (cR, M, .inl (fun j => iI (V60 j))))]) hP hD [1, 2] [0] rfl rfl (by decide) (by decide) hk1 hFc hP1 hD1
      have hK := (hK.sub (tys' := []) [] rfl).app hK1
      generalize H1 = H at hP hS ⊢
      have hP : va_P (dC, dI) vwCl [(h, .inr (1, [.int (iI kd), .int (iI cs), .int (iI tg), .int (iI op), .int (iI sz1), .int (iI ct)])), (nd, .inr (2, [.ref b, .ref h, .ref rw, .int (iI (mn + 1)), .int (iI sx)])), (rw, .inl (cR, M, .inl (fun j => iI (V60 j))))] H := hP
      have hD : va_D A [(h, .inr (1, [.int (iI kd), .int (iI cs), .int (iI tg), .int (iI op), .int (iI sz1), .int (iI ct)])), (nd, .inr (2, [.ref b, .ref h, .ref rw, .int (iI (mn + 1)), .int (iI sx)])), (rw, .inl (cR, M, .inl (fun j => iI (V60 j))))] := hD
      have hK : va_K (dC, dI) vwCl [(cR, .int)] s := hK
      obtain ⟨hqv59, rfl, rfl, rfl⟩ := hw
      refine W.eq (g2 := F0 m 162 ls []) rfl ?_
      refine lv_iload_n hx hb dX2_enter_162 rfl (lv_at hl 0 rfl) ?_
      have hE := ent_fin hn3 h00 hqv55 hqv59
      have hr9 := ent_r9 (entN_rng hV0 (by omega) (by omega) (by omega) (by omega) (by omega) (by omega) (by omega)) (ent_q hoN h00 hpr hqv55) hqv59
      have hP9 := hP.sub (ws' := [(nd, .inr (2, [.ref b, .ref h, .ref rw, .int (iI (mn + 1)), .int (iI sx)])), (rw, .inl (cR, M, .inl (fun j => iI (V60 j)))), (h, .inr (1, [.int (iI kd), .int (iI cs), .int (iI tg), .int (iI op), .int (iI sz1), .int (iI ct)]))]) [1, 2, 0] rfl
      have hD9 := hD.sub (ws' := [(nd, .inr (2, [.ref b, .ref h, .ref rw, .int (iI (mn + 1)), .int (iI sx)])), (rw, .inl (cR, M, .inl (fun j => iI (V60 j)))), (h, .inr (1, [.int (iI kd), .int (iI cs), .int (iI tg), .int (iI op), .int (iI sz1), .int (iI ct)]))]) [1, 2, 0] (by decide) rfl
      have hK9 := hK.sub (tys' := [(cR, .int)]) [0] rfl
      exact mv_iret hx hb hr hlocks (fun tS ht hW => ⟨⟨_, (rw, cR, M, V60), rfl, ⟨rfl, okN_ent hoN hm8 (by omega) (by omega) (by omega) hr9 hE, hE, by omega, by omega⟩, by rw [ht]; exact hP9, va_K.moved hW.alike hK9, hD9⟩, hS.F ht⟩) hS.2.2 dX2_enter_163
  · skip
    refine lv_aload_n hx hb dX2_enter_19 rfl (lv_at hl 1 rfl) ?_
    refine lv_aload_n hx hb dX2_enter_20 rfl (lv_at hl 1 rfl) ?_
    refine va_get (D := (dC, dI)) (ci := 2) (v := .ref rw) (C := RX2) (T := TX2) (N := 5) hx hb hT inX2 hown hK hP 0 rfl rfl 2 (by decide) (hT _ wd105) (fun _ h9 => h9) rfl dX2_enter_21 ?_
    refine lv_sipush (v := iI 16384) hx hb dX2_enter_24 (by decide +kernel) ?_
    refine lv_iconst (v := iI 2) hx hb dX2_enter_27 rfl ?_
    refine lv_aload_n hx hb dX2_enter_28 rfl (lv_at hl 1 rfl) ?_
    refine va_get (D := (dC, dI)) (ci := 2) (v := .ref rw) (C := RX2) (T := TX2) (N := 5) hx hb hT inX2 hown hK hP 0 rfl rfl 2 (by decide) (hT _ wd105) (fun _ h9 => h9) rfl dX2_enter_29 ?_
    refine li_alen hx hb hK hP 1 0 rfl rfl dX2_enter_32 ?_
    refine li_imul hx hb dX2_enter_33 ?_
    refine li_mmin hx hb (hml.trans hl.1.symm) hown (hT _ wd340) (hT _ wd218) (hT _ wd35) (hT _ wd219) (by show 1 ≤ 3; omega) (by show 2 + 13 ≤ 130; omega) (by show 0 ≤ (phR M); omega) (by show 0 ≤ (phR M); omega) (by omega) (by omega) dX2_enter_34 ?_
    have hph := phR_grow (w := M) (v := (min 16384 (2 * (M : Int))).toNat) (by omega) (by omega) (by omega)
    have hPc := hP.sub (ws' := [(rw, .inl (cR, M, .inl (fun j => iI (V j))))]) [1] rfl
    have hDc := hD.sub (ws' := [(rw, .inl (cR, M, .inl (fun j => iI (V j))))]) [1] (by decide) rfl
    have hKc := hK.sub (tys' := [(cR, .int)]) [0] rfl
    have hFc := va_free (wc := [(rw, .inl (cR, M, .inl (fun j => iI (V j))))]) hD hS hA [1] rfl
    refine mv_call (mv_runS (As := [.ref rw, .int (iI (min 16384 (2 * (M : Int))))]) (rest := [.ref nd]) ⟨hx, hb, hml, hown, hT⟩ (c_copyI l dC dI s.heap.size rw cR M V (min 16384 (2 * (M : Int))) (by omega) (by omega)) (va_cwS 2 hT (gS2 wd341 wd342 wd36 wd343) rfl rfl rfl (by decide +kernel) ⟨show 1 + 1 ≤ 3 from by omega, show 8 + (3 + 11) + 60 ≤ 130 from by omega⟩) ⟨fun a U g mk q => by obtain ⟨q0, q1, qP, qK, qD⟩ := q; exact ⟨q0, q1, qP, va_K.moved (u := U) (U := U.calling g mk a) (Vm.Alike.refl U.vm) qK, qD⟩, fun U hU hW => ⟨rfl, by rw [hU], by rw [hU]; exact hPc, va_K.moved hW.alike hKc, hDc.weaken (fun _ _ _ _ => trivial)⟩⟩ rfl rfl hl.1 rfl (lv_room (Nat.le_of_ble_eq_true rfl)) dX2_enter_37 ⟨show 0 + 1 ≤ (phR M) from by omega, show 0 + (((min 16384 (2 * (M : Int))) : Int).toNat) ≤ (phR M) from by omega⟩) hS (fun q _ h => hFc q h) hFc (fun v63 u k61 n62 tS H1 locs ht hvm hw hB hz1 hk1 hS => ?_)
    obtain ⟨r64, cA65, t66⟩ := u
    obtain ⟨hP1, hK1, hD1⟩ := hB
    rw [ht] at hP1
    have hK1 := va_K.moved hvm.symm hK1
    try dsimp only at hw
    obtain ⟨hP, hD⟩ := va_join (wr := [(nd, .inr (2, [.ref b, .ref h, .ref rw, .int (iI mn), .int (iI sx)])), (h, .inr (1, [.int (iI kd), .int (iI cs), .int (iI tg), .int (iI op), .int (iI sz1), .int (iI ct)]))]) (w1 := [(rw, .inl (cR, M, .inl (fun j => iI (V j)))), (r64, .inl (cA65, ((min 16384 (2 * (M : Int))) : Int).toNat, .inl (fun j => iI (t66 j))))]) hP hD [1] [0, 2] rfl rfl (by decide) (by decide) hk1 hFc hP1 hD1
    have hK := (hK.sub (tys' := []) [] rfl).app hK1
    generalize H1 = H at hP hS ⊢
    have hP : va_P (dC, dI) vwCl [(nd, .inr (2, [.ref b, .ref h, .ref rw, .int (iI mn), .int (iI sx)])), (h, .inr (1, [.int (iI kd), .int (iI cs), .int (iI tg), .int (iI op), .int (iI sz1), .int (iI ct)])), (rw, .inl (cR, M, .inl (fun j => iI (V j)))), (r64, .inl (cA65, ((min 16384 (2 * (M : Int))) : Int).toNat, .inl (fun j => iI (t66 j))))] H := hP
    have hD : va_D A [(nd, .inr (2, [.ref b, .ref h, .ref rw, .int (iI mn), .int (iI sx)])), (h, .inr (1, [.int (iI kd), .int (iI cs), .int (iI tg), .int (iI op), .int (iI sz1), .int (iI ct)])), (rw, .inl (cR, M, .inl (fun j => iI (V j)))), (r64, .inl (cA65, ((min 16384 (2 * (M : Int))) : Int).toNat, .inl (fun j => iI (t66 j))))] := hD
    have hK : va_K (dC, dI) vwCl [(cR, .int), (cA65, .int)] s := hK
    obtain ⟨rfl, hjv63, hiv63, rfl, rfl⟩ := hw
    refine W.eq (g2 := F0 m 40 ls [.ref r64, .ref nd]) rfl ?_
    refine va_put (D := (dC, dI)) (ci := 2) (v := .ref r64) (ty := .array .int) (C := RX2) (T := TX2) (N := 5) hx hb hT inX2 tyX2 tyX2_ok nX2 hown hK hP hD hS 0 rfl rfl 2 (by decide) (hT _ wd105) (fun _ h9 => h9) rfl (by decide +kernel) rfl rfl (Nat.le_of_ble_eq_true rfl) dX2_enter_40 (fun H locs hP hD hS => ?_)
    have hP : va_P (dC, dI) vwCl [(nd, .inr (2, [.ref b, .ref h, .ref r64, .int (iI mn), .int (iI sx)])), (h, .inr (1, [.int (iI kd), .int (iI cs), .int (iI tg), .int (iI op), .int (iI sz1), .int (iI ct)])), (rw, .inl (cR, M, .inl (fun j => iI (V j)))), (r64, .inl (cA65, ((min 16384 (2 * (M : Int))) : Int).toNat, .inl (fun j => iI (t66 j))))] H := hP
    have hD : va_D A [(nd, .inr (2, [.ref b, .ref h, .ref r64, .int (iI mn), .int (iI sx)])), (h, .inr (1, [.int (iI kd), .int (iI cs), .int (iI tg), .int (iI op), .int (iI sz1), .int (iI ct)])), (rw, .inl (cR, M, .inl (fun j => iI (V j)))), (r64, .inl (cA65, ((min 16384 (2 * (M : Int))) : Int).toNat, .inl (fun j => iI (t66 j))))] := hD
    have hV0 : ∀ j, -2147483648 ≤ t66 j ∧ t66 j < 2147483648 := fun j => (hiv63 j).elim (fun h => by rw [h]; exact hn6 j) (fun h => by rw [h]; decide)
    have h00 : ∀ j : Nat, (j : Int) < 8 * mn → t66 j = V j := fun j hj => hjv63 j (by omega) (by omega)
    refine lv_aload_n hx hb dX2_enter_43 rfl (lv_at hl 1 rfl) ?_
    refine lv_iload_n hx hb dX2_enter_44 rfl (lv_at hl 0 rfl) ?_
    refine lv_iconst (v := iI 1) hx hb dX2_enter_45 rfl ?_
    refine li_iadd hx hb dX2_enter_46 ?_
    refine va_put (D := (dC, dI)) (ci := 2) (v := .int (iI (mn + 1))) (ty := .int) (C := RX2) (T := TX2) (N := 5) hx hb hT inX2 tyX2 tyX2_ok nX2 hown hK hP hD hS 0 rfl rfl 3 (by decide) (hT _ wd106) (fun _ h9 => h9) rfl (by decide +kernel) rfl rfl (Nat.le_of_ble_eq_true rfl) dX2_enter_47 (fun H locs hP hD hS => ?_)
    have hP : va_P (dC, dI) vwCl [(nd, .inr (2, [.ref b, .ref h, .ref r64, .int (iI (mn + 1)), .int (iI sx)])), (h, .inr (1, [.int (iI kd), .int (iI cs), .int (iI tg), .int (iI op), .int (iI sz1), .int (iI ct)])), (rw, .inl (cR, M, .inl (fun j => iI (V j)))), (r64, .inl (cA65, ((min 16384 (2 * (M : Int))) : Int).toNat, .inl (fun j => iI (t66 j))))] H := hP
    have hD : va_D A [(nd, .inr (2, [.ref b, .ref h, .ref r64, .int (iI (mn + 1)), .int (iI sx)])), (h, .inr (1, [.int (iI kd), .int (iI cs), .int (iI tg), .int (iI op), .int (iI sz1), .int (iI ct)])), (rw, .inl (cR, M, .inl (fun j => iI (V j)))), (r64, .inl (cA65, ((min 16384 (2 * (M : Int))) : Int).toNat, .inl (fun j => iI (t66 j))))] := hD
    refine lv_aload_n hx hb dX2_enter_50 rfl (lv_at hl 1 rfl) ?_
    refine lv_iload_n hx hb dX2_enter_51 rfl (lv_at hl 0 rfl) ?_
    refine lv_iconst (v := iI 0) hx hb dX2_enter_52 rfl ?_
    refine lv_aload_n hx hb dX2_enter_53 rfl (lv_at hl 1 rfl) ?_
    refine va_get (D := (dC, dI)) (ci := 2) (v := .ref h) (C := RX2) (T := TX2) (N := 5) hx hb hT inX2 hown hK hP 0 rfl rfl 1 (by decide) (hT _ wd104) (fun _ h9 => h9) rfl dX2_enter_54 ?_
    refine va_getN (D := (dC, dI)) (ci := 1) (v := .int (iI kd)) (C := RX1) (T := TX1) (N := 6) hx hb hT inX1 hown hK hP 1 rfl rfl 0 (by decide) (va_Nw.use rfl hN.1) (fun _ h9 => h9) rfl dX2_enter_57 ?_
    have hPc := hP.sub (ws' := [(nd, .inr (2, [.ref b, .ref h, .ref r64, .int (iI (mn + 1)), .int (iI sx)])), (r64, .inl (cA65, (((min 16384 (2 * (M : Int))) : Int).toNat), .inl (fun j => iI (t66 j))))]) [0, 3] rfl
    have hDc := hD.sub (ws' := [(nd, .inr (2, [.ref b, .ref h, .ref r64, .int (iI (mn + 1)), .int (iI sx)])), (r64, .inl (cA65, (((min 16384 (2 * (M : Int))) : Int).toNat), .inl (fun j => iI (t66 j))))]) [0, 3] (by decide) rfl
    have hKc := hK.sub (tys' := [(cA65, .int)]) [1] rfl
    have hFc := va_free (wc := [(nd, .inr (2, [.ref b, .ref h, .ref r64, .int (iI (mn + 1)), .int (iI sx)])), (r64, .inl (cA65, (((min 16384 (2 * (M : Int))) : Int).toNat), .inl (fun j => iI (t66 j))))]) hD hS hA [0, 3] rfl
    refine mv_call (mv_runV (As := [.int (iI mn), .int (iI 0), .int (iI kd)]) (rest := []) ⟨hx, hb, hml, hown, hT⟩ (c_N_putV l dC dI H.size nd b h r64 (mn + 1) sx cA65 (((min 16384 (2 * (M : Int))) : Int).toNat) t66 mn 0 kd (by omega) (by omega) (by omega) (by omega) (by omega)) (cwV 3 hT (gV wd349 wd351 wd9 wd28 wd352) rfl rfl rfl (by decide +kernel) ⟨show 2 + 1 ≤ 3 from by omega, show 8 + (5 + 11) + 70 ≤ 130 from by omega⟩) ⟨fun a U g mk q => by obtain ⟨q0, q1, qP, qK, qD⟩ := q; exact ⟨q0, q1, qP, va_K.moved (u := U) (U := U.calling g mk a) (Vm.Alike.refl U.vm) qK, qD⟩, va_recv hKc hPc (ci := 2) (q0 := 0) rfl rfl, fun U hU hW => ⟨rfl, by rw [hU], by rw [hU]; exact hPc, va_K.moved hW.alike hKc, hDc.weaken (fun _ _ _ _ => trivial)⟩⟩ rfl rfl hl.1 rfl (lv_room (Nat.le_of_ble_eq_true rfl)) dX2_enter_60 ⟨show 0 + 1 + 0 ≤ (phR M) from by omega, show 0 + ((min 16384 (2 * (M : Int))) : Int).toNat + 0 ≤ (phR M) from by omega⟩) hS (fun q _ h => hFc q h) hFc (fun v69 u k67 n68 tS H1 locs ht hvm hw hB hz1 hk1 hS => ?_)
    obtain ⟨hP1, hK1, hD1⟩ := hB
    rw [ht] at hP1
    have hK1 := va_K.moved hvm.symm hK1
    try dsimp only at hw
    obtain ⟨hP, hD⟩ := va_join (wr := [(h, .inr (1, [.int (iI kd), .int (iI cs), .int (iI tg), .int (iI op), .int (iI sz1), .int (iI ct)])), (rw, .inl (cR, M, .inl (fun j => iI (V j))))]) (w1 := [(nd, .inr (2, [.ref b, .ref h, .ref r64, .int (iI (mn + 1)), .int (iI sx)])), (r64, .inl (cA65, (((min 16384 (2 * (M : Int))) : Int).toNat), .inl (fun j => iI ((vf_upd t66 (mn * 8 + 0).toNat kd) j))))]) hP hD [0, 3] [1, 2] rfl rfl (by decide) (by decide) hk1 hFc hP1 hD1
    have hK := (hK.sub (tys' := [(cR, .int)]) [0] rfl).app hK1
    generalize H1 = H at hP hS ⊢
    have hP : va_P (dC, dI) vwCl [(h, .inr (1, [.int (iI kd), .int (iI cs), .int (iI tg), .int (iI op), .int (iI sz1), .int (iI ct)])), (rw, .inl (cR, M, .inl (fun j => iI (V j)))), (nd, .inr (2, [.ref b, .ref h, .ref r64, .int (iI (mn + 1)), .int (iI sx)])), (r64, .inl (cA65, (((min 16384 (2 * (M : Int))) : Int).toNat), .inl (fun j => iI ((vf_upd t66 (mn * 8 + 0).toNat kd) j))))] H := hP
    have hD : va_D A [(h, .inr (1, [.int (iI kd), .int (iI cs), .int (iI tg), .int (iI op), .int (iI sz1), .int (iI ct)])), (rw, .inl (cR, M, .inl (fun j => iI (V j)))), (nd, .inr (2, [.ref b, .ref h, .ref r64, .int (iI (mn + 1)), .int (iI sx)])), (r64, .inl (cA65, (((min 16384 (2 * (M : Int))) : Int).toNat), .inl (fun j => iI ((vf_upd t66 (mn * 8 + 0).toNat kd) j))))] := hD
    have hK : va_K (dC, dI) vwCl [(cR, .int), (cA65, .int)] s := hK
    obtain ⟨rfl, rfl, rfl⟩ := hw
    refine W.eq (g2 := F0 m 63 ls []) rfl ?_
    refine lv_aload_n hx hb dX2_enter_63 rfl (lv_at hl 1 rfl) ?_
    refine lv_iload_n hx hb dX2_enter_64 rfl (lv_at hl 0 rfl) ?_
    refine lv_iconst (v := iI 1) hx hb dX2_enter_65 rfl ?_
    refine lv_aload_n hx hb dX2_enter_66 rfl (lv_at hl 1 rfl) ?_
    refine va_get (D := (dC, dI)) (ci := 2) (v := .ref h) (C := RX2) (T := TX2) (N := 5) hx hb hT inX2 hown hK hP 2 rfl rfl 1 (by decide) (hT _ wd104) (fun _ h9 => h9) rfl dX2_enter_67 ?_
    refine va_getN (D := (dC, dI)) (ci := 1) (v := .int (iI tg)) (C := RX1) (T := TX1) (N := 6) hx hb hT inX1 hown hK hP 0 rfl rfl 2 (by decide) (va_Nw.use rfl hN.2.2.1) (fun _ h9 => h9) rfl dX2_enter_70 ?_
    have hPc := hP.sub (ws' := [(nd, .inr (2, [.ref b, .ref h, .ref r64, .int (iI (mn + 1)), .int (iI sx)])), (r64, .inl (cA65, (((min 16384 (2 * (M : Int))) : Int).toNat), .inl (fun j => iI ((vf_upd t66 (mn * 8 + 0).toNat kd) j))))]) [2, 3] rfl
    have hDc := hD.sub (ws' := [(nd, .inr (2, [.ref b, .ref h, .ref r64, .int (iI (mn + 1)), .int (iI sx)])), (r64, .inl (cA65, (((min 16384 (2 * (M : Int))) : Int).toNat), .inl (fun j => iI ((vf_upd t66 (mn * 8 + 0).toNat kd) j))))]) [2, 3] (by decide) rfl
    have hKc := hK.sub (tys' := [(cA65, .int)]) [1] rfl
    have hFc := va_free (wc := [(nd, .inr (2, [.ref b, .ref h, .ref r64, .int (iI (mn + 1)), .int (iI sx)])), (r64, .inl (cA65, (((min 16384 (2 * (M : Int))) : Int).toNat), .inl (fun j => iI ((vf_upd t66 (mn * 8 + 0).toNat kd) j))))]) hD hS hA [2, 3] rfl
    refine mv_call (mv_runV (As := [.int (iI mn), .int (iI 1), .int (iI tg)]) (rest := []) ⟨hx, hb, hml, hown, hT⟩ (c_N_putV l dC dI H.size nd b h r64 (mn + 1) sx cA65 (((min 16384 (2 * (M : Int))) : Int).toNat) (vf_upd t66 (mn * 8 + 0).toNat kd) mn 1 tg (by omega) (by omega) (by omega) (by omega) (by omega)) (cwV 3 hT (gV wd349 wd351 wd9 wd28 wd352) rfl rfl rfl (by decide +kernel) ⟨show 2 + 1 ≤ 3 from by omega, show 8 + (5 + 11) + 70 ≤ 130 from by omega⟩) ⟨fun a U g mk q => by obtain ⟨q0, q1, qP, qK, qD⟩ := q; exact ⟨q0, q1, qP, va_K.moved (u := U) (U := U.calling g mk a) (Vm.Alike.refl U.vm) qK, qD⟩, va_recv hKc hPc (ci := 2) (q0 := 0) rfl rfl, fun U hU hW => ⟨rfl, by rw [hU], by rw [hU]; exact hPc, va_K.moved hW.alike hKc, hDc.weaken (fun _ _ _ _ => trivial)⟩⟩ rfl rfl hl.1 rfl (lv_room (Nat.le_of_ble_eq_true rfl)) dX2_enter_73 ⟨show 0 + 1 + 0 + 0 ≤ (phR M) from by omega, show 0 + ((min 16384 (2 * (M : Int))) : Int).toNat + 0 + 0 ≤ (phR M) from by omega⟩) hS (fun q _ h => hFc q h) hFc (fun v72 u k70 n71 tS H1 locs ht hvm hw hB hz1 hk1 hS => ?_)
    obtain ⟨hP1, hK1, hD1⟩ := hB
    rw [ht] at hP1
    have hK1 := va_K.moved hvm.symm hK1
    try dsimp only at hw
    obtain ⟨hP, hD⟩ := va_join (wr := [(h, .inr (1, [.int (iI kd), .int (iI cs), .int (iI tg), .int (iI op), .int (iI sz1), .int (iI ct)])), (rw, .inl (cR, M, .inl (fun j => iI (V j))))]) (w1 := [(nd, .inr (2, [.ref b, .ref h, .ref r64, .int (iI (mn + 1)), .int (iI sx)])), (r64, .inl (cA65, (((min 16384 (2 * (M : Int))) : Int).toNat), .inl (fun j => iI ((vf_upd (vf_upd t66 (mn * 8 + 0).toNat kd) (mn * 8 + 1).toNat tg) j))))]) hP hD [2, 3] [0, 1] rfl rfl (by decide) (by decide) hk1 hFc hP1 hD1
    have hK := (hK.sub (tys' := [(cR, .int)]) [0] rfl).app hK1
    generalize H1 = H at hP hS ⊢
    have hP : va_P (dC, dI) vwCl [(h, .inr (1, [.int (iI kd), .int (iI cs), .int (iI tg), .int (iI op), .int (iI sz1), .int (iI ct)])), (rw, .inl (cR, M, .inl (fun j => iI (V j)))), (nd, .inr (2, [.ref b, .ref h, .ref r64, .int (iI (mn + 1)), .int (iI sx)])), (r64, .inl (cA65, (((min 16384 (2 * (M : Int))) : Int).toNat), .inl (fun j => iI ((vf_upd (vf_upd t66 (mn * 8 + 0).toNat kd) (mn * 8 + 1).toNat tg) j))))] H := hP
    have hD : va_D A [(h, .inr (1, [.int (iI kd), .int (iI cs), .int (iI tg), .int (iI op), .int (iI sz1), .int (iI ct)])), (rw, .inl (cR, M, .inl (fun j => iI (V j)))), (nd, .inr (2, [.ref b, .ref h, .ref r64, .int (iI (mn + 1)), .int (iI sx)])), (r64, .inl (cA65, (((min 16384 (2 * (M : Int))) : Int).toNat), .inl (fun j => iI ((vf_upd (vf_upd t66 (mn * 8 + 0).toNat kd) (mn * 8 + 1).toNat tg) j))))] := hD
    have hK : va_K (dC, dI) vwCl [(cR, .int), (cA65, .int)] s := hK
    obtain ⟨rfl, rfl, rfl⟩ := hw
    refine W.eq (g2 := F0 m 76 ls []) rfl ?_
    refine lv_aload_n hx hb dX2_enter_76 rfl (lv_at hl 1 rfl) ?_
    refine lv_iload_n hx hb dX2_enter_77 rfl (lv_at hl 0 rfl) ?_
    refine lv_iconst (v := iI 2) hx hb dX2_enter_78 rfl ?_
    refine lv_aload_n hx hb dX2_enter_79 rfl (lv_at hl 1 rfl) ?_
    refine va_get (D := (dC, dI)) (ci := 2) (v := .ref h) (C := RX2) (T := TX2) (N := 5) hx hb hT inX2 hown hK hP 2 rfl rfl 1 (by decide) (hT _ wd104) (fun _ h9 => h9) rfl dX2_enter_80 ?_
    refine va_getN (D := (dC, dI)) (ci := 1) (v := .int (iI cs)) (C := RX1) (T := TX1) (N := 6) hx hb hT inX1 hown hK hP 0 rfl rfl 1 (by decide) (va_Nw.use rfl hN.2.1) (fun _ h9 => h9) rfl dX2_enter_83 ?_
    refine li_if_eq (tgt := 93) hx hb (by omega) dX2_enter_86 (by decide) (fun c73 => ?_) (fun c73 => ?_)
    · skip
      refine lv_iconst (v := iI 0) hx hb dX2_enter_93 rfl ?_
      refine li_re (show (0 : Int) = cs by omega) ?_
      have hPc := hP.sub (ws' := [(nd, .inr (2, [.ref b, .ref h, .ref r64, .int (iI (mn + 1)), .int (iI sx)])), (r64, .inl (cA65, (((min 16384 (2 * (M : Int))) : Int).toNat), .inl (fun j => iI ((vf_upd (vf_upd t66 (mn * 8 + 0).toNat kd) (mn * 8 + 1).toNat tg) j))))]) [2, 3] rfl
      have hDc := hD.sub (ws' := [(nd, .inr (2, [.ref b, .ref h, .ref r64, .int (iI (mn + 1)), .int (iI sx)])), (r64, .inl (cA65, (((min 16384 (2 * (M : Int))) : Int).toNat), .inl (fun j => iI ((vf_upd (vf_upd t66 (mn * 8 + 0).toNat kd) (mn * 8 + 1).toNat tg) j))))]) [2, 3] (by decide) rfl
      have hKc := hK.sub (tys' := [(cA65, .int)]) [1] rfl
      have hFc := va_free (wc := [(nd, .inr (2, [.ref b, .ref h, .ref r64, .int (iI (mn + 1)), .int (iI sx)])), (r64, .inl (cA65, (((min 16384 (2 * (M : Int))) : Int).toNat), .inl (fun j => iI ((vf_upd (vf_upd t66 (mn * 8 + 0).toNat kd) (mn * 8 + 1).toNat tg) j))))]) hD hS hA [2, 3] rfl
      refine mv_call (mv_runV (As := [.int (iI mn), .int (iI 2), .int (iI cs)]) (rest := []) ⟨hx, hb, hml, hown, hT⟩ (c_N_putV l dC dI H.size nd b h r64 (mn + 1) sx cA65 (((min 16384 (2 * (M : Int))) : Int).toNat) (vf_upd (vf_upd t66 (mn * 8 + 0).toNat kd) (mn * 8 + 1).toNat tg) mn 2 cs (by omega) (by omega) (by omega) (by omega) (by omega)) (cwV 3 hT (gV wd349 wd351 wd9 wd28 wd352) rfl rfl rfl (by decide +kernel) ⟨show 2 + 1 ≤ 3 from by omega, show 8 + (5 + 11) + 70 ≤ 130 from by omega⟩) ⟨fun a U g mk q => by obtain ⟨q0, q1, qP, qK, qD⟩ := q; exact ⟨q0, q1, qP, va_K.moved (u := U) (U := U.calling g mk a) (Vm.Alike.refl U.vm) qK, qD⟩, va_recv hKc hPc (ci := 2) (q0 := 0) rfl rfl, fun U hU hW => ⟨rfl, by rw [hU], by rw [hU]; exact hPc, va_K.moved hW.alike hKc, hDc.weaken (fun _ _ _ _ => trivial)⟩⟩ rfl rfl hl.1 rfl (lv_room (Nat.le_of_ble_eq_true rfl)) dX2_enter_94 ⟨show 0 + 1 + 0 + 0 + 0 ≤ (phR M) from by omega, show 0 + ((min 16384 (2 * (M : Int))) : Int).toNat + 0 + 0 + 0 ≤ (phR M) from by omega⟩) hS (fun q _ h => hFc q h) hFc (fun v76 u k74 n75 tS H1 locs ht hvm hw hB hz1 hk1 hS => ?_)
      obtain ⟨hP1, hK1, hD1⟩ := hB
      rw [ht] at hP1
      have hK1 := va_K.moved hvm.symm hK1
      try dsimp only at hw
      obtain ⟨hP, hD⟩ := va_join (wr := [(h, .inr (1, [.int (iI kd), .int (iI cs), .int (iI tg), .int (iI op), .int (iI sz1), .int (iI ct)])), (rw, .inl (cR, M, .inl (fun j => iI (V j))))]) (w1 := [(nd, .inr (2, [.ref b, .ref h, .ref r64, .int (iI (mn + 1)), .int (iI sx)])), (r64, .inl (cA65, (((min 16384 (2 * (M : Int))) : Int).toNat), .inl (fun j => iI ((vf_upd (vf_upd (vf_upd t66 (mn * 8 + 0).toNat kd) (mn * 8 + 1).toNat tg) (mn * 8 + 2).toNat cs) j))))]) hP hD [2, 3] [0, 1] rfl rfl (by decide) (by decide) hk1 hFc hP1 hD1
      have hK := (hK.sub (tys' := [(cR, .int)]) [0] rfl).app hK1
      generalize H1 = H at hP hS ⊢
      have hP : va_P (dC, dI) vwCl [(h, .inr (1, [.int (iI kd), .int (iI cs), .int (iI tg), .int (iI op), .int (iI sz1), .int (iI ct)])), (rw, .inl (cR, M, .inl (fun j => iI (V j)))), (nd, .inr (2, [.ref b, .ref h, .ref r64, .int (iI (mn + 1)), .int (iI sx)])), (r64, .inl (cA65, (((min 16384 (2 * (M : Int))) : Int).toNat), .inl (fun j => iI ((vf_upd (vf_upd (vf_upd t66 (mn * 8 + 0).toNat kd) (mn * 8 + 1).toNat tg) (mn * 8 + 2).toNat cs) j))))] H := hP
      have hD : va_D A [(h, .inr (1, [.int (iI kd), .int (iI cs), .int (iI tg), .int (iI op), .int (iI sz1), .int (iI ct)])), (rw, .inl (cR, M, .inl (fun j => iI (V j)))), (nd, .inr (2, [.ref b, .ref h, .ref r64, .int (iI (mn + 1)), .int (iI sx)])), (r64, .inl (cA65, (((min 16384 (2 * (M : Int))) : Int).toNat), .inl (fun j => iI ((vf_upd (vf_upd (vf_upd t66 (mn * 8 + 0).toNat kd) (mn * 8 + 1).toNat tg) (mn * 8 + 2).toNat cs) j))))] := hD
      have hK : va_K (dC, dI) vwCl [(cR, .int), (cA65, .int)] s := hK
      obtain ⟨rfl, rfl, rfl⟩ := hw
      refine W.eq (g2 := F0 m 97 ls []) rfl ?_
      refine lv_aload_n hx hb dX2_enter_97 rfl (lv_at hl 1 rfl) ?_
      refine lv_iload_n hx hb dX2_enter_98 rfl (lv_at hl 0 rfl) ?_
      refine lv_iconst (v := iI 3) hx hb dX2_enter_99 rfl ?_
      refine lv_iload_n hx hb dX2_enter_100 rfl (lv_at hl 2 rfl) ?_
      have hPc := hP.sub (ws' := [(nd, .inr (2, [.ref b, .ref h, .ref r64, .int (iI (mn + 1)), .int (iI sx)])), (r64, .inl (cA65, (((min 16384 (2 * (M : Int))) : Int).toNat), .inl (fun j => iI ((vf_upd (vf_upd (vf_upd t66 (mn * 8 + 0).toNat kd) (mn * 8 + 1).toNat tg) (mn * 8 + 2).toNat cs) j))))]) [2, 3] rfl
      have hDc := hD.sub (ws' := [(nd, .inr (2, [.ref b, .ref h, .ref r64, .int (iI (mn + 1)), .int (iI sx)])), (r64, .inl (cA65, (((min 16384 (2 * (M : Int))) : Int).toNat), .inl (fun j => iI ((vf_upd (vf_upd (vf_upd t66 (mn * 8 + 0).toNat kd) (mn * 8 + 1).toNat tg) (mn * 8 + 2).toNat cs) j))))]) [2, 3] (by decide) rfl
      have hKc := hK.sub (tys' := [(cA65, .int)]) [1] rfl
      have hFc := va_free (wc := [(nd, .inr (2, [.ref b, .ref h, .ref r64, .int (iI (mn + 1)), .int (iI sx)])), (r64, .inl (cA65, (((min 16384 (2 * (M : Int))) : Int).toNat), .inl (fun j => iI ((vf_upd (vf_upd (vf_upd t66 (mn * 8 + 0).toNat kd) (mn * 8 + 1).toNat tg) (mn * 8 + 2).toNat cs) j))))]) hD hS hA [2, 3] rfl
      refine mv_call (mv_runV (As := [.int (iI mn), .int (iI 3), .int (iI i)]) (rest := []) ⟨hx, hb, hml, hown, hT⟩ (c_N_putV l dC dI H.size nd b h r64 (mn + 1) sx cA65 (((min 16384 (2 * (M : Int))) : Int).toNat) (vf_upd (vf_upd (vf_upd t66 (mn * 8 + 0).toNat kd) (mn * 8 + 1).toNat tg) (mn * 8 + 2).toNat cs) mn 3 i (by omega) (by omega) (by omega) (by omega) (by omega)) (cwV 3 hT (gV wd349 wd351 wd9 wd28 wd352) rfl rfl rfl (by decide +kernel) ⟨show 2 + 1 ≤ 3 from by omega, show 8 + (5 + 11) + 70 ≤ 130 from by omega⟩) ⟨fun a U g mk q => by obtain ⟨q0, q1, qP, qK, qD⟩ := q; exact ⟨q0, q1, qP, va_K.moved (u := U) (U := U.calling g mk a) (Vm.Alike.refl U.vm) qK, qD⟩, va_recv hKc hPc (ci := 2) (q0 := 0) rfl rfl, fun U hU hW => ⟨rfl, by rw [hU], by rw [hU]; exact hPc, va_K.moved hW.alike hKc, hDc.weaken (fun _ _ _ _ => trivial)⟩⟩ rfl rfl hl.1 rfl (lv_room (Nat.le_of_ble_eq_true rfl)) dX2_enter_101 ⟨show 0 + 1 + 0 + 0 + 0 + 0 ≤ (phR M) from by omega, show 0 + ((min 16384 (2 * (M : Int))) : Int).toNat + 0 + 0 + 0 + 0 ≤ (phR M) from by omega⟩) hS (fun q _ h => hFc q h) hFc (fun v79 u k77 n78 tS H1 locs ht hvm hw hB hz1 hk1 hS => ?_)
      obtain ⟨hP1, hK1, hD1⟩ := hB
      rw [ht] at hP1
      have hK1 := va_K.moved hvm.symm hK1
      try dsimp only at hw
      obtain ⟨hP, hD⟩ := va_join (wr := [(h, .inr (1, [.int (iI kd), .int (iI cs), .int (iI tg), .int (iI op), .int (iI sz1), .int (iI ct)])), (rw, .inl (cR, M, .inl (fun j => iI (V j))))]) (w1 := [(nd, .inr (2, [.ref b, .ref h, .ref r64, .int (iI (mn + 1)), .int (iI sx)])), (r64, .inl (cA65, (((min 16384 (2 * (M : Int))) : Int).toNat), .inl (fun j => iI ((vf_upd (vf_upd (vf_upd (vf_upd t66 (mn * 8 + 0).toNat kd) (mn * 8 + 1).toNat tg) (mn * 8 + 2).toNat cs) (mn * 8 + 3).toNat i) j))))]) hP hD [2, 3] [0, 1] rfl rfl (by decide) (by decide) hk1 hFc hP1 hD1
      have hK := (hK.sub (tys' := [(cR, .int)]) [0] rfl).app hK1
      generalize H1 = H at hP hS ⊢
      have hP : va_P (dC, dI) vwCl [(h, .inr (1, [.int (iI kd), .int (iI cs), .int (iI tg), .int (iI op), .int (iI sz1), .int (iI ct)])), (rw, .inl (cR, M, .inl (fun j => iI (V j)))), (nd, .inr (2, [.ref b, .ref h, .ref r64, .int (iI (mn + 1)), .int (iI sx)])), (r64, .inl (cA65, (((min 16384 (2 * (M : Int))) : Int).toNat), .inl (fun j => iI ((vf_upd (vf_upd (vf_upd (vf_upd t66 (mn * 8 + 0).toNat kd) (mn * 8 + 1).toNat tg) (mn * 8 + 2).toNat cs) (mn * 8 + 3).toNat i) j))))] H := hP
      have hD : va_D A [(h, .inr (1, [.int (iI kd), .int (iI cs), .int (iI tg), .int (iI op), .int (iI sz1), .int (iI ct)])), (rw, .inl (cR, M, .inl (fun j => iI (V j)))), (nd, .inr (2, [.ref b, .ref h, .ref r64, .int (iI (mn + 1)), .int (iI sx)])), (r64, .inl (cA65, (((min 16384 (2 * (M : Int))) : Int).toNat), .inl (fun j => iI ((vf_upd (vf_upd (vf_upd (vf_upd t66 (mn * 8 + 0).toNat kd) (mn * 8 + 1).toNat tg) (mn * 8 + 2).toNat cs) (mn * 8 + 3).toNat i) j))))] := hD
      have hK : va_K (dC, dI) vwCl [(cR, .int), (cA65, .int)] s := hK
      obtain ⟨rfl, rfl, rfl⟩ := hw
      refine W.eq (g2 := F0 m 104 ls []) rfl ?_
      refine lv_aload_n hx hb dX2_enter_104 rfl (lv_at hl 1 rfl) ?_
      refine lv_iload_n hx hb dX2_enter_105 rfl (lv_at hl 0 rfl) ?_
      refine lv_iconst (v := iI 4) hx hb dX2_enter_106 rfl ?_
      refine lv_aload_n hx hb dX2_enter_107 rfl (lv_at hl 1 rfl) ?_
      refine va_get (D := (dC, dI)) (ci := 2) (v := .ref h) (C := RX2) (T := TX2) (N := 5) hx hb hT inX2 hown hK hP 2 rfl rfl 1 (by decide) (hT _ wd104) (fun _ h9 => h9) rfl dX2_enter_108 ?_
      refine va_getN (D := (dC, dI)) (ci := 1) (v := .int (iI ct)) (C := RX1) (T := TX1) (N := 6) hx hb hT inX1 hown hK hP 0 rfl rfl 5 (by decide) (va_Nw.use rfl hN.2.2.2.2.2) (fun _ h9 => h9) rfl dX2_enter_111 ?_
      have hPc := hP.sub (ws' := [(nd, .inr (2, [.ref b, .ref h, .ref r64, .int (iI (mn + 1)), .int (iI sx)])), (r64, .inl (cA65, (((min 16384 (2 * (M : Int))) : Int).toNat), .inl (fun j => iI ((vf_upd (vf_upd (vf_upd (vf_upd t66 (mn * 8 + 0).toNat kd) (mn * 8 + 1).toNat tg) (mn * 8 + 2).toNat cs) (mn * 8 + 3).toNat i) j))))]) [2, 3] rfl
      have hDc := hD.sub (ws' := [(nd, .inr (2, [.ref b, .ref h, .ref r64, .int (iI (mn + 1)), .int (iI sx)])), (r64, .inl (cA65, (((min 16384 (2 * (M : Int))) : Int).toNat), .inl (fun j => iI ((vf_upd (vf_upd (vf_upd (vf_upd t66 (mn * 8 + 0).toNat kd) (mn * 8 + 1).toNat tg) (mn * 8 + 2).toNat cs) (mn * 8 + 3).toNat i) j))))]) [2, 3] (by decide) rfl
      have hKc := hK.sub (tys' := [(cA65, .int)]) [1] rfl
      have hFc := va_free (wc := [(nd, .inr (2, [.ref b, .ref h, .ref r64, .int (iI (mn + 1)), .int (iI sx)])), (r64, .inl (cA65, (((min 16384 (2 * (M : Int))) : Int).toNat), .inl (fun j => iI ((vf_upd (vf_upd (vf_upd (vf_upd t66 (mn * 8 + 0).toNat kd) (mn * 8 + 1).toNat tg) (mn * 8 + 2).toNat cs) (mn * 8 + 3).toNat i) j))))]) hD hS hA [2, 3] rfl
      refine mv_call (mv_runV (As := [.int (iI mn), .int (iI 4), .int (iI ct)]) (rest := []) ⟨hx, hb, hml, hown, hT⟩ (c_N_putV l dC dI H.size nd b h r64 (mn + 1) sx cA65 (((min 16384 (2 * (M : Int))) : Int).toNat) (vf_upd (vf_upd (vf_upd (vf_upd t66 (mn * 8 + 0).toNat kd) (mn * 8 + 1).toNat tg) (mn * 8 + 2).toNat cs) (mn * 8 + 3).toNat i) mn 4 ct (by omega) (by omega) (by omega) (by omega) (by omega)) (cwV 3 hT (gV wd349 wd351 wd9 wd28 wd352) rfl rfl rfl (by decide +kernel) ⟨show 2 + 1 ≤ 3 from by omega, show 8 + (5 + 11) + 70 ≤ 130 from by omega⟩) ⟨fun a U g mk q => by obtain ⟨q0, q1, qP, qK, qD⟩ := q; exact ⟨q0, q1, qP, va_K.moved (u := U) (U := U.calling g mk a) (Vm.Alike.refl U.vm) qK, qD⟩, va_recv hKc hPc (ci := 2) (q0 := 0) rfl rfl, fun U hU hW => ⟨rfl, by rw [hU], by rw [hU]; exact hPc, va_K.moved hW.alike hKc, hDc.weaken (fun _ _ _ _ => trivial)⟩⟩ rfl rfl hl.1 rfl (lv_room (Nat.le_of_ble_eq_true rfl)) dX2_enter_114 ⟨show 0 + 1 + 0 + 0 + 0 + 0 + 0 ≤ (phR M) from by omega, show 0 + ((min 16384 (2 * (M : Int))) : Int).toNat + 0 + 0 + 0 + 0 + 0 ≤ (phR M) from by omega⟩) hS (fun q _ h => hFc q h) hFc (fun v82 u k80 n81 tS H1 locs ht hvm hw hB hz1 hk1 hS => ?_)
      obtain ⟨hP1, hK1, hD1⟩ := hB
      rw [ht] at hP1
      have hK1 := va_K.moved hvm.symm hK1
      try dsimp only at hw
      obtain ⟨hP, hD⟩ := va_join (wr := [(h, .inr (1, [.int (iI kd), .int (iI cs), .int (iI tg), .int (iI op), .int (iI sz1), .int (iI ct)])), (rw, .inl (cR, M, .inl (fun j => iI (V j))))]) (w1 := [(nd, .inr (2, [.ref b, .ref h, .ref r64, .int (iI (mn + 1)), .int (iI sx)])), (r64, .inl (cA65, (((min 16384 (2 * (M : Int))) : Int).toNat), .inl (fun j => iI ((vf_upd (vf_upd (vf_upd (vf_upd (vf_upd t66 (mn * 8 + 0).toNat kd) (mn * 8 + 1).toNat tg) (mn * 8 + 2).toNat cs) (mn * 8 + 3).toNat i) (mn * 8 + 4).toNat ct) j))))]) hP hD [2, 3] [0, 1] rfl rfl (by decide) (by decide) hk1 hFc hP1 hD1
      have hK := (hK.sub (tys' := [(cR, .int)]) [0] rfl).app hK1
      generalize H1 = H at hP hS ⊢
      have hP : va_P (dC, dI) vwCl [(h, .inr (1, [.int (iI kd), .int (iI cs), .int (iI tg), .int (iI op), .int (iI sz1), .int (iI ct)])), (rw, .inl (cR, M, .inl (fun j => iI (V j)))), (nd, .inr (2, [.ref b, .ref h, .ref r64, .int (iI (mn + 1)), .int (iI sx)])), (r64, .inl (cA65, (((min 16384 (2 * (M : Int))) : Int).toNat), .inl (fun j => iI ((vf_upd (vf_upd (vf_upd (vf_upd (vf_upd t66 (mn * 8 + 0).toNat kd) (mn * 8 + 1).toNat tg) (mn * 8 + 2).toNat cs) (mn * 8 + 3).toNat i) (mn * 8 + 4).toNat ct) j))))] H := hP
      have hD : va_D A [(h, .inr (1, [.int (iI kd), .int (iI cs), .int (iI tg), .int (iI op), .int (iI sz1), .int (iI ct)])), (rw, .inl (cR, M, .inl (fun j => iI (V j)))), (nd, .inr (2, [.ref b, .ref h, .ref r64, .int (iI (mn + 1)), .int (iI sx)])), (r64, .inl (cA65, (((min 16384 (2 * (M : Int))) : Int).toNat), .inl (fun j => iI ((vf_upd (vf_upd (vf_upd (vf_upd (vf_upd t66 (mn * 8 + 0).toNat kd) (mn * 8 + 1).toNat tg) (mn * 8 + 2).toNat cs) (mn * 8 + 3).toNat i) (mn * 8 + 4).toNat ct) j))))] := hD
      have hK : va_K (dC, dI) vwCl [(cR, .int), (cA65, .int)] s := hK
      obtain ⟨rfl, rfl, rfl⟩ := hw
      refine W.eq (g2 := F0 m 117 ls []) rfl ?_
      refine lv_aload_n hx hb dX2_enter_117 rfl (lv_at hl 1 rfl) ?_
      refine lv_iload_n hx hb dX2_enter_118 rfl (lv_at hl 0 rfl) ?_
      refine lv_iconst (v := iI 5) hx hb dX2_enter_119 rfl ?_
      refine lv_aload_n hx hb dX2_enter_120 rfl (lv_at hl 1 rfl) ?_
      refine va_get (D := (dC, dI)) (ci := 2) (v := .ref h) (C := RX2) (T := TX2) (N := 5) hx hb hT inX2 hown hK hP 2 rfl rfl 1 (by decide) (hT _ wd104) (fun _ h9 => h9) rfl dX2_enter_121 ?_
      refine va_getN (D := (dC, dI)) (ci := 1) (v := .int (iI sz1)) (C := RX1) (T := TX1) (N := 6) hx hb hT inX1 hown hK hP 0 rfl rfl 4 (by decide) (va_Nw.use rfl hN.2.2.2.2.1) (fun _ h9 => h9) rfl dX2_enter_124 ?_
      have hPc := hP.sub (ws' := [(nd, .inr (2, [.ref b, .ref h, .ref r64, .int (iI (mn + 1)), .int (iI sx)])), (r64, .inl (cA65, (((min 16384 (2 * (M : Int))) : Int).toNat), .inl (fun j => iI ((vf_upd (vf_upd (vf_upd (vf_upd (vf_upd t66 (mn * 8 + 0).toNat kd) (mn * 8 + 1).toNat tg) (mn * 8 + 2).toNat cs) (mn * 8 + 3).toNat i) (mn * 8 + 4).toNat ct) j))))]) [2, 3] rfl
      have hDc := hD.sub (ws' := [(nd, .inr (2, [.ref b, .ref h, .ref r64, .int (iI (mn + 1)), .int (iI sx)])), (r64, .inl (cA65, (((min 16384 (2 * (M : Int))) : Int).toNat), .inl (fun j => iI ((vf_upd (vf_upd (vf_upd (vf_upd (vf_upd t66 (mn * 8 + 0).toNat kd) (mn * 8 + 1).toNat tg) (mn * 8 + 2).toNat cs) (mn * 8 + 3).toNat i) (mn * 8 + 4).toNat ct) j))))]) [2, 3] (by decide) rfl
      have hKc := hK.sub (tys' := [(cA65, .int)]) [1] rfl
      have hFc := va_free (wc := [(nd, .inr (2, [.ref b, .ref h, .ref r64, .int (iI (mn + 1)), .int (iI sx)])), (r64, .inl (cA65, (((min 16384 (2 * (M : Int))) : Int).toNat), .inl (fun j => iI ((vf_upd (vf_upd (vf_upd (vf_upd (vf_upd t66 (mn * 8 + 0).toNat kd) (mn * 8 + 1).toNat tg) (mn * 8 + 2).toNat cs) (mn * 8 + 3).toNat i) (mn * 8 + 4).toNat ct) j))))]) hD hS hA [2, 3] rfl
      refine mv_call (mv_runV (As := [.int (iI mn), .int (iI 5), .int (iI sz1)]) (rest := []) ⟨hx, hb, hml, hown, hT⟩ (c_N_putV l dC dI H.size nd b h r64 (mn + 1) sx cA65 (((min 16384 (2 * (M : Int))) : Int).toNat) (vf_upd (vf_upd (vf_upd (vf_upd (vf_upd t66 (mn * 8 + 0).toNat kd) (mn * 8 + 1).toNat tg) (mn * 8 + 2).toNat cs) (mn * 8 + 3).toNat i) (mn * 8 + 4).toNat ct) mn 5 sz1 (by omega) (by omega) (by omega) (by omega) (by omega)) (cwV 3 hT (gV wd349 wd351 wd9 wd28 wd352) rfl rfl rfl (by decide +kernel) ⟨show 2 + 1 ≤ 3 from by omega, show 8 + (5 + 11) + 70 ≤ 130 from by omega⟩) ⟨fun a U g mk q => by obtain ⟨q0, q1, qP, qK, qD⟩ := q; exact ⟨q0, q1, qP, va_K.moved (u := U) (U := U.calling g mk a) (Vm.Alike.refl U.vm) qK, qD⟩, va_recv hKc hPc (ci := 2) (q0 := 0) rfl rfl, fun U hU hW => ⟨rfl, by rw [hU], by rw [hU]; exact hPc, va_K.moved hW.alike hKc, hDc.weaken (fun _ _ _ _ => trivial)⟩⟩ rfl rfl hl.1 rfl (lv_room (Nat.le_of_ble_eq_true rfl)) dX2_enter_127 ⟨show 0 + 1 + 0 + 0 + 0 + 0 + 0 + 0 ≤ (phR M) from by omega, show 0 + ((min 16384 (2 * (M : Int))) : Int).toNat + 0 + 0 + 0 + 0 + 0 + 0 ≤ (phR M) from by omega⟩) hS (fun q _ h => hFc q h) hFc (fun v85 u k83 n84 tS H1 locs ht hvm hw hB hz1 hk1 hS => ?_)
      obtain ⟨hP1, hK1, hD1⟩ := hB
      rw [ht] at hP1
      have hK1 := va_K.moved hvm.symm hK1
      try dsimp only at hw
      obtain ⟨hP, hD⟩ := va_join (wr := [(h, .inr (1, [.int (iI kd), .int (iI cs), .int (iI tg), .int (iI op), .int (iI sz1), .int (iI ct)])), (rw, .inl (cR, M, .inl (fun j => iI (V j))))]) (w1 := [(nd, .inr (2, [.ref b, .ref h, .ref r64, .int (iI (mn + 1)), .int (iI sx)])), (r64, .inl (cA65, (((min 16384 (2 * (M : Int))) : Int).toNat), .inl (fun j => iI ((vf_upd (vf_upd (vf_upd (vf_upd (vf_upd (vf_upd t66 (mn * 8 + 0).toNat kd) (mn * 8 + 1).toNat tg) (mn * 8 + 2).toNat cs) (mn * 8 + 3).toNat i) (mn * 8 + 4).toNat ct) (mn * 8 + 5).toNat sz1) j))))]) hP hD [2, 3] [0, 1] rfl rfl (by decide) (by decide) hk1 hFc hP1 hD1
      have hK := (hK.sub (tys' := [(cR, .int)]) [0] rfl).app hK1
      generalize H1 = H at hP hS ⊢
      have hP : va_P (dC, dI) vwCl [(h, .inr (1, [.int (iI kd), .int (iI cs), .int (iI tg), .int (iI op), .int (iI sz1), .int (iI ct)])), (rw, .inl (cR, M, .inl (fun j => iI (V j)))), (nd, .inr (2, [.ref b, .ref h, .ref r64, .int (iI (mn + 1)), .int (iI sx)])), (r64, .inl (cA65, (((min 16384 (2 * (M : Int))) : Int).toNat), .inl (fun j => iI ((vf_upd (vf_upd (vf_upd (vf_upd (vf_upd (vf_upd t66 (mn * 8 + 0).toNat kd) (mn * 8 + 1).toNat tg) (mn * 8 + 2).toNat cs) (mn * 8 + 3).toNat i) (mn * 8 + 4).toNat ct) (mn * 8 + 5).toNat sz1) j))))] H := hP
      have hD : va_D A [(h, .inr (1, [.int (iI kd), .int (iI cs), .int (iI tg), .int (iI op), .int (iI sz1), .int (iI ct)])), (rw, .inl (cR, M, .inl (fun j => iI (V j)))), (nd, .inr (2, [.ref b, .ref h, .ref r64, .int (iI (mn + 1)), .int (iI sx)])), (r64, .inl (cA65, (((min 16384 (2 * (M : Int))) : Int).toNat), .inl (fun j => iI ((vf_upd (vf_upd (vf_upd (vf_upd (vf_upd (vf_upd t66 (mn * 8 + 0).toNat kd) (mn * 8 + 1).toNat tg) (mn * 8 + 2).toNat cs) (mn * 8 + 3).toNat i) (mn * 8 + 4).toNat ct) (mn * 8 + 5).toNat sz1) j))))] := hD
      have hK : va_K (dC, dI) vwCl [(cR, .int), (cA65, .int)] s := hK
      obtain ⟨rfl, rfl, rfl⟩ := hw
      refine W.eq (g2 := F0 m 130 ls []) rfl ?_
      refine lv_aload_n hx hb dX2_enter_130 rfl (lv_at hl 1 rfl) ?_
      refine lv_iload_n hx hb dX2_enter_131 rfl (lv_at hl 0 rfl) ?_
      refine lv_bipush (v := iI 6) hx hb dX2_enter_132 (by decide +kernel) ?_
      refine lv_iload_n hx hb dX2_enter_134 rfl (lv_at hl 3 rfl) ?_
      have hPc := hP.sub (ws' := [(nd, .inr (2, [.ref b, .ref h, .ref r64, .int (iI (mn + 1)), .int (iI sx)])), (r64, .inl (cA65, (((min 16384 (2 * (M : Int))) : Int).toNat), .inl (fun j => iI ((vf_upd (vf_upd (vf_upd (vf_upd (vf_upd (vf_upd t66 (mn * 8 + 0).toNat kd) (mn * 8 + 1).toNat tg) (mn * 8 + 2).toNat cs) (mn * 8 + 3).toNat i) (mn * 8 + 4).toNat ct) (mn * 8 + 5).toNat sz1) j))))]) [2, 3] rfl
      have hDc := hD.sub (ws' := [(nd, .inr (2, [.ref b, .ref h, .ref r64, .int (iI (mn + 1)), .int (iI sx)])), (r64, .inl (cA65, (((min 16384 (2 * (M : Int))) : Int).toNat), .inl (fun j => iI ((vf_upd (vf_upd (vf_upd (vf_upd (vf_upd (vf_upd t66 (mn * 8 + 0).toNat kd) (mn * 8 + 1).toNat tg) (mn * 8 + 2).toNat cs) (mn * 8 + 3).toNat i) (mn * 8 + 4).toNat ct) (mn * 8 + 5).toNat sz1) j))))]) [2, 3] (by decide) rfl
      have hKc := hK.sub (tys' := [(cA65, .int)]) [1] rfl
      have hFc := va_free (wc := [(nd, .inr (2, [.ref b, .ref h, .ref r64, .int (iI (mn + 1)), .int (iI sx)])), (r64, .inl (cA65, (((min 16384 (2 * (M : Int))) : Int).toNat), .inl (fun j => iI ((vf_upd (vf_upd (vf_upd (vf_upd (vf_upd (vf_upd t66 (mn * 8 + 0).toNat kd) (mn * 8 + 1).toNat tg) (mn * 8 + 2).toNat cs) (mn * 8 + 3).toNat i) (mn * 8 + 4).toNat ct) (mn * 8 + 5).toNat sz1) j))))]) hD hS hA [2, 3] rfl
      refine mv_call (mv_runV (As := [.int (iI mn), .int (iI 6), .int (iI pr)]) (rest := []) ⟨hx, hb, hml, hown, hT⟩ (c_N_putV l dC dI H.size nd b h r64 (mn + 1) sx cA65 (((min 16384 (2 * (M : Int))) : Int).toNat) (vf_upd (vf_upd (vf_upd (vf_upd (vf_upd (vf_upd t66 (mn * 8 + 0).toNat kd) (mn * 8 + 1).toNat tg) (mn * 8 + 2).toNat cs) (mn * 8 + 3).toNat i) (mn * 8 + 4).toNat ct) (mn * 8 + 5).toNat sz1) mn 6 pr (by omega) (by omega) (by omega) (by omega) (by omega)) (cwV 3 hT (gV wd349 wd351 wd9 wd28 wd352) rfl rfl rfl (by decide +kernel) ⟨show 2 + 1 ≤ 3 from by omega, show 8 + (5 + 11) + 70 ≤ 130 from by omega⟩) ⟨fun a U g mk q => by obtain ⟨q0, q1, qP, qK, qD⟩ := q; exact ⟨q0, q1, qP, va_K.moved (u := U) (U := U.calling g mk a) (Vm.Alike.refl U.vm) qK, qD⟩, va_recv hKc hPc (ci := 2) (q0 := 0) rfl rfl, fun U hU hW => ⟨rfl, by rw [hU], by rw [hU]; exact hPc, va_K.moved hW.alike hKc, hDc.weaken (fun _ _ _ _ => trivial)⟩⟩ rfl rfl hl.1 rfl (lv_room (Nat.le_of_ble_eq_true rfl)) dX2_enter_135 ⟨show 0 + 1 + 0 + 0 + 0 + 0 + 0 + 0 + 0 ≤ (phR M) from by omega, show 0 + ((min 16384 (2 * (M : Int))) : Int).toNat + 0 + 0 + 0 + 0 + 0 + 0 + 0 ≤ (phR M) from by omega⟩) hS (fun q _ h => hFc q h) hFc (fun v88 u k86 n87 tS H1 locs ht hvm hw hB hz1 hk1 hS => ?_)
      obtain ⟨hP1, hK1, hD1⟩ := hB
      rw [ht] at hP1
      have hK1 := va_K.moved hvm.symm hK1
      try dsimp only at hw
      obtain ⟨hP, hD⟩ := va_join (wr := [(h, .inr (1, [.int (iI kd), .int (iI cs), .int (iI tg), .int (iI op), .int (iI sz1), .int (iI ct)])), (rw, .inl (cR, M, .inl (fun j => iI (V j))))]) (w1 := [(nd, .inr (2, [.ref b, .ref h, .ref r64, .int (iI (mn + 1)), .int (iI sx)])), (r64, .inl (cA65, (((min 16384 (2 * (M : Int))) : Int).toNat), .inl (fun j => iI ((vf_upd (vf_upd (vf_upd (vf_upd (vf_upd (vf_upd (vf_upd t66 (mn * 8 + 0).toNat kd) (mn * 8 + 1).toNat tg) (mn * 8 + 2).toNat cs) (mn * 8 + 3).toNat i) (mn * 8 + 4).toNat ct) (mn * 8 + 5).toNat sz1) (mn * 8 + 6).toNat pr) j))))]) hP hD [2, 3] [0, 1] rfl rfl (by decide) (by decide) hk1 hFc hP1 hD1
      have hK := (hK.sub (tys' := [(cR, .int)]) [0] rfl).app hK1
      generalize H1 = H at hP hS ⊢
      have hP : va_P (dC, dI) vwCl [(h, .inr (1, [.int (iI kd), .int (iI cs), .int (iI tg), .int (iI op), .int (iI sz1), .int (iI ct)])), (rw, .inl (cR, M, .inl (fun j => iI (V j)))), (nd, .inr (2, [.ref b, .ref h, .ref r64, .int (iI (mn + 1)), .int (iI sx)])), (r64, .inl (cA65, (((min 16384 (2 * (M : Int))) : Int).toNat), .inl (fun j => iI ((vf_upd (vf_upd (vf_upd (vf_upd (vf_upd (vf_upd (vf_upd t66 (mn * 8 + 0).toNat kd) (mn * 8 + 1).toNat tg) (mn * 8 + 2).toNat cs) (mn * 8 + 3).toNat i) (mn * 8 + 4).toNat ct) (mn * 8 + 5).toNat sz1) (mn * 8 + 6).toNat pr) j))))] H := hP
      have hD : va_D A [(h, .inr (1, [.int (iI kd), .int (iI cs), .int (iI tg), .int (iI op), .int (iI sz1), .int (iI ct)])), (rw, .inl (cR, M, .inl (fun j => iI (V j)))), (nd, .inr (2, [.ref b, .ref h, .ref r64, .int (iI (mn + 1)), .int (iI sx)])), (r64, .inl (cA65, (((min 16384 (2 * (M : Int))) : Int).toNat), .inl (fun j => iI ((vf_upd (vf_upd (vf_upd (vf_upd (vf_upd (vf_upd (vf_upd t66 (mn * 8 + 0).toNat kd) (mn * 8 + 1).toNat tg) (mn * 8 + 2).toNat cs) (mn * 8 + 3).toNat i) (mn * 8 + 4).toNat ct) (mn * 8 + 5).toNat sz1) (mn * 8 + 6).toNat pr) j))))] := hD
      have hK : va_K (dC, dI) vwCl [(cR, .int), (cA65, .int)] s := hK
      obtain ⟨rfl, rfl, rfl⟩ := hw
      refine W.eq (g2 := F0 m 138 ls []) rfl ?_
      refine lv_aload_n hx hb dX2_enter_138 rfl (lv_at hl 1 rfl) ?_
      refine lv_iload_n hx hb dX2_enter_139 rfl (lv_at hl 0 rfl) ?_
      refine lv_bipush (v := iI 7) hx hb dX2_enter_140 (by decide +kernel) ?_
      refine lv_iconst (v := iI 0) hx hb dX2_enter_142 rfl ?_
      have hPc := hP.sub (ws' := [(nd, .inr (2, [.ref b, .ref h, .ref r64, .int (iI (mn + 1)), .int (iI sx)])), (r64, .inl (cA65, (((min 16384 (2 * (M : Int))) : Int).toNat), .inl (fun j => iI ((vf_upd (vf_upd (vf_upd (vf_upd (vf_upd (vf_upd (vf_upd t66 (mn * 8 + 0).toNat kd) (mn * 8 + 1).toNat tg) (mn * 8 + 2).toNat cs) (mn * 8 + 3).toNat i) (mn * 8 + 4).toNat ct) (mn * 8 + 5).toNat sz1) (mn * 8 + 6).toNat pr) j))))]) [2, 3] rfl
      have hDc := hD.sub (ws' := [(nd, .inr (2, [.ref b, .ref h, .ref r64, .int (iI (mn + 1)), .int (iI sx)])), (r64, .inl (cA65, (((min 16384 (2 * (M : Int))) : Int).toNat), .inl (fun j => iI ((vf_upd (vf_upd (vf_upd (vf_upd (vf_upd (vf_upd (vf_upd t66 (mn * 8 + 0).toNat kd) (mn * 8 + 1).toNat tg) (mn * 8 + 2).toNat cs) (mn * 8 + 3).toNat i) (mn * 8 + 4).toNat ct) (mn * 8 + 5).toNat sz1) (mn * 8 + 6).toNat pr) j))))]) [2, 3] (by decide) rfl
      have hKc := hK.sub (tys' := [(cA65, .int)]) [1] rfl
      have hFc := va_free (wc := [(nd, .inr (2, [.ref b, .ref h, .ref r64, .int (iI (mn + 1)), .int (iI sx)])), (r64, .inl (cA65, (((min 16384 (2 * (M : Int))) : Int).toNat), .inl (fun j => iI ((vf_upd (vf_upd (vf_upd (vf_upd (vf_upd (vf_upd (vf_upd t66 (mn * 8 + 0).toNat kd) (mn * 8 + 1).toNat tg) (mn * 8 + 2).toNat cs) (mn * 8 + 3).toNat i) (mn * 8 + 4).toNat ct) (mn * 8 + 5).toNat sz1) (mn * 8 + 6).toNat pr) j))))]) hD hS hA [2, 3] rfl
      refine mv_call (mv_runV (As := [.int (iI mn), .int (iI 7), .int (iI 0)]) (rest := []) ⟨hx, hb, hml, hown, hT⟩ (c_N_putV l dC dI H.size nd b h r64 (mn + 1) sx cA65 (((min 16384 (2 * (M : Int))) : Int).toNat) (vf_upd (vf_upd (vf_upd (vf_upd (vf_upd (vf_upd (vf_upd t66 (mn * 8 + 0).toNat kd) (mn * 8 + 1).toNat tg) (mn * 8 + 2).toNat cs) (mn * 8 + 3).toNat i) (mn * 8 + 4).toNat ct) (mn * 8 + 5).toNat sz1) (mn * 8 + 6).toNat pr) mn 7 0 (by omega) (by omega) (by omega) (by omega) (by omega)) (cwV 3 hT (gV wd349 wd351 wd9 wd28 wd352) rfl rfl rfl (by decide +kernel) ⟨show 2 + 1 ≤ 3 from by omega, show 8 + (5 + 11) + 70 ≤ 130 from by omega⟩) ⟨fun a U g mk q => by obtain ⟨q0, q1, qP, qK, qD⟩ := q; exact ⟨q0, q1, qP, va_K.moved (u := U) (U := U.calling g mk a) (Vm.Alike.refl U.vm) qK, qD⟩, va_recv hKc hPc (ci := 2) (q0 := 0) rfl rfl, fun U hU hW => ⟨rfl, by rw [hU], by rw [hU]; exact hPc, va_K.moved hW.alike hKc, hDc.weaken (fun _ _ _ _ => trivial)⟩⟩ rfl rfl hl.1 rfl (lv_room (Nat.le_of_ble_eq_true rfl)) dX2_enter_143 ⟨show 0 + 1 + 0 + 0 + 0 + 0 + 0 + 0 + 0 + 0 ≤ (phR M) from by omega, show 0 + ((min 16384 (2 * (M : Int))) : Int).toNat + 0 + 0 + 0 + 0 + 0 + 0 + 0 + 0 ≤ (phR M) from by omega⟩) hS (fun q _ h => hFc q h) hFc (fun v91 u k89 n90 tS H1 locs ht hvm hw hB hz1 hk1 hS => ?_)
      obtain ⟨hP1, hK1, hD1⟩ := hB
      rw [ht] at hP1
      have hK1 := va_K.moved hvm.symm hK1
      try dsimp only at hw
      obtain ⟨hP, hD⟩ := va_join (wr := [(h, .inr (1, [.int (iI kd), .int (iI cs), .int (iI tg), .int (iI op), .int (iI sz1), .int (iI ct)])), (rw, .inl (cR, M, .inl (fun j => iI (V j))))]) (w1 := [(nd, .inr (2, [.ref b, .ref h, .ref r64, .int (iI (mn + 1)), .int (iI sx)])), (r64, .inl (cA65, (((min 16384 (2 * (M : Int))) : Int).toNat), .inl (fun j => iI ((vf_upd (vf_upd (vf_upd (vf_upd (vf_upd (vf_upd (vf_upd (vf_upd t66 (mn * 8 + 0).toNat kd) (mn * 8 + 1).toNat tg) (mn * 8 + 2).toNat cs) (mn * 8 + 3).toNat i) (mn * 8 + 4).toNat ct) (mn * 8 + 5).toNat sz1) (mn * 8 + 6).toNat pr) (mn * 8 + 7).toNat 0) j))))]) hP hD [2, 3] [0, 1] rfl rfl (by decide) (by decide) hk1 hFc hP1 hD1
      have hK := (hK.sub (tys' := [(cR, .int)]) [0] rfl).app hK1
      generalize H1 = H at hP hS ⊢
      have hP : va_P (dC, dI) vwCl [(h, .inr (1, [.int (iI kd), .int (iI cs), .int (iI tg), .int (iI op), .int (iI sz1), .int (iI ct)])), (rw, .inl (cR, M, .inl (fun j => iI (V j)))), (nd, .inr (2, [.ref b, .ref h, .ref r64, .int (iI (mn + 1)), .int (iI sx)])), (r64, .inl (cA65, (((min 16384 (2 * (M : Int))) : Int).toNat), .inl (fun j => iI ((vf_upd (vf_upd (vf_upd (vf_upd (vf_upd (vf_upd (vf_upd (vf_upd t66 (mn * 8 + 0).toNat kd) (mn * 8 + 1).toNat tg) (mn * 8 + 2).toNat cs) (mn * 8 + 3).toNat i) (mn * 8 + 4).toNat ct) (mn * 8 + 5).toNat sz1) (mn * 8 + 6).toNat pr) (mn * 8 + 7).toNat 0) j))))] H := hP
      have hD : va_D A [(h, .inr (1, [.int (iI kd), .int (iI cs), .int (iI tg), .int (iI op), .int (iI sz1), .int (iI ct)])), (rw, .inl (cR, M, .inl (fun j => iI (V j)))), (nd, .inr (2, [.ref b, .ref h, .ref r64, .int (iI (mn + 1)), .int (iI sx)])), (r64, .inl (cA65, (((min 16384 (2 * (M : Int))) : Int).toNat), .inl (fun j => iI ((vf_upd (vf_upd (vf_upd (vf_upd (vf_upd (vf_upd (vf_upd (vf_upd t66 (mn * 8 + 0).toNat kd) (mn * 8 + 1).toNat tg) (mn * 8 + 2).toNat cs) (mn * 8 + 3).toNat i) (mn * 8 + 4).toNat ct) (mn * 8 + 5).toNat sz1) (mn * 8 + 6).toNat pr) (mn * 8 + 7).toNat 0) j))))] := hD
      have hK : va_K (dC, dI) vwCl [(cR, .int), (cA65, .int)] s := hK
      obtain ⟨rfl, rfl, rfl⟩ := hw
      refine W.eq (g2 := F0 m 146 ls []) rfl ?_
      refine lv_aload_n hx hb dX2_enter_146 rfl (lv_at hl 1 rfl) ?_
      refine lv_iload_n hx hb dX2_enter_147 rfl (lv_at hl 3 rfl) ?_
      refine lv_bipush (v := iI 7) hx hb dX2_enter_148 (by decide +kernel) ?_
      refine lv_aload_n hx hb dX2_enter_150 rfl (lv_at hl 1 rfl) ?_
      refine lv_iload_n hx hb dX2_enter_151 rfl (lv_at hl 3 rfl) ?_
      refine lv_bipush (v := iI 7) hx hb dX2_enter_152 (by decide +kernel) ?_
      have hPc := hP.sub (ws' := [(nd, .inr (2, [.ref b, .ref h, .ref r64, .int (iI (mn + 1)), .int (iI sx)])), (r64, .inl (cA65, (((min 16384 (2 * (M : Int))) : Int).toNat), .inl (fun j => iI ((vf_upd (vf_upd (vf_upd (vf_upd (vf_upd (vf_upd (vf_upd (vf_upd t66 (mn * 8 + 0).toNat kd) (mn * 8 + 1).toNat tg) (mn * 8 + 2).toNat cs) (mn * 8 + 3).toNat i) (mn * 8 + 4).toNat ct) (mn * 8 + 5).toNat sz1) (mn * 8 + 6).toNat pr) (mn * 8 + 7).toNat 0) j))))]) [2, 3] rfl
      have hDc := hD.sub (ws' := [(nd, .inr (2, [.ref b, .ref h, .ref r64, .int (iI (mn + 1)), .int (iI sx)])), (r64, .inl (cA65, (((min 16384 (2 * (M : Int))) : Int).toNat), .inl (fun j => iI ((vf_upd (vf_upd (vf_upd (vf_upd (vf_upd (vf_upd (vf_upd (vf_upd t66 (mn * 8 + 0).toNat kd) (mn * 8 + 1).toNat tg) (mn * 8 + 2).toNat cs) (mn * 8 + 3).toNat i) (mn * 8 + 4).toNat ct) (mn * 8 + 5).toNat sz1) (mn * 8 + 6).toNat pr) (mn * 8 + 7).toNat 0) j))))]) [2, 3] (by decide) rfl
      have hKc := hK.sub (tys' := [(cA65, .int)]) [1] rfl
      have hFc := va_free (wc := [(nd, .inr (2, [.ref b, .ref h, .ref r64, .int (iI (mn + 1)), .int (iI sx)])), (r64, .inl (cA65, (((min 16384 (2 * (M : Int))) : Int).toNat), .inl (fun j => iI ((vf_upd (vf_upd (vf_upd (vf_upd (vf_upd (vf_upd (vf_upd (vf_upd t66 (mn * 8 + 0).toNat kd) (mn * 8 + 1).toNat tg) (mn * 8 + 2).toNat cs) (mn * 8 + 3).toNat i) (mn * 8 + 4).toNat ct) (mn * 8 + 5).toNat sz1) (mn * 8 + 6).toNat pr) (mn * 8 + 7).toNat 0) j))))]) hD hS hA [2, 3] rfl
      refine mv_call (mv_runV (As := [.int (iI pr), .int (iI 7)]) (rest := [.int (iI 7), .int (iI pr), .ref nd]) ⟨hx, hb, hml, hown, hT⟩ (c_N_get l dC dI H.size nd b h r64 (mn + 1) sx cA65 (((min 16384 (2 * (M : Int))) : Int).toNat) (vf_upd (vf_upd (vf_upd (vf_upd (vf_upd (vf_upd (vf_upd (vf_upd t66 (mn * 8 + 0).toNat kd) (mn * 8 + 1).toNat tg) (mn * 8 + 2).toNat cs) (mn * 8 + 3).toNat i) (mn * 8 + 4).toNat ct) (mn * 8 + 5).toNat sz1) (mn * 8 + 6).toNat pr) (mn * 8 + 7).toNat 0) pr 7 (by omega) (by omega) (by omega) (entN_rng hV0 (by omega) (by omega) (by omega) (by omega) (by omega) (by omega) (by omega)) (by omega) (by omega)) (cwV 2 hT (gV wd361 wd362 wd363 wd28 wd364) rfl rfl rfl (by decide +kernel) ⟨show 2 + 1 ≤ 3 from by omega, show 8 + (4 + 11) + 70 ≤ 130 from by omega⟩) ⟨fun a U g mk q => by obtain ⟨q0, q1, qP, qK, qD⟩ := q; exact ⟨q0, q1, qP, va_K.moved (u := U) (U := U.calling g mk a) (Vm.Alike.refl U.vm) qK, qD⟩, va_recv hKc hPc (ci := 2) (q0 := 0) rfl rfl, fun U hU hW => ⟨rfl, by rw [hU], by rw [hU]; exact hPc, va_K.moved hW.alike hKc, hDc.weaken (fun _ _ _ _ => trivial)⟩⟩ rfl rfl hl.1 rfl (lv_room (Nat.le_of_ble_eq_true rfl)) dX2_enter_154 ⟨show 0 + 1 + 0 + 0 + 0 + 0 + 0 + 0 + 0 + 0 + 0 ≤ (phR M) from by omega, show 0 + ((min 16384 (2 * (M : Int))) : Int).toNat + 0 + 0 + 0 + 0 + 0 + 0 + 0 + 0 + 0 ≤ (phR M) from by omega⟩) hS (fun q _ h => hFc q h) hFc (fun v94 u k92 n93 tS H1 locs ht hvm hw hB hz1 hk1 hS => ?_)
      obtain ⟨q95, rfl⟩ : ∃ y, y = u := ⟨_, rfl⟩
      obtain ⟨hP1, hK1, hD1⟩ := hB
      rw [ht] at hP1
      have hK1 := va_K.moved hvm.symm hK1
      try dsimp only at hw
      obtain ⟨hP, hD⟩ := va_join (wr := [(h, .inr (1, [.int (iI kd), .int (iI cs), .int (iI tg), .int (iI op), .int (iI sz1), .int (iI ct)])), (rw, .inl (cR, M, .inl (fun j => iI (V j))))]) (w1 := [(nd, .inr (2, [.ref b, .ref h, .ref r64, .int (iI (mn + 1)), .int (iI sx)])), (r64, .inl (cA65, (((min 16384 (2 * (M : Int))) : Int).toNat), .inl (fun j => iI ((vf_upd (vf_upd (vf_upd (vf_upd (vf_upd (vf_upd (vf_upd (vf_upd t66 (mn * 8 + 0).toNat kd) (mn * 8 + 1).toNat tg) (mn * 8 + 2).toNat cs) (mn * 8 + 3).toNat i) (mn * 8 + 4).toNat ct) (mn * 8 + 5).toNat sz1) (mn * 8 + 6).toNat pr) (mn * 8 + 7).toNat 0) j))))]) hP hD [2, 3] [0, 1] rfl rfl (by decide) (by decide) hk1 hFc hP1 hD1
      have hK := (hK.sub (tys' := [(cR, .int)]) [0] rfl).app hK1
      generalize H1 = H at hP hS ⊢
      have hP : va_P (dC, dI) vwCl [(h, .inr (1, [.int (iI kd), .int (iI cs), .int (iI tg), .int (iI op), .int (iI sz1), .int (iI ct)])), (rw, .inl (cR, M, .inl (fun j => iI (V j)))), (nd, .inr (2, [.ref b, .ref h, .ref r64, .int (iI (mn + 1)), .int (iI sx)])), (r64, .inl (cA65, (((min 16384 (2 * (M : Int))) : Int).toNat), .inl (fun j => iI ((vf_upd (vf_upd (vf_upd (vf_upd (vf_upd (vf_upd (vf_upd (vf_upd t66 (mn * 8 + 0).toNat kd) (mn * 8 + 1).toNat tg) (mn * 8 + 2).toNat cs) (mn * 8 + 3).toNat i) (mn * 8 + 4).toNat ct) (mn * 8 + 5).toNat sz1) (mn * 8 + 6).toNat pr) (mn * 8 + 7).toNat 0) j))))] H := hP
      have hD : va_D A [(h, .inr (1, [.int (iI kd), .int (iI cs), .int (iI tg), .int (iI op), .int (iI sz1), .int (iI ct)])), (rw, .inl (cR, M, .inl (fun j => iI (V j)))), (nd, .inr (2, [.ref b, .ref h, .ref r64, .int (iI (mn + 1)), .int (iI sx)])), (r64, .inl (cA65, (((min 16384 (2 * (M : Int))) : Int).toNat), .inl (fun j => iI ((vf_upd (vf_upd (vf_upd (vf_upd (vf_upd (vf_upd (vf_upd (vf_upd t66 (mn * 8 + 0).toNat kd) (mn * 8 + 1).toNat tg) (mn * 8 + 2).toNat cs) (mn * 8 + 3).toNat i) (mn * 8 + 4).toNat ct) (mn * 8 + 5).toNat sz1) (mn * 8 + 6).toNat pr) (mn * 8 + 7).toNat 0) j))))] := hD
      have hK : va_K (dC, dI) vwCl [(cR, .int), (cA65, .int)] s := hK
      obtain ⟨rfl, hqv94, hrv94, rfl, rfl⟩ := hw
      refine W.eq (g2 := F0 m 157 ls [.int (iI q95), .int (iI 7), .int (iI pr), .ref nd]) rfl ?_
      refine lv_iconst (v := iI 1) hx hb dX2_enter_157 rfl ?_
      refine li_iadd hx hb dX2_enter_158 ?_
      have hPc := hP.sub (ws' := [(nd, .inr (2, [.ref b, .ref h, .ref r64, .int (iI (mn + 1)), .int (iI sx)])), (r64, .inl (cA65, (((min 16384 (2 * (M : Int))) : Int).toNat), .inl (fun j => iI ((vf_upd (vf_upd (vf_upd (vf_upd (vf_upd (vf_upd (vf_upd (vf_upd t66 (mn * 8 + 0).toNat kd) (mn * 8 + 1).toNat tg) (mn * 8 + 2).toNat cs) (mn * 8 + 3).toNat i) (mn * 8 + 4).toNat ct) (mn * 8 + 5).toNat sz1) (mn * 8 + 6).toNat pr) (mn * 8 + 7).toNat 0) j))))]) [2, 3] rfl
      have hDc := hD.sub (ws' := [(nd, .inr (2, [.ref b, .ref h, .ref r64, .int (iI (mn + 1)), .int (iI sx)])), (r64, .inl (cA65, (((min 16384 (2 * (M : Int))) : Int).toNat), .inl (fun j => iI ((vf_upd (vf_upd (vf_upd (vf_upd (vf_upd (vf_upd (vf_upd (vf_upd t66 (mn * 8 + 0).toNat kd) (mn * 8 + 1).toNat tg) (mn * 8 + 2).toNat cs) (mn * 8 + 3).toNat i) (mn * 8 + 4).toNat ct) (mn * 8 + 5).toNat sz1) (mn * 8 + 6).toNat pr) (mn * 8 + 7).toNat 0) j))))]) [2, 3] (by decide) rfl
      have hKc := hK.sub (tys' := [(cA65, .int)]) [1] rfl
      have hFc := va_free (wc := [(nd, .inr (2, [.ref b, .ref h, .ref r64, .int (iI (mn + 1)), .int (iI sx)])), (r64, .inl (cA65, (((min 16384 (2 * (M : Int))) : Int).toNat), .inl (fun j => iI ((vf_upd (vf_upd (vf_upd (vf_upd (vf_upd (vf_upd (vf_upd (vf_upd t66 (mn * 8 + 0).toNat kd) (mn * 8 + 1).toNat tg) (mn * 8 + 2).toNat cs) (mn * 8 + 3).toNat i) (mn * 8 + 4).toNat ct) (mn * 8 + 5).toNat sz1) (mn * 8 + 6).toNat pr) (mn * 8 + 7).toNat 0) j))))]) hD hS hA [2, 3] rfl
      refine mv_call (mv_runV (As := [.int (iI pr), .int (iI 7), .int (iI (q95 + 1))]) (rest := []) ⟨hx, hb, hml, hown, hT⟩ (c_N_put l dC dI H.size nd b h r64 (mn + 1) sx cA65 (((min 16384 (2 * (M : Int))) : Int).toNat) (vf_upd (vf_upd (vf_upd (vf_upd (vf_upd (vf_upd (vf_upd (vf_upd t66 (mn * 8 + 0).toNat kd) (mn * 8 + 1).toNat tg) (mn * 8 + 2).toNat cs) (mn * 8 + 3).toNat i) (mn * 8 + 4).toNat ct) (mn * 8 + 5).toNat sz1) (mn * 8 + 6).toNat pr) (mn * 8 + 7).toNat 0) pr 7 (q95 + 1) (by omega) (by omega) (by omega) (by omega) (by omega)) (cwV 3 hT (gV wd349 wd351 wd9 wd28 wd352) rfl rfl rfl (by decide +kernel) ⟨show 2 + 1 ≤ 3 from by omega, show 8 + (5 + 11) + 70 ≤ 130 from by omega⟩) ⟨fun a U g mk q => by obtain ⟨q0, q1, qP, qK, qD⟩ := q; exact ⟨q0, q1, qP, va_K.moved (u := U) (U := U.calling g mk a) (Vm.Alike.refl U.vm) qK, qD⟩, va_recv hKc hPc (ci := 2) (q0 := 0) rfl rfl, fun U hU hW => ⟨rfl, by rw [hU], by rw [hU]; exact hPc, va_K.moved hW.alike hKc, hDc.weaken (fun _ _ _ _ => trivial)⟩⟩ rfl rfl hl.1 rfl (lv_room (Nat.le_of_ble_eq_true rfl)) dX2_enter_159 ⟨show 0 + 1 + 0 + 0 + 0 + 0 + 0 + 0 + 0 + 0 + 0 + 0 ≤ (phR M) from by omega, show 0 + ((min 16384 (2 * (M : Int))) : Int).toNat + 0 + 0 + 0 + 0 + 0 + 0 + 0 + 0 + 0 + 0 ≤ (phR M) from by omega⟩) hS (fun q _ h => hFc q h) hFc (fun v98 u k96 n97 tS H1 locs ht hvm hw hB hz1 hk1 hS => ?_)
      obtain ⟨V99, rfl⟩ : ∃ y, y = u := ⟨_, rfl⟩
      obtain ⟨hP1, hK1, hD1⟩ := hB
      rw [ht] at hP1
      have hK1 := va_K.moved hvm.symm hK1
      try dsimp only at hw
      obtain ⟨hP, hD⟩ := va_join (wr := [(h, .inr (1, [.int (iI kd), .int (iI cs), .int (iI tg), .int (iI op), .int (iI sz1), .int (iI ct)])), (rw, .inl (cR, M, .inl (fun j => iI (V j))))]) (w1 := [(nd, .inr (2, [.ref b, .ref h, .ref r64, .int (iI (mn + 1)), .int (iI sx)])), (r64, .inl (cA65, (((min 16384 (2 * (M : Int))) : Int).toNat), .inl (fun j => iI (V99 j))))]) hP hD [2, 3] [0, 1] rfl rfl (by decide) (by decide) hk1 hFc hP1 hD1
      have hK := (hK.sub (tys' := [(cR, .int)]) [0] rfl).app hK1
      generalize H1 = H at hP hS ⊢
      have hP : va_P (dC, dI) vwCl [(h, .inr (1, [.int (iI kd), .int (iI cs), .int (iI tg), .int (iI op), .int (iI sz1), .int (iI ct)])), (rw, .inl (cR, M, .inl (fun j => iI (V j)))), (nd, .inr (2, [.ref b, .ref h, .ref r64, .int (iI (mn + 1)), .int (iI sx)])), (r64, .inl (cA65, (((min 16384 (2 * (M : Int))) : Int).toNat), .inl (fun j => iI (V99 j))))] H := hP
      have hD : va_D A [(h, .inr (1, [.int (iI kd), .int (iI cs), .int (iI tg), .int (iI op), .int (iI sz1), .int (iI ct)])), (rw, .inl (cR, M, .inl (fun j => iI (V j)))), (nd, .inr (2, [.ref b, .ref h, .ref r64, .int (iI (mn + 1)), .int (iI sx)])), (r64, .inl (cA65, (((min 16384 (2 * (M : Int))) : Int).toNat), .inl (fun j => iI (V99 j))))] := hD
      have hK : va_K (dC, dI) vwCl [(cR, .int), (cA65, .int)] s := hK
      obtain ⟨hqv98, rfl, rfl, rfl⟩ := hw
      refine W.eq (g2 := F0 m 162 ls []) rfl ?_
      refine lv_iload_n hx hb dX2_enter_162 rfl (lv_at hl 0 rfl) ?_
      have hE := ent_fin hn3 h00 hqv94 hqv98
      have hr9 := ent_r9 (entN_rng hV0 (by omega) (by omega) (by omega) (by omega) (by omega) (by omega) (by omega)) (ent_q hoN h00 hpr hqv94) hqv98
      have hP9 := hP.sub (ws' := [(nd, .inr (2, [.ref b, .ref h, .ref r64, .int (iI (mn + 1)), .int (iI sx)])), (r64, .inl (cA65, (((min 16384 (2 * (M : Int))) : Int).toNat), .inl (fun j => iI (V99 j)))), (h, .inr (1, [.int (iI kd), .int (iI cs), .int (iI tg), .int (iI op), .int (iI sz1), .int (iI ct)]))]) [2, 3, 0] rfl
      have hD9 := hD.sub (ws' := [(nd, .inr (2, [.ref b, .ref h, .ref r64, .int (iI (mn + 1)), .int (iI sx)])), (r64, .inl (cA65, (((min 16384 (2 * (M : Int))) : Int).toNat), .inl (fun j => iI (V99 j)))), (h, .inr (1, [.int (iI kd), .int (iI cs), .int (iI tg), .int (iI op), .int (iI sz1), .int (iI ct)]))]) [2, 3, 0] (by decide) rfl
      have hK9 := hK.sub (tys' := [(cA65, .int)]) [1] rfl
      exact mv_iret hx hb hr hlocks (fun tS ht hW => ⟨⟨_, (r64, cA65, (((min 16384 (2 * (M : Int))) : Int).toNat), V99), rfl, ⟨rfl, okN_ent hoN hm8 (by omega) (by omega) (by omega) hr9 hE, hE, by omega, by omega⟩, by rw [ht]; exact hP9, va_K.moved hW.alike hK9, hD9⟩, hS.F ht⟩) hS.2.2 dX2_enter_163
    · skip
      refine lv_iconst (v := iI 1) hx hb dX2_enter_89 rfl ?_
      refine lv_goto (tgt := 94) hx hb dX2_enter_90 (by decide) ?_
      refine li_re (show (1 : Int) = cs by omega) ?_
      have hPc := hP.sub (ws' := [(nd, .inr (2, [.ref b, .ref h, .ref r64, .int (iI (mn + 1)), .int (iI sx)])), (r64, .inl (cA65, (((min 16384 (2 * (M : Int))) : Int).toNat), .inl (fun j => iI ((vf_upd (vf_upd t66 (mn * 8 + 0).toNat kd) (mn * 8 + 1).toNat tg) j))))]) [2, 3] rfl
      have hDc := hD.sub (ws' := [(nd, .inr (2, [.ref b, .ref h, .ref r64, .int (iI (mn + 1)), .int (iI sx)])), (r64, .inl (cA65, (((min 16384 (2 * (M : Int))) : Int).toNat), .inl (fun j => iI ((vf_upd (vf_upd t66 (mn * 8 + 0).toNat kd) (mn * 8 + 1).toNat tg) j))))]) [2, 3] (by decide) rfl
      have hKc := hK.sub (tys' := [(cA65, .int)]) [1] rfl
      have hFc := va_free (wc := [(nd, .inr (2, [.ref b, .ref h, .ref r64, .int (iI (mn + 1)), .int (iI sx)])), (r64, .inl (cA65, (((min 16384 (2 * (M : Int))) : Int).toNat), .inl (fun j => iI ((vf_upd (vf_upd t66 (mn * 8 + 0).toNat kd) (mn * 8 + 1).toNat tg) j))))]) hD hS hA [2, 3] rfl
      refine mv_call (mv_runV (As := [.int (iI mn), .int (iI 2), .int (iI cs)]) (rest := []) ⟨hx, hb, hml, hown, hT⟩ (c_N_putV l dC dI H.size nd b h r64 (mn + 1) sx cA65 (((min 16384 (2 * (M : Int))) : Int).toNat) (vf_upd (vf_upd t66 (mn * 8 + 0).toNat kd) (mn * 8 + 1).toNat tg) mn 2 cs (by omega) (by omega) (by omega) (by omega) (by omega)) (cwV 3 hT (gV wd349 wd351 wd9 wd28 wd352) rfl rfl rfl (by decide +kernel) ⟨show 2 + 1 ≤ 3 from by omega, show 8 + (5 + 11) + 70 ≤ 130 from by omega⟩) ⟨fun a U g mk q => by obtain ⟨q0, q1, qP, qK, qD⟩ := q; exact ⟨q0, q1, qP, va_K.moved (u := U) (U := U.calling g mk a) (Vm.Alike.refl U.vm) qK, qD⟩, va_recv hKc hPc (ci := 2) (q0 := 0) rfl rfl, fun U hU hW => ⟨rfl, by rw [hU], by rw [hU]; exact hPc, va_K.moved hW.alike hKc, hDc.weaken (fun _ _ _ _ => trivial)⟩⟩ rfl rfl hl.1 rfl (lv_room (Nat.le_of_ble_eq_true rfl)) dX2_enter_94 ⟨show 0 + 1 + 0 + 0 + 0 ≤ (phR M) from by omega, show 0 + ((min 16384 (2 * (M : Int))) : Int).toNat + 0 + 0 + 0 ≤ (phR M) from by omega⟩) hS (fun q _ h => hFc q h) hFc (fun v102 u k100 n101 tS H1 locs ht hvm hw hB hz1 hk1 hS => ?_)
      obtain ⟨hP1, hK1, hD1⟩ := hB
      rw [ht] at hP1
      have hK1 := va_K.moved hvm.symm hK1
      try dsimp only at hw
      obtain ⟨hP, hD⟩ := va_join (wr := [(h, .inr (1, [.int (iI kd), .int (iI cs), .int (iI tg), .int (iI op), .int (iI sz1), .int (iI ct)])), (rw, .inl (cR, M, .inl (fun j => iI (V j))))]) (w1 := [(nd, .inr (2, [.ref b, .ref h, .ref r64, .int (iI (mn + 1)), .int (iI sx)])), (r64, .inl (cA65, (((min 16384 (2 * (M : Int))) : Int).toNat), .inl (fun j => iI ((vf_upd (vf_upd (vf_upd t66 (mn * 8 + 0).toNat kd) (mn * 8 + 1).toNat tg) (mn * 8 + 2).toNat cs) j))))]) hP hD [2, 3] [0, 1] rfl rfl (by decide) (by decide) hk1 hFc hP1 hD1
      have hK := (hK.sub (tys' := [(cR, .int)]) [0] rfl).app hK1
      generalize H1 = H at hP hS ⊢
      have hP : va_P (dC, dI) vwCl [(h, .inr (1, [.int (iI kd), .int (iI cs), .int (iI tg), .int (iI op), .int (iI sz1), .int (iI ct)])), (rw, .inl (cR, M, .inl (fun j => iI (V j)))), (nd, .inr (2, [.ref b, .ref h, .ref r64, .int (iI (mn + 1)), .int (iI sx)])), (r64, .inl (cA65, (((min 16384 (2 * (M : Int))) : Int).toNat), .inl (fun j => iI ((vf_upd (vf_upd (vf_upd t66 (mn * 8 + 0).toNat kd) (mn * 8 + 1).toNat tg) (mn * 8 + 2).toNat cs) j))))] H := hP
      have hD : va_D A [(h, .inr (1, [.int (iI kd), .int (iI cs), .int (iI tg), .int (iI op), .int (iI sz1), .int (iI ct)])), (rw, .inl (cR, M, .inl (fun j => iI (V j)))), (nd, .inr (2, [.ref b, .ref h, .ref r64, .int (iI (mn + 1)), .int (iI sx)])), (r64, .inl (cA65, (((min 16384 (2 * (M : Int))) : Int).toNat), .inl (fun j => iI ((vf_upd (vf_upd (vf_upd t66 (mn * 8 + 0).toNat kd) (mn * 8 + 1).toNat tg) (mn * 8 + 2).toNat cs) j))))] := hD
      have hK : va_K (dC, dI) vwCl [(cR, .int), (cA65, .int)] s := hK
      obtain ⟨rfl, rfl, rfl⟩ := hw
      refine W.eq (g2 := F0 m 97 ls []) rfl ?_
      refine lv_aload_n hx hb dX2_enter_97 rfl (lv_at hl 1 rfl) ?_
      refine lv_iload_n hx hb dX2_enter_98 rfl (lv_at hl 0 rfl) ?_
      refine lv_iconst (v := iI 3) hx hb dX2_enter_99 rfl ?_
      refine lv_iload_n hx hb dX2_enter_100 rfl (lv_at hl 2 rfl) ?_
      have hPc := hP.sub (ws' := [(nd, .inr (2, [.ref b, .ref h, .ref r64, .int (iI (mn + 1)), .int (iI sx)])), (r64, .inl (cA65, (((min 16384 (2 * (M : Int))) : Int).toNat), .inl (fun j => iI ((vf_upd (vf_upd (vf_upd t66 (mn * 8 + 0).toNat kd) (mn * 8 + 1).toNat tg) (mn * 8 + 2).toNat cs) j))))]) [2, 3] rfl
      have hDc := hD.sub (ws' := [(nd, .inr (2, [.ref b, .ref h, .ref r64, .int (iI (mn + 1)), .int (iI sx)])), (r64, .inl (cA65, (((min 16384 (2 * (M : Int))) : Int).toNat), .inl (fun j => iI ((vf_upd (vf_upd (vf_upd t66 (mn * 8 + 0).toNat kd) (mn * 8 + 1).toNat tg) (mn * 8 + 2).toNat cs) j))))]) [2, 3] (by decide) rfl
      have hKc := hK.sub (tys' := [(cA65, .int)]) [1] rfl
      have hFc := va_free (wc := [(nd, .inr (2, [.ref b, .ref h, .ref r64, .int (iI (mn + 1)), .int (iI sx)])), (r64, .inl (cA65, (((min 16384 (2 * (M : Int))) : Int).toNat), .inl (fun j => iI ((vf_upd (vf_upd (vf_upd t66 (mn * 8 + 0).toNat kd) (mn * 8 + 1).toNat tg) (mn * 8 + 2).toNat cs) j))))]) hD hS hA [2, 3] rfl
      refine mv_call (mv_runV (As := [.int (iI mn), .int (iI 3), .int (iI i)]) (rest := []) ⟨hx, hb, hml, hown, hT⟩ (c_N_putV l dC dI H.size nd b h r64 (mn + 1) sx cA65 (((min 16384 (2 * (M : Int))) : Int).toNat) (vf_upd (vf_upd (vf_upd t66 (mn * 8 + 0).toNat kd) (mn * 8 + 1).toNat tg) (mn * 8 + 2).toNat cs) mn 3 i (by omega) (by omega) (by omega) (by omega) (by omega)) (cwV 3 hT (gV wd349 wd351 wd9 wd28 wd352) rfl rfl rfl (by decide +kernel) ⟨show 2 + 1 ≤ 3 from by omega, show 8 + (5 + 11) + 70 ≤ 130 from by omega⟩) ⟨fun a U g mk q => by obtain ⟨q0, q1, qP, qK, qD⟩ := q; exact ⟨q0, q1, qP, va_K.moved (u := U) (U := U.calling g mk a) (Vm.Alike.refl U.vm) qK, qD⟩, va_recv hKc hPc (ci := 2) (q0 := 0) rfl rfl, fun U hU hW => ⟨rfl, by rw [hU], by rw [hU]; exact hPc, va_K.moved hW.alike hKc, hDc.weaken (fun _ _ _ _ => trivial)⟩⟩ rfl rfl hl.1 rfl (lv_room (Nat.le_of_ble_eq_true rfl)) dX2_enter_101 ⟨show 0 + 1 + 0 + 0 + 0 + 0 ≤ (phR M) from by omega, show 0 + ((min 16384 (2 * (M : Int))) : Int).toNat + 0 + 0 + 0 + 0 ≤ (phR M) from by omega⟩) hS (fun q _ h => hFc q h) hFc (fun v105 u k103 n104 tS H1 locs ht hvm hw hB hz1 hk1 hS => ?_)
      obtain ⟨hP1, hK1, hD1⟩ := hB
      rw [ht] at hP1
      have hK1 := va_K.moved hvm.symm hK1
      try dsimp only at hw
      obtain ⟨hP, hD⟩ := va_join (wr := [(h, .inr (1, [.int (iI kd), .int (iI cs), .int (iI tg), .int (iI op), .int (iI sz1), .int (iI ct)])), (rw, .inl (cR, M, .inl (fun j => iI (V j))))]) (w1 := [(nd, .inr (2, [.ref b, .ref h, .ref r64, .int (iI (mn + 1)), .int (iI sx)])), (r64, .inl (cA65, (((min 16384 (2 * (M : Int))) : Int).toNat), .inl (fun j => iI ((vf_upd (vf_upd (vf_upd (vf_upd t66 (mn * 8 + 0).toNat kd) (mn * 8 + 1).toNat tg) (mn * 8 + 2).toNat cs) (mn * 8 + 3).toNat i) j))))]) hP hD [2, 3] [0, 1] rfl rfl (by decide) (by decide) hk1 hFc hP1 hD1
      have hK := (hK.sub (tys' := [(cR, .int)]) [0] rfl).app hK1
      generalize H1 = H at hP hS ⊢
      have hP : va_P (dC, dI) vwCl [(h, .inr (1, [.int (iI kd), .int (iI cs), .int (iI tg), .int (iI op), .int (iI sz1), .int (iI ct)])), (rw, .inl (cR, M, .inl (fun j => iI (V j)))), (nd, .inr (2, [.ref b, .ref h, .ref r64, .int (iI (mn + 1)), .int (iI sx)])), (r64, .inl (cA65, (((min 16384 (2 * (M : Int))) : Int).toNat), .inl (fun j => iI ((vf_upd (vf_upd (vf_upd (vf_upd t66 (mn * 8 + 0).toNat kd) (mn * 8 + 1).toNat tg) (mn * 8 + 2).toNat cs) (mn * 8 + 3).toNat i) j))))] H := hP
      have hD : va_D A [(h, .inr (1, [.int (iI kd), .int (iI cs), .int (iI tg), .int (iI op), .int (iI sz1), .int (iI ct)])), (rw, .inl (cR, M, .inl (fun j => iI (V j)))), (nd, .inr (2, [.ref b, .ref h, .ref r64, .int (iI (mn + 1)), .int (iI sx)])), (r64, .inl (cA65, (((min 16384 (2 * (M : Int))) : Int).toNat), .inl (fun j => iI ((vf_upd (vf_upd (vf_upd (vf_upd t66 (mn * 8 + 0).toNat kd) (mn * 8 + 1).toNat tg) (mn * 8 + 2).toNat cs) (mn * 8 + 3).toNat i) j))))] := hD
      have hK : va_K (dC, dI) vwCl [(cR, .int), (cA65, .int)] s := hK
      obtain ⟨rfl, rfl, rfl⟩ := hw
      refine W.eq (g2 := F0 m 104 ls []) rfl ?_
      refine lv_aload_n hx hb dX2_enter_104 rfl (lv_at hl 1 rfl) ?_
      refine lv_iload_n hx hb dX2_enter_105 rfl (lv_at hl 0 rfl) ?_
      refine lv_iconst (v := iI 4) hx hb dX2_enter_106 rfl ?_
      refine lv_aload_n hx hb dX2_enter_107 rfl (lv_at hl 1 rfl) ?_
      refine va_get (D := (dC, dI)) (ci := 2) (v := .ref h) (C := RX2) (T := TX2) (N := 5) hx hb hT inX2 hown hK hP 2 rfl rfl 1 (by decide) (hT _ wd104) (fun _ h9 => h9) rfl dX2_enter_108 ?_
      refine va_getN (D := (dC, dI)) (ci := 1) (v := .int (iI ct)) (C := RX1) (T := TX1) (N := 6) hx hb hT inX1 hown hK hP 0 rfl rfl 5 (by decide) (va_Nw.use rfl hN.2.2.2.2.2) (fun _ h9 => h9) rfl dX2_enter_111 ?_
      have hPc := hP.sub (ws' := [(nd, .inr (2, [.ref b, .ref h, .ref r64, .int (iI (mn + 1)), .int (iI sx)])), (r64, .inl (cA65, (((min 16384 (2 * (M : Int))) : Int).toNat), .inl (fun j => iI ((vf_upd (vf_upd (vf_upd (vf_upd t66 (mn * 8 + 0).toNat kd) (mn * 8 + 1).toNat tg) (mn * 8 + 2).toNat cs) (mn * 8 + 3).toNat i) j))))]) [2, 3] rfl
      have hDc := hD.sub (ws' := [(nd, .inr (2, [.ref b, .ref h, .ref r64, .int (iI (mn + 1)), .int (iI sx)])), (r64, .inl (cA65, (((min 16384 (2 * (M : Int))) : Int).toNat), .inl (fun j => iI ((vf_upd (vf_upd (vf_upd (vf_upd t66 (mn * 8 + 0).toNat kd) (mn * 8 + 1).toNat tg) (mn * 8 + 2).toNat cs) (mn * 8 + 3).toNat i) j))))]) [2, 3] (by decide) rfl
      have hKc := hK.sub (tys' := [(cA65, .int)]) [1] rfl
      have hFc := va_free (wc := [(nd, .inr (2, [.ref b, .ref h, .ref r64, .int (iI (mn + 1)), .int (iI sx)])), (r64, .inl (cA65, (((min 16384 (2 * (M : Int))) : Int).toNat), .inl (fun j => iI ((vf_upd (vf_upd (vf_upd (vf_upd t66 (mn * 8 + 0).toNat kd) (mn * 8 + 1).toNat tg) (mn * 8 + 2).toNat cs) (mn * 8 + 3).toNat i) j))))]) hD hS hA [2, 3] rfl
      refine mv_call (mv_runV (As := [.int (iI mn), .int (iI 4), .int (iI ct)]) (rest := []) ⟨hx, hb, hml, hown, hT⟩ (c_N_putV l dC dI H.size nd b h r64 (mn + 1) sx cA65 (((min 16384 (2 * (M : Int))) : Int).toNat) (vf_upd (vf_upd (vf_upd (vf_upd t66 (mn * 8 + 0).toNat kd) (mn * 8 + 1).toNat tg) (mn * 8 + 2).toNat cs) (mn * 8 + 3).toNat i) mn 4 ct (by omega) (by omega) (by omega) (by omega) (by omega)) (cwV 3 hT (gV wd349 wd351 wd9 wd28 wd352) rfl rfl rfl (by decide +kernel) ⟨show 2 + 1 ≤ 3 from by omega, show 8 + (5 + 11) + 70 ≤ 130 from by omega⟩) ⟨fun a U g mk q => by obtain ⟨q0, q1, qP, qK, qD⟩ := q; exact ⟨q0, q1, qP, va_K.moved (u := U) (U := U.calling g mk a) (Vm.Alike.refl U.vm) qK, qD⟩, va_recv hKc hPc (ci := 2) (q0 := 0) rfl rfl, fun U hU hW => ⟨rfl, by rw [hU], by rw [hU]; exact hPc, va_K.moved hW.alike hKc, hDc.weaken (fun _ _ _ _ => trivial)⟩⟩ rfl rfl hl.1 rfl (lv_room (Nat.le_of_ble_eq_true rfl)) dX2_enter_114 ⟨show 0 + 1 + 0 + 0 + 0 + 0 + 0 ≤ (phR M) from by omega, show 0 + ((min 16384 (2 * (M : Int))) : Int).toNat + 0 + 0 + 0 + 0 + 0 ≤ (phR M) from by omega⟩) hS (fun q _ h => hFc q h) hFc (fun v108 u k106 n107 tS H1 locs ht hvm hw hB hz1 hk1 hS => ?_)
      obtain ⟨hP1, hK1, hD1⟩ := hB
      rw [ht] at hP1
      have hK1 := va_K.moved hvm.symm hK1
      try dsimp only at hw
      obtain ⟨hP, hD⟩ := va_join (wr := [(h, .inr (1, [.int (iI kd), .int (iI cs), .int (iI tg), .int (iI op), .int (iI sz1), .int (iI ct)])), (rw, .inl (cR, M, .inl (fun j => iI (V j))))]) (w1 := [(nd, .inr (2, [.ref b, .ref h, .ref r64, .int (iI (mn + 1)), .int (iI sx)])), (r64, .inl (cA65, (((min 16384 (2 * (M : Int))) : Int).toNat), .inl (fun j => iI ((vf_upd (vf_upd (vf_upd (vf_upd (vf_upd t66 (mn * 8 + 0).toNat kd) (mn * 8 + 1).toNat tg) (mn * 8 + 2).toNat cs) (mn * 8 + 3).toNat i) (mn * 8 + 4).toNat ct) j))))]) hP hD [2, 3] [0, 1] rfl rfl (by decide) (by decide) hk1 hFc hP1 hD1
      have hK := (hK.sub (tys' := [(cR, .int)]) [0] rfl).app hK1
      generalize H1 = H at hP hS ⊢
      have hP : va_P (dC, dI) vwCl [(h, .inr (1, [.int (iI kd), .int (iI cs), .int (iI tg), .int (iI op), .int (iI sz1), .int (iI ct)])), (rw, .inl (cR, M, .inl (fun j => iI (V j)))), (nd, .inr (2, [.ref b, .ref h, .ref r64, .int (iI (mn + 1)), .int (iI sx)])), (r64, .inl (cA65, (((min 16384 (2 * (M : Int))) : Int).toNat), .inl (fun j => iI ((vf_upd (vf_upd (vf_upd (vf_upd (vf_upd t66 (mn * 8 + 0).toNat kd) (mn * 8 + 1).toNat tg) (mn * 8 + 2).toNat cs) (mn * 8 + 3).toNat i) (mn * 8 + 4).toNat ct) j))))] H := hP
      have hD : va_D A [(h, .inr (1, [.int (iI kd), .int (iI cs), .int (iI tg), .int (iI op), .int (iI sz1), .int (iI ct)])), (rw, .inl (cR, M, .inl (fun j => iI (V j)))), (nd, .inr (2, [.ref b, .ref h, .ref r64, .int (iI (mn + 1)), .int (iI sx)])), (r64, .inl (cA65, (((min 16384 (2 * (M : Int))) : Int).toNat), .inl (fun j => iI ((vf_upd (vf_upd (vf_upd (vf_upd (vf_upd t66 (mn * 8 + 0).toNat kd) (mn * 8 + 1).toNat tg) (mn * 8 + 2).toNat cs) (mn * 8 + 3).toNat i) (mn * 8 + 4).toNat ct) j))))] := hD
      have hK : va_K (dC, dI) vwCl [(cR, .int), (cA65, .int)] s := hK
      obtain ⟨rfl, rfl, rfl⟩ := hw
      refine W.eq (g2 := F0 m 117 ls []) rfl ?_
      refine lv_aload_n hx hb dX2_enter_117 rfl (lv_at hl 1 rfl) ?_
      refine lv_iload_n hx hb dX2_enter_118 rfl (lv_at hl 0 rfl) ?_
      refine lv_iconst (v := iI 5) hx hb dX2_enter_119 rfl ?_
      refine lv_aload_n hx hb dX2_enter_120 rfl (lv_at hl 1 rfl) ?_
      refine va_get (D := (dC, dI)) (ci := 2) (v := .ref h) (C := RX2) (T := TX2) (N := 5) hx hb hT inX2 hown hK hP 2 rfl rfl 1 (by decide) (hT _ wd104) (fun _ h9 => h9) rfl dX2_enter_121 ?_
      refine va_getN (D := (dC, dI)) (ci := 1) (v := .int (iI sz1)) (C := RX1) (T := TX1) (N := 6) hx hb hT inX1 hown hK hP 0 rfl rfl 4 (by decide) (va_Nw.use rfl hN.2.2.2.2.1) (fun _ h9 => h9) rfl dX2_enter_124 ?_
      have hPc := hP.sub (ws' := [(nd, .inr (2, [.ref b, .ref h, .ref r64, .int (iI (mn + 1)), .int (iI sx)])), (r64, .inl (cA65, (((min 16384 (2 * (M : Int))) : Int).toNat), .inl (fun j => iI ((vf_upd (vf_upd (vf_upd (vf_upd (vf_upd t66 (mn * 8 + 0).toNat kd) (mn * 8 + 1).toNat tg) (mn * 8 + 2).toNat cs) (mn * 8 + 3).toNat i) (mn * 8 + 4).toNat ct) j))))]) [2, 3] rfl
      have hDc := hD.sub (ws' := [(nd, .inr (2, [.ref b, .ref h, .ref r64, .int (iI (mn + 1)), .int (iI sx)])), (r64, .inl (cA65, (((min 16384 (2 * (M : Int))) : Int).toNat), .inl (fun j => iI ((vf_upd (vf_upd (vf_upd (vf_upd (vf_upd t66 (mn * 8 + 0).toNat kd) (mn * 8 + 1).toNat tg) (mn * 8 + 2).toNat cs) (mn * 8 + 3).toNat i) (mn * 8 + 4).toNat ct) j))))]) [2, 3] (by decide) rfl
      have hKc := hK.sub (tys' := [(cA65, .int)]) [1] rfl
      have hFc := va_free (wc := [(nd, .inr (2, [.ref b, .ref h, .ref r64, .int (iI (mn + 1)), .int (iI sx)])), (r64, .inl (cA65, (((min 16384 (2 * (M : Int))) : Int).toNat), .inl (fun j => iI ((vf_upd (vf_upd (vf_upd (vf_upd (vf_upd t66 (mn * 8 + 0).toNat kd) (mn * 8 + 1).toNat tg) (mn * 8 + 2).toNat cs) (mn * 8 + 3).toNat i) (mn * 8 + 4).toNat ct) j))))]) hD hS hA [2, 3] rfl
      refine mv_call (mv_runV (As := [.int (iI mn), .int (iI 5), .int (iI sz1)]) (rest := []) ⟨hx, hb, hml, hown, hT⟩ (c_N_putV l dC dI H.size nd b h r64 (mn + 1) sx cA65 (((min 16384 (2 * (M : Int))) : Int).toNat) (vf_upd (vf_upd (vf_upd (vf_upd (vf_upd t66 (mn * 8 + 0).toNat kd) (mn * 8 + 1).toNat tg) (mn * 8 + 2).toNat cs) (mn * 8 + 3).toNat i) (mn * 8 + 4).toNat ct) mn 5 sz1 (by omega) (by omega) (by omega) (by omega) (by omega)) (cwV 3 hT (gV wd349 wd351 wd9 wd28 wd352) rfl rfl rfl (by decide +kernel) ⟨show 2 + 1 ≤ 3 from by omega, show 8 + (5 + 11) + 70 ≤ 130 from by omega⟩) ⟨fun a U g mk q => by obtain ⟨q0, q1, qP, qK, qD⟩ := q; exact ⟨q0, q1, qP, va_K.moved (u := U) (U := U.calling g mk a) (Vm.Alike.refl U.vm) qK, qD⟩, va_recv hKc hPc (ci := 2) (q0 := 0) rfl rfl, fun U hU hW => ⟨rfl, by rw [hU], by rw [hU]; exact hPc, va_K.moved hW.alike hKc, hDc.weaken (fun _ _ _ _ => trivial)⟩⟩ rfl rfl hl.1 rfl (lv_room (Nat.le_of_ble_eq_true rfl)) dX2_enter_127 ⟨show 0 + 1 + 0 + 0 + 0 + 0 + 0 + 0 ≤ (phR M) from by omega, show 0 + ((min 16384 (2 * (M : Int))) : Int).toNat + 0 + 0 + 0 + 0 + 0 + 0 ≤ (phR M) from by omega⟩) hS (fun q _ h => hFc q h) hFc (fun v111 u k109 n110 tS H1 locs ht hvm hw hB hz1 hk1 hS => ?_)
      obtain ⟨hP1, hK1, hD1⟩ := hB
      rw [ht] at hP1
      have hK1 := va_K.moved hvm.symm hK1
      try dsimp only at hw
      obtain ⟨hP, hD⟩ := va_join (wr := [(h, .inr (1, [.int (iI kd), .int (iI cs), .int (iI tg), .int (iI op), .int (iI sz1), .int (iI ct)])), (rw, .inl (cR, M, .inl (fun j => iI (V j))))]) (w1 := [(nd, .inr (2, [.ref b, .ref h, .ref r64, .int (iI (mn + 1)), .int (iI sx)])), (r64, .inl (cA65, (((min 16384 (2 * (M : Int))) : Int).toNat), .inl (fun j => iI ((vf_upd (vf_upd (vf_upd (vf_upd (vf_upd (vf_upd t66 (mn * 8 + 0).toNat kd) (mn * 8 + 1).toNat tg) (mn * 8 + 2).toNat cs) (mn * 8 + 3).toNat i) (mn * 8 + 4).toNat ct) (mn * 8 + 5).toNat sz1) j))))]) hP hD [2, 3] [0, 1] rfl rfl (by decide) (by decide) hk1 hFc hP1 hD1
      have hK := (hK.sub (tys' := [(cR, .int)]) [0] rfl).app hK1
      generalize H1 = H at hP hS ⊢
      have hP : va_P (dC, dI) vwCl [(h, .inr (1, [.int (iI kd), .int (iI cs), .int (iI tg), .int (iI op), .int (iI sz1), .int (iI ct)])), (rw, .inl (cR, M, .inl (fun j => iI (V j)))), (nd, .inr (2, [.ref b, .ref h, .ref r64, .int (iI (mn + 1)), .int (iI sx)])), (r64, .inl (cA65, (((min 16384 (2 * (M : Int))) : Int).toNat), .inl (fun j => iI ((vf_upd (vf_upd (vf_upd (vf_upd (vf_upd (vf_upd t66 (mn * 8 + 0).toNat kd) (mn * 8 + 1).toNat tg) (mn * 8 + 2).toNat cs) (mn * 8 + 3).toNat i) (mn * 8 + 4).toNat ct) (mn * 8 + 5).toNat sz1) j))))] H := hP
      have hD : va_D A [(h, .inr (1, [.int (iI kd), .int (iI cs), .int (iI tg), .int (iI op), .int (iI sz1), .int (iI ct)])), (rw, .inl (cR, M, .inl (fun j => iI (V j)))), (nd, .inr (2, [.ref b, .ref h, .ref r64, .int (iI (mn + 1)), .int (iI sx)])), (r64, .inl (cA65, (((min 16384 (2 * (M : Int))) : Int).toNat), .inl (fun j => iI ((vf_upd (vf_upd (vf_upd (vf_upd (vf_upd (vf_upd t66 (mn * 8 + 0).toNat kd) (mn * 8 + 1).toNat tg) (mn * 8 + 2).toNat cs) (mn * 8 + 3).toNat i) (mn * 8 + 4).toNat ct) (mn * 8 + 5).toNat sz1) j))))] := hD
      have hK : va_K (dC, dI) vwCl [(cR, .int), (cA65, .int)] s := hK
      obtain ⟨rfl, rfl, rfl⟩ := hw
      refine W.eq (g2 := F0 m 130 ls []) rfl ?_
      refine lv_aload_n hx hb dX2_enter_130 rfl (lv_at hl 1 rfl) ?_
      refine lv_iload_n hx hb dX2_enter_131 rfl (lv_at hl 0 rfl) ?_
      refine lv_bipush (v := iI 6) hx hb dX2_enter_132 (by decide +kernel) ?_
      refine lv_iload_n hx hb dX2_enter_134 rfl (lv_at hl 3 rfl) ?_
      have hPc := hP.sub (ws' := [(nd, .inr (2, [.ref b, .ref h, .ref r64, .int (iI (mn + 1)), .int (iI sx)])), (r64, .inl (cA65, (((min 16384 (2 * (M : Int))) : Int).toNat), .inl (fun j => iI ((vf_upd (vf_upd (vf_upd (vf_upd (vf_upd (vf_upd t66 (mn * 8 + 0).toNat kd) (mn * 8 + 1).toNat tg) (mn * 8 + 2).toNat cs) (mn * 8 + 3).toNat i) (mn * 8 + 4).toNat ct) (mn * 8 + 5).toNat sz1) j))))]) [2, 3] rfl
      have hDc := hD.sub (ws' := [(nd, .inr (2, [.ref b, .ref h, .ref r64, .int (iI (mn + 1)), .int (iI sx)])), (r64, .inl (cA65, (((min 16384 (2 * (M : Int))) : Int).toNat), .inl (fun j => iI ((vf_upd (vf_upd (vf_upd (vf_upd (vf_upd (vf_upd t66 (mn * 8 + 0).toNat kd) (mn * 8 + 1).toNat tg) (mn * 8 + 2).toNat cs) (mn * 8 + 3).toNat i) (mn * 8 + 4).toNat ct) (mn * 8 + 5).toNat sz1) j))))]) [2, 3] (by decide) rfl
      have hKc := hK.sub (tys' := [(cA65, .int)]) [1] rfl
      have hFc := va_free (wc := [(nd, .inr (2, [.ref b, .ref h, .ref r64, .int (iI (mn + 1)), .int (iI sx)])), (r64, .inl (cA65, (((min 16384 (2 * (M : Int))) : Int).toNat), .inl (fun j => iI ((vf_upd (vf_upd (vf_upd (vf_upd (vf_upd (vf_upd t66 (mn * 8 + 0).toNat kd) (mn * 8 + 1).toNat tg) (mn * 8 + 2).toNat cs) (mn * 8 + 3).toNat i) (mn * 8 + 4).toNat ct) (mn * 8 + 5).toNat sz1) j))))]) hD hS hA [2, 3] rfl
      refine mv_call (mv_runV (As := [.int (iI mn), .int (iI 6), .int (iI pr)]) (rest := []) ⟨hx, hb, hml, hown, hT⟩ (c_N_putV l dC dI H.size nd b h r64 (mn + 1) sx cA65 (((min 16384 (2 * (M : Int))) : Int).toNat) (vf_upd (vf_upd (vf_upd (vf_upd (vf_upd (vf_upd t66 (mn * 8 + 0).toNat kd) (mn * 8 + 1).toNat tg) (mn * 8 + 2).toNat cs) (mn * 8 + 3).toNat i) (mn * 8 + 4).toNat ct) (mn * 8 + 5).toNat sz1) mn 6 pr (by omega) (by omega) (by omega) (by omega) (by omega)) (cwV 3 hT (gV wd349 wd351 wd9 wd28 wd352) rfl rfl rfl (by decide +kernel) ⟨show 2 + 1 ≤ 3 from by omega, show 8 + (5 + 11) + 70 ≤ 130 from by omega⟩) ⟨fun a U g mk q => by obtain ⟨q0, q1, qP, qK, qD⟩ := q; exact ⟨q0, q1, qP, va_K.moved (u := U) (U := U.calling g mk a) (Vm.Alike.refl U.vm) qK, qD⟩, va_recv hKc hPc (ci := 2) (q0 := 0) rfl rfl, fun U hU hW => ⟨rfl, by rw [hU], by rw [hU]; exact hPc, va_K.moved hW.alike hKc, hDc.weaken (fun _ _ _ _ => trivial)⟩⟩ rfl rfl hl.1 rfl (lv_room (Nat.le_of_ble_eq_true rfl)) dX2_enter_135 ⟨show 0 + 1 + 0 + 0 + 0 + 0 + 0 + 0 + 0 ≤ (phR M) from by omega, show 0 + ((min 16384 (2 * (M : Int))) : Int).toNat + 0 + 0 + 0 + 0 + 0 + 0 + 0 ≤ (phR M) from by omega⟩) hS (fun q _ h => hFc q h) hFc (fun v114 u k112 n113 tS H1 locs ht hvm hw hB hz1 hk1 hS => ?_)
      obtain ⟨hP1, hK1, hD1⟩ := hB
      rw [ht] at hP1
      have hK1 := va_K.moved hvm.symm hK1
      try dsimp only at hw
      obtain ⟨hP, hD⟩ := va_join (wr := [(h, .inr (1, [.int (iI kd), .int (iI cs), .int (iI tg), .int (iI op), .int (iI sz1), .int (iI ct)])), (rw, .inl (cR, M, .inl (fun j => iI (V j))))]) (w1 := [(nd, .inr (2, [.ref b, .ref h, .ref r64, .int (iI (mn + 1)), .int (iI sx)])), (r64, .inl (cA65, (((min 16384 (2 * (M : Int))) : Int).toNat), .inl (fun j => iI ((vf_upd (vf_upd (vf_upd (vf_upd (vf_upd (vf_upd (vf_upd t66 (mn * 8 + 0).toNat kd) (mn * 8 + 1).toNat tg) (mn * 8 + 2).toNat cs) (mn * 8 + 3).toNat i) (mn * 8 + 4).toNat ct) (mn * 8 + 5).toNat sz1) (mn * 8 + 6).toNat pr) j))))]) hP hD [2, 3] [0, 1] rfl rfl (by decide) (by decide) hk1 hFc hP1 hD1
      have hK := (hK.sub (tys' := [(cR, .int)]) [0] rfl).app hK1
      generalize H1 = H at hP hS ⊢
      have hP : va_P (dC, dI) vwCl [(h, .inr (1, [.int (iI kd), .int (iI cs), .int (iI tg), .int (iI op), .int (iI sz1), .int (iI ct)])), (rw, .inl (cR, M, .inl (fun j => iI (V j)))), (nd, .inr (2, [.ref b, .ref h, .ref r64, .int (iI (mn + 1)), .int (iI sx)])), (r64, .inl (cA65, (((min 16384 (2 * (M : Int))) : Int).toNat), .inl (fun j => iI ((vf_upd (vf_upd (vf_upd (vf_upd (vf_upd (vf_upd (vf_upd t66 (mn * 8 + 0).toNat kd) (mn * 8 + 1).toNat tg) (mn * 8 + 2).toNat cs) (mn * 8 + 3).toNat i) (mn * 8 + 4).toNat ct) (mn * 8 + 5).toNat sz1) (mn * 8 + 6).toNat pr) j))))] H := hP
      have hD : va_D A [(h, .inr (1, [.int (iI kd), .int (iI cs), .int (iI tg), .int (iI op), .int (iI sz1), .int (iI ct)])), (rw, .inl (cR, M, .inl (fun j => iI (V j)))), (nd, .inr (2, [.ref b, .ref h, .ref r64, .int (iI (mn + 1)), .int (iI sx)])), (r64, .inl (cA65, (((min 16384 (2 * (M : Int))) : Int).toNat), .inl (fun j => iI ((vf_upd (vf_upd (vf_upd (vf_upd (vf_upd (vf_upd (vf_upd t66 (mn * 8 + 0).toNat kd) (mn * 8 + 1).toNat tg) (mn * 8 + 2).toNat cs) (mn * 8 + 3).toNat i) (mn * 8 + 4).toNat ct) (mn * 8 + 5).toNat sz1) (mn * 8 + 6).toNat pr) j))))] := hD
      have hK : va_K (dC, dI) vwCl [(cR, .int), (cA65, .int)] s := hK
      obtain ⟨rfl, rfl, rfl⟩ := hw
      refine W.eq (g2 := F0 m 138 ls []) rfl ?_
      refine lv_aload_n hx hb dX2_enter_138 rfl (lv_at hl 1 rfl) ?_
      refine lv_iload_n hx hb dX2_enter_139 rfl (lv_at hl 0 rfl) ?_
      refine lv_bipush (v := iI 7) hx hb dX2_enter_140 (by decide +kernel) ?_
      refine lv_iconst (v := iI 0) hx hb dX2_enter_142 rfl ?_
      have hPc := hP.sub (ws' := [(nd, .inr (2, [.ref b, .ref h, .ref r64, .int (iI (mn + 1)), .int (iI sx)])), (r64, .inl (cA65, (((min 16384 (2 * (M : Int))) : Int).toNat), .inl (fun j => iI ((vf_upd (vf_upd (vf_upd (vf_upd (vf_upd (vf_upd (vf_upd t66 (mn * 8 + 0).toNat kd) (mn * 8 + 1).toNat tg) (mn * 8 + 2).toNat cs) (mn * 8 + 3).toNat i) (mn * 8 + 4).toNat ct) (mn * 8 + 5).toNat sz1) (mn * 8 + 6).toNat pr) j))))]) [2, 3] rfl
      have hDc := hD.sub (ws' := [(nd, .inr (2, [.ref b, .ref h, .ref r64, .int (iI (mn + 1)), .int (iI sx)])), (r64, .inl (cA65, (((min 16384 (2 * (M : Int))) : Int).toNat), .inl (fun j => iI ((vf_upd (vf_upd (vf_upd (vf_upd (vf_upd (vf_upd (vf_upd t66 (mn * 8 + 0).toNat kd) (mn * 8 + 1).toNat tg) (mn * 8 + 2).toNat cs) (mn * 8 + 3).toNat i) (mn * 8 + 4).toNat ct) (mn * 8 + 5).toNat sz1) (mn * 8 + 6).toNat pr) j))))]) [2, 3] (by decide) rfl
      have hKc := hK.sub (tys' := [(cA65, .int)]) [1] rfl
      have hFc := va_free (wc := [(nd, .inr (2, [.ref b, .ref h, .ref r64, .int (iI (mn + 1)), .int (iI sx)])), (r64, .inl (cA65, (((min 16384 (2 * (M : Int))) : Int).toNat), .inl (fun j => iI ((vf_upd (vf_upd (vf_upd (vf_upd (vf_upd (vf_upd (vf_upd t66 (mn * 8 + 0).toNat kd) (mn * 8 + 1).toNat tg) (mn * 8 + 2).toNat cs) (mn * 8 + 3).toNat i) (mn * 8 + 4).toNat ct) (mn * 8 + 5).toNat sz1) (mn * 8 + 6).toNat pr) j))))]) hD hS hA [2, 3] rfl
      refine mv_call (mv_runV (As := [.int (iI mn), .int (iI 7), .int (iI 0)]) (rest := []) ⟨hx, hb, hml, hown, hT⟩ (c_N_putV l dC dI H.size nd b h r64 (mn + 1) sx cA65 (((min 16384 (2 * (M : Int))) : Int).toNat) (vf_upd (vf_upd (vf_upd (vf_upd (vf_upd (vf_upd (vf_upd t66 (mn * 8 + 0).toNat kd) (mn * 8 + 1).toNat tg) (mn * 8 + 2).toNat cs) (mn * 8 + 3).toNat i) (mn * 8 + 4).toNat ct) (mn * 8 + 5).toNat sz1) (mn * 8 + 6).toNat pr) mn 7 0 (by omega) (by omega) (by omega) (by omega) (by omega)) (cwV 3 hT (gV wd349 wd351 wd9 wd28 wd352) rfl rfl rfl (by decide +kernel) ⟨show 2 + 1 ≤ 3 from by omega, show 8 + (5 + 11) + 70 ≤ 130 from by omega⟩) ⟨fun a U g mk q => by obtain ⟨q0, q1, qP, qK, qD⟩ := q; exact ⟨q0, q1, qP, va_K.moved (u := U) (U := U.calling g mk a) (Vm.Alike.refl U.vm) qK, qD⟩, va_recv hKc hPc (ci := 2) (q0 := 0) rfl rfl, fun U hU hW => ⟨rfl, by rw [hU], by rw [hU]; exact hPc, va_K.moved hW.alike hKc, hDc.weaken (fun _ _ _ _ => trivial)⟩⟩ rfl rfl hl.1 rfl (lv_room (Nat.le_of_ble_eq_true rfl)) dX2_enter_143 ⟨show 0 + 1 + 0 + 0 + 0 + 0 + 0 + 0 + 0 + 0 ≤ (phR M) from by omega, show 0 + ((min 16384 (2 * (M : Int))) : Int).toNat + 0 + 0 + 0 + 0 + 0 + 0 + 0 + 0 ≤ (phR M) from by omega⟩) hS (fun q _ h => hFc q h) hFc (fun v117 u k115 n116 tS H1 locs ht hvm hw hB hz1 hk1 hS => ?_)
      obtain ⟨hP1, hK1, hD1⟩ := hB
      rw [ht] at hP1
      have hK1 := va_K.moved hvm.symm hK1
      try dsimp only at hw
      obtain ⟨hP, hD⟩ := va_join (wr := [(h, .inr (1, [.int (iI kd), .int (iI cs), .int (iI tg), .int (iI op), .int (iI sz1), .int (iI ct)])), (rw, .inl (cR, M, .inl (fun j => iI (V j))))]) (w1 := [(nd, .inr (2, [.ref b, .ref h, .ref r64, .int (iI (mn + 1)), .int (iI sx)])), (r64, .inl (cA65, (((min 16384 (2 * (M : Int))) : Int).toNat), .inl (fun j => iI ((vf_upd (vf_upd (vf_upd (vf_upd (vf_upd (vf_upd (vf_upd (vf_upd t66 (mn * 8 + 0).toNat kd) (mn * 8 + 1).toNat tg) (mn * 8 + 2).toNat cs) (mn * 8 + 3).toNat i) (mn * 8 + 4).toNat ct) (mn * 8 + 5).toNat sz1) (mn * 8 + 6).toNat pr) (mn * 8 + 7).toNat 0) j))))]) hP hD [2, 3] [0, 1] rfl rfl (by decide) (by decide) hk1 hFc hP1 hD1
      have hK := (hK.sub (tys' := [(cR, .int)]) [0] rfl).app hK1
      generalize H1 = H at hP hS ⊢
      have hP : va_P (dC, dI) vwCl [(h, .inr (1, [.int (iI kd), .int (iI cs), .int (iI tg), .int (iI op), .int (iI sz1), .int (iI ct)])), (rw, .inl (cR, M, .inl (fun j => iI (V j)))), (nd, .inr (2, [.ref b, .ref h, .ref r64, .int (iI (mn + 1)), .int (iI sx)])), (r64, .inl (cA65, (((min 16384 (2 * (M : Int))) : Int).toNat), .inl (fun j => iI ((vf_upd (vf_upd (vf_upd (vf_upd (vf_upd (vf_upd (vf_upd (vf_upd t66 (mn * 8 + 0).toNat kd) (mn * 8 + 1).toNat tg) (mn * 8 + 2).toNat cs) (mn * 8 + 3).toNat i) (mn * 8 + 4).toNat ct) (mn * 8 + 5).toNat sz1) (mn * 8 + 6).toNat pr) (mn * 8 + 7).toNat 0) j))))] H := hP
      have hD : va_D A [(h, .inr (1, [.int (iI kd), .int (iI cs), .int (iI tg), .int (iI op), .int (iI sz1), .int (iI ct)])), (rw, .inl (cR, M, .inl (fun j => iI (V j)))), (nd, .inr (2, [.ref b, .ref h, .ref r64, .int (iI (mn + 1)), .int (iI sx)])), (r64, .inl (cA65, (((min 16384 (2 * (M : Int))) : Int).toNat), .inl (fun j => iI ((vf_upd (vf_upd (vf_upd (vf_upd (vf_upd (vf_upd (vf_upd (vf_upd t66 (mn * 8 + 0).toNat kd) (mn * 8 + 1).toNat tg) (mn * 8 + 2).toNat cs) (mn * 8 + 3).toNat i) (mn * 8 + 4).toNat ct) (mn * 8 + 5).toNat sz1) (mn * 8 + 6).toNat pr) (mn * 8 + 7).toNat 0) j))))] := hD
      have hK : va_K (dC, dI) vwCl [(cR, .int), (cA65, .int)] s := hK
      obtain ⟨rfl, rfl, rfl⟩ := hw
      refine W.eq (g2 := F0 m 146 ls []) rfl ?_
      refine lv_aload_n hx hb dX2_enter_146 rfl (lv_at hl 1 rfl) ?_
      refine lv_iload_n hx hb dX2_enter_147 rfl (lv_at hl 3 rfl) ?_
      refine lv_bipush (v := iI 7) hx hb dX2_enter_148 (by decide +kernel) ?_
      refine lv_aload_n hx hb dX2_enter_150 rfl (lv_at hl 1 rfl) ?_
      refine lv_iload_n hx hb dX2_enter_151 rfl (lv_at hl 3 rfl) ?_
      refine lv_bipush (v := iI 7) hx hb dX2_enter_152 (by decide +kernel) ?_
      have hPc := hP.sub (ws' := [(nd, .inr (2, [.ref b, .ref h, .ref r64, .int (iI (mn + 1)), .int (iI sx)])), (r64, .inl (cA65, (((min 16384 (2 * (M : Int))) : Int).toNat), .inl (fun j => iI ((vf_upd (vf_upd (vf_upd (vf_upd (vf_upd (vf_upd (vf_upd (vf_upd t66 (mn * 8 + 0).toNat kd) (mn * 8 + 1).toNat tg) (mn * 8 + 2).toNat cs) (mn * 8 + 3).toNat i) (mn * 8 + 4).toNat ct) (mn * 8 + 5).toNat sz1) (mn * 8 + 6).toNat pr) (mn * 8 + 7).toNat 0) j))))]) [2, 3] rfl
      have hDc := hD.sub (ws' := [(nd, .inr (2, [.ref b, .ref h, .ref r64, .int (iI (mn + 1)), .int (iI sx)])), (r64, .inl (cA65, (((min 16384 (2 * (M : Int))) : Int).toNat), .inl (fun j => iI ((vf_upd (vf_upd (vf_upd (vf_upd (vf_upd (vf_upd (vf_upd (vf_upd t66 (mn * 8 + 0).toNat kd) (mn * 8 + 1).toNat tg) (mn * 8 + 2).toNat cs) (mn * 8 + 3).toNat i) (mn * 8 + 4).toNat ct) (mn * 8 + 5).toNat sz1) (mn * 8 + 6).toNat pr) (mn * 8 + 7).toNat 0) j))))]) [2, 3] (by decide) rfl
      have hKc := hK.sub (tys' := [(cA65, .int)]) [1] rfl
      have hFc := va_free (wc := [(nd, .inr (2, [.ref b, .ref h, .ref r64, .int (iI (mn + 1)), .int (iI sx)])), (r64, .inl (cA65, (((min 16384 (2 * (M : Int))) : Int).toNat), .inl (fun j => iI ((vf_upd (vf_upd (vf_upd (vf_upd (vf_upd (vf_upd (vf_upd (vf_upd t66 (mn * 8 + 0).toNat kd) (mn * 8 + 1).toNat tg) (mn * 8 + 2).toNat cs) (mn * 8 + 3).toNat i) (mn * 8 + 4).toNat ct) (mn * 8 + 5).toNat sz1) (mn * 8 + 6).toNat pr) (mn * 8 + 7).toNat 0) j))))]) hD hS hA [2, 3] rfl
      refine mv_call (mv_runV (As := [.int (iI pr), .int (iI 7)]) (rest := [.int (iI 7), .int (iI pr), .ref nd]) ⟨hx, hb, hml, hown, hT⟩ (c_N_get l dC dI H.size nd b h r64 (mn + 1) sx cA65 (((min 16384 (2 * (M : Int))) : Int).toNat) (vf_upd (vf_upd (vf_upd (vf_upd (vf_upd (vf_upd (vf_upd (vf_upd t66 (mn * 8 + 0).toNat kd) (mn * 8 + 1).toNat tg) (mn * 8 + 2).toNat cs) (mn * 8 + 3).toNat i) (mn * 8 + 4).toNat ct) (mn * 8 + 5).toNat sz1) (mn * 8 + 6).toNat pr) (mn * 8 + 7).toNat 0) pr 7 (by omega) (by omega) (by omega) (entN_rng hV0 (by omega) (by omega) (by omega) (by omega) (by omega) (by omega) (by omega)) (by omega) (by omega)) (cwV 2 hT (gV wd361 wd362 wd363 wd28 wd364) rfl rfl rfl (by decide +kernel) ⟨show 2 + 1 ≤ 3 from by omega, show 8 + (4 + 11) + 70 ≤ 130 from by omega⟩) ⟨fun a U g mk q => by obtain ⟨q0, q1, qP, qK, qD⟩ := q; exact ⟨q0, q1, qP, va_K.moved (u := U) (U := U.calling g mk a) (Vm.Alike.refl U.vm) qK, qD⟩, va_recv hKc hPc (ci := 2) (q0 := 0) rfl rfl, fun U hU hW => ⟨rfl, by rw [hU], by rw [hU]; exact hPc, va_K.moved hW.alike hKc, hDc.weaken (fun _ _ _ _ => trivial)⟩⟩ rfl rfl hl.1 rfl (lv_room (Nat.le_of_ble_eq_true rfl)) dX2_enter_154 ⟨show 0 + 1 + 0 + 0 + 0 + 0 + 0 + 0 + 0 + 0 + 0 ≤ (phR M) from by omega, show 0 + ((min 16384 (2 * (M : Int))) : Int).toNat + 0 + 0 + 0 + 0 + 0 + 0 + 0 + 0 + 0 ≤ (phR M) from by omega⟩) hS (fun q _ h => hFc q h) hFc (fun v120 u k118 n119 tS H1 locs ht hvm hw hB hz1 hk1 hS => ?_)
      obtain ⟨q121, rfl⟩ : ∃ y, y = u := ⟨_, rfl⟩
      obtain ⟨hP1, hK1, hD1⟩ := hB
      rw [ht] at hP1
      have hK1 := va_K.moved hvm.symm hK1
      try dsimp only at hw
      obtain ⟨hP, hD⟩ := va_join (wr := [(h, .inr (1, [.int (iI kd), .int (iI cs), .int (iI tg), .int (iI op), .int (iI sz1), .int (iI ct)])), (rw, .inl (cR, M, .inl (fun j => iI (V j))))]) (w1 := [(nd, .inr (2, [.ref b, .ref h, .ref r64, .int (iI (mn + 1)), .int (iI sx)])), (r64, .inl (cA65, (((min 16384 (2 * (M : Int))) : Int).toNat), .inl (fun j => iI ((vf_upd (vf_upd (vf_upd (vf_upd (vf_upd (vf_upd (vf_upd (vf_upd t66 (mn * 8 + 0).toNat kd) (mn * 8 + 1).toNat tg) (mn * 8 + 2).toNat cs) (mn * 8 + 3).toNat i) (mn * 8 + 4).toNat ct) (mn * 8 + 5).toNat sz1) (mn * 8 + 6).toNat pr) (mn * 8 + 7).toNat 0) j))))]) hP hD [2, 3] [0, 1] rfl rfl (by decide) (by decide) hk1 hFc hP1 hD1
      have hK := (hK.sub (tys' := [(cR, .int)]) [0] rfl).app hK1
      generalize H1 = H at hP hS ⊢
      have hP : va_P (dC, dI) vwCl [(h, .inr (1, [.int (iI kd), .int (iI cs), .int (iI tg), .int (iI op), .int (iI sz1), .int (iI ct)])), (rw, .inl (cR, M, .inl (fun j => iI (V j)))), (nd, .inr (2, [.ref b, .ref h, .ref r64, .int (iI (mn + 1)), .int (iI sx)])), (r64, .inl (cA65, (((min 16384 (2 * (M : Int))) : Int).toNat), .inl (fun j => iI ((vf_upd (vf_upd (vf_upd (vf_upd (vf_upd (vf_upd (vf_upd (vf_upd t66 (mn * 8 + 0).toNat kd) (mn * 8 + 1).toNat tg) (mn * 8 + 2).toNat cs) (mn * 8 + 3).toNat i) (mn * 8 + 4).toNat ct) (mn * 8 + 5).toNat sz1) (mn * 8 + 6).toNat pr) (mn * 8 + 7).toNat 0) j))))] H := hP
      have hD : va_D A [(h, .inr (1, [.int (iI kd), .int (iI cs), .int (iI tg), .int (iI op), .int (iI sz1), .int (iI ct)])), (rw, .inl (cR, M, .inl (fun j => iI (V j)))), (nd, .inr (2, [.ref b, .ref h, .ref r64, .int (iI (mn + 1)), .int (iI sx)])), (r64, .inl (cA65, (((min 16384 (2 * (M : Int))) : Int).toNat), .inl (fun j => iI ((vf_upd (vf_upd (vf_upd (vf_upd (vf_upd (vf_upd (vf_upd (vf_upd t66 (mn * 8 + 0).toNat kd) (mn * 8 + 1).toNat tg) (mn * 8 + 2).toNat cs) (mn * 8 + 3).toNat i) (mn * 8 + 4).toNat ct) (mn * 8 + 5).toNat sz1) (mn * 8 + 6).toNat pr) (mn * 8 + 7).toNat 0) j))))] := hD
      have hK : va_K (dC, dI) vwCl [(cR, .int), (cA65, .int)] s := hK
      obtain ⟨rfl, hqv120, hrv120, rfl, rfl⟩ := hw
      refine W.eq (g2 := F0 m 157 ls [.int (iI q121), .int (iI 7), .int (iI pr), .ref nd]) rfl ?_
      refine lv_iconst (v := iI 1) hx hb dX2_enter_157 rfl ?_
      refine li_iadd hx hb dX2_enter_158 ?_
      have hPc := hP.sub (ws' := [(nd, .inr (2, [.ref b, .ref h, .ref r64, .int (iI (mn + 1)), .int (iI sx)])), (r64, .inl (cA65, (((min 16384 (2 * (M : Int))) : Int).toNat), .inl (fun j => iI ((vf_upd (vf_upd (vf_upd (vf_upd (vf_upd (vf_upd (vf_upd (vf_upd t66 (mn * 8 + 0).toNat kd) (mn * 8 + 1).toNat tg) (mn * 8 + 2).toNat cs) (mn * 8 + 3).toNat i) (mn * 8 + 4).toNat ct) (mn * 8 + 5).toNat sz1) (mn * 8 + 6).toNat pr) (mn * 8 + 7).toNat 0) j))))]) [2, 3] rfl
      have hDc := hD.sub (ws' := [(nd, .inr (2, [.ref b, .ref h, .ref r64, .int (iI (mn + 1)), .int (iI sx)])), (r64, .inl (cA65, (((min 16384 (2 * (M : Int))) : Int).toNat), .inl (fun j => iI ((vf_upd (vf_upd (vf_upd (vf_upd (vf_upd (vf_upd (vf_upd (vf_upd t66 (mn * 8 + 0).toNat kd) (mn * 8 + 1).toNat tg) (mn * 8 + 2).toNat cs) (mn * 8 + 3).toNat i) (mn * 8 + 4).toNat ct) (mn * 8 + 5).toNat sz1) (mn * 8 + 6).toNat pr) (mn * 8 + 7).toNat 0) j))))]) [2, 3] (by decide) rfl
      have hKc := hK.sub (tys' := [(cA65, .int)]) [1] rfl
      have hFc := va_free (wc := [(nd, .inr (2, [.ref b, .ref h, .ref r64, .int (iI (mn + 1)), .int (iI sx)])), (r64, .inl (cA65, (((min 16384 (2 * (M : Int))) : Int).toNat), .inl (fun j => iI ((vf_upd (vf_upd (vf_upd (vf_upd (vf_upd (vf_upd (vf_upd (vf_upd t66 (mn * 8 + 0).toNat kd) (mn * 8 + 1).toNat tg) (mn * 8 + 2).toNat cs) (mn * 8 + 3).toNat i) (mn * 8 + 4).toNat ct) (mn * 8 + 5).toNat sz1) (mn * 8 + 6).toNat pr) (mn * 8 + 7).toNat 0) j))))]) hD hS hA [2, 3] rfl
      refine mv_call (mv_runV (As := [.int (iI pr), .int (iI 7), .int (iI (q121 + 1))]) (rest := []) ⟨hx, hb, hml, hown, hT⟩ (c_N_put l dC dI H.size nd b h r64 (mn + 1) sx cA65 (((min 16384 (2 * (M : Int))) : Int).toNat) (vf_upd (vf_upd (vf_upd (vf_upd (vf_upd (vf_upd (vf_upd (vf_upd t66 (mn * 8 + 0).toNat kd) (mn * 8 + 1).toNat tg) (mn * 8 + 2).toNat cs) (mn * 8 + 3).toNat i) (mn * 8 + 4).toNat ct) (mn * 8 + 5).toNat sz1) (mn * 8 + 6).toNat pr) (mn * 8 + 7).toNat 0) pr 7 (q121 + 1) (by omega) (by omega) (by omega) (by omega) (by omega)) (cwV 3 hT (gV wd349 wd351 wd9 wd28 wd352) rfl rfl rfl (by decide +kernel) ⟨show 2 + 1 ≤ 3 from by omega, show 8 + (5 + 11) + 70 ≤ 130 from by omega⟩) ⟨fun a U g mk q => by obtain ⟨q0, q1, qP, qK, qD⟩ := q; exact ⟨q0, q1, qP, va_K.moved (u := U) (U := U.calling g mk a) (Vm.Alike.refl U.vm) qK, qD⟩, va_recv hKc hPc (ci := 2) (q0 := 0) rfl rfl, fun U hU hW => ⟨rfl, by rw [hU], by rw [hU]; exact hPc, va_K.moved hW.alike hKc, hDc.weaken (fun _ _ _ _ => trivial)⟩⟩ rfl rfl hl.1 rfl (lv_room (Nat.le_of_ble_eq_true rfl)) dX2_enter_159 ⟨show 0 + 1 + 0 + 0 + 0 + 0 + 0 + 0 + 0 + 0 + 0 + 0 ≤ (phR M) from by omega, show 0 + ((min 16384 (2 * (M : Int))) : Int).toNat + 0 + 0 + 0 + 0 + 0 + 0 + 0 + 0 + 0 + 0 ≤ (phR M) from by omega⟩) hS (fun q _ h => hFc q h) hFc (fun v124 u k122 n123 tS H1 locs ht hvm hw hB hz1 hk1 hS => ?_)
      obtain ⟨V125, rfl⟩ : ∃ y, y = u := ⟨_, rfl⟩
      obtain ⟨hP1, hK1, hD1⟩ := hB
      rw [ht] at hP1
      have hK1 := va_K.moved hvm.symm hK1
      try dsimp only at hw
      obtain ⟨hP, hD⟩ := va_join (wr := [(h, .inr (1, [.int (iI kd), .int (iI cs), .int (iI tg), .int (iI op), .int (iI sz1), .int (iI ct)])), (rw, .inl (cR, M, .inl (fun j => iI (V j))))]) (w1 := [(nd, .inr (2, [.ref b, .ref h, .ref r64, .int (iI (mn + 1)), .int (iI sx)])), (r64, .inl (cA65, (((min 16384 (2 * (M : Int))) : Int).toNat), .inl (fun j => iI (V125 j))))]) hP hD [2, 3] [0, 1] rfl rfl (by decide) (by decide) hk1 hFc hP1 hD1
      have hK := (hK.sub (tys' := [(cR, .int)]) [0] rfl).app hK1
      generalize H1 = H at hP hS ⊢
      have hP : va_P (dC, dI) vwCl [(h, .inr (1, [.int (iI kd), .int (iI cs), .int (iI tg), .int (iI op), .int (iI sz1), .int (iI ct)])), (rw, .inl (cR, M, .inl (fun j => iI (V j)))), (nd, .inr (2, [.ref b, .ref h, .ref r64, .int (iI (mn + 1)), .int (iI sx)])), (r64, .inl (cA65, (((min 16384 (2 * (M : Int))) : Int).toNat), .inl (fun j => iI (V125 j))))] H := hP
      have hD : va_D A [(h, .inr (1, [.int (iI kd), .int (iI cs), .int (iI tg), .int (iI op), .int (iI sz1), .int (iI ct)])), (rw, .inl (cR, M, .inl (fun j => iI (V j)))), (nd, .inr (2, [.ref b, .ref h, .ref r64, .int (iI (mn + 1)), .int (iI sx)])), (r64, .inl (cA65, (((min 16384 (2 * (M : Int))) : Int).toNat), .inl (fun j => iI (V125 j))))] := hD
      have hK : va_K (dC, dI) vwCl [(cR, .int), (cA65, .int)] s := hK
      obtain ⟨hqv124, rfl, rfl, rfl⟩ := hw
      refine W.eq (g2 := F0 m 162 ls []) rfl ?_
      refine lv_iload_n hx hb dX2_enter_162 rfl (lv_at hl 0 rfl) ?_
      have hE := ent_fin hn3 h00 hqv120 hqv124
      have hr9 := ent_r9 (entN_rng hV0 (by omega) (by omega) (by omega) (by omega) (by omega) (by omega) (by omega)) (ent_q hoN h00 hpr hqv120) hqv124
      have hP9 := hP.sub (ws' := [(nd, .inr (2, [.ref b, .ref h, .ref r64, .int (iI (mn + 1)), .int (iI sx)])), (r64, .inl (cA65, (((min 16384 (2 * (M : Int))) : Int).toNat), .inl (fun j => iI (V125 j)))), (h, .inr (1, [.int (iI kd), .int (iI cs), .int (iI tg), .int (iI op), .int (iI sz1), .int (iI ct)]))]) [2, 3, 0] rfl
      have hD9 := hD.sub (ws' := [(nd, .inr (2, [.ref b, .ref h, .ref r64, .int (iI (mn + 1)), .int (iI sx)])), (r64, .inl (cA65, (((min 16384 (2 * (M : Int))) : Int).toNat), .inl (fun j => iI (V125 j)))), (h, .inr (1, [.int (iI kd), .int (iI cs), .int (iI tg), .int (iI op), .int (iI sz1), .int (iI ct)]))]) [2, 3, 0] (by decide) rfl
      have hK9 := hK.sub (tys' := [(cA65, .int)]) [1] rfl
      exact mv_iret hx hb hr hlocks (fun tS ht hW => ⟨⟨_, (r64, cA65, (((min 16384 (2 * (M : Int))) : Int).toNat), V125), rfl, ⟨rfl, okN_ent hoN hm8 (by omega) (by omega) (by omega) hr9 hE, hE, by omega, by omega⟩, by rw [ht]; exact hP9, va_K.moved hW.alike hK9, hD9⟩, hS.F ht⟩) hS.2.2 dX2_enter_163
