set_option maxHeartbeats 4000000 in
set_option maxRecDepth 100000 in
theorem c_M_next (l : Launch) (dC : Nat → ClassId) (dI : Nat → Nat → Nat) (sz : Nat) (mm : Nat) (fl : Int) (ta : Nat) (tz : Int) (ka : Nat) (nn : Int) (da : Nat) (ya : Nat) (pt : Int) (md : Int) (sx : Int) (cT : ClassId) (t : Nat → Int) (L : List Int) (hok : okB 4096 t tz L) (hpt : 0 ≤ pt ∧ pt ≤ 10000) : mv_Met l yX4_next wsX4_next ({ frames := 0, cells := 0, slots := 0, locals := 0 }) (va_Pc [.ref mm] (fun U => U.heap.size = sz ∧ va_P (dC, dI) vwCl [(mm, .inr (4, [.int (iI fl), .ref ta, .int (iI tz), .ref ka, .int (iI nn), .ref da, .ref ya, .int (iI pt), .int (iI md), .int (iI sx)])), (ta, .inl (cT, 4096, .inl (fun j => bI (t j))))] U.heap ∧ va_K (dC, dI) vwCl [(cT, .byte)] U ∧ va_D (fun _ => True) [(mm, .inr (4, [.int (iI fl), .ref ta, .int (iI tz), .ref ka, .int (iI nn), .ref da, .ref ya, .int (iI pt), .int (iI md), .int (iI sx)])), (ta, .inl (cT, 4096, .inl (fun j => bI (t j))))])) (mv_Q (fun (v : Option Value) (u : Int × Int) (k n : Nat) => match u with | (pt', q') => v = some (.int (iI q')) ∧ pt' = pt + 1 ∧ (pt < tz ∧ q' = gd L pt ∨ tz ≤ pt ∧ q' = -1) ∧ (-1 ≤ q' ∧ q' < 256) ∧ k = 0 ∧ n = 0) (fun (u : Int × Int) (tS : State) => match u with | (pt', q') => va_P (dC, dI) vwCl [(mm, .inr (4, [.int (iI fl), .ref ta, .int (iI tz), .ref ka, .int (iI nn), .ref da, .ref ya, .int (iI pt'), .int (iI md), .int (iI sx)])), (ta, .inl (cT, 4096, .inl (fun j => bI (t j))))] tS.heap ∧ va_K (dC, dI) vwCl [(cT, .byte)] tS ∧ va_D (va_A [(mm, .inr (4, [.int (iI fl), .ref ta, .int (iI tz), .ref ka, .int (iI nn), .ref da, .ref ya, .int (iI pt), .int (iI md), .int (iI sx)])), (ta, .inl (cT, 4096, .inl (fun j => bI (t j))))] sz) [(mm, .inr (4, [.int (iI fl), .ref ta, .int (iI tz), .ref ka, .int (iI nn), .ref da, .ref ya, .int (iI pt'), .int (iI md), .int (iI sx)])), (ta, .inl (cT, 4096, .inl (fun j => bI (t j))))]) (va_A [(mm, .inr (4, [.int (iI fl), .ref ta, .int (iI tz), .ref ka, .int (iI nn), .ref da, .ref ya, .int (iI pt), .int (iI md), .int (iI sx)])), (ta, .inl (cT, 4096, .inl (fun j => bI (t j))))] sz)) (va_A [(mm, .inr (4, [.int (iI fl), .ref ta, .int (iI tz), .ref ka, .int (iI nn), .ref da, .ref ya, .int (iI pt), .int (iI md), .int (iI sx)])), (ta, .inl (cT, 4096, .inl (fun j => bI (t j))))] sz) := by
  refine mv_ofW (cc := cX4_next) (maxL := 2) (ret := (some .int)) (by decide) rfl ?_
  intro p e s m args below meth c s₁ B hml hv
  obtain ⟨rfl, hsz, hP, hK, hD0⟩ := hv
  have hx := B.exec
  have hb := B.bytes
  have hr := B.returns
  have hT : ∀ w ∈ wT, w.before _ s = true := fun w h => atoms_spec (ws := wsX4_next) B.pre w (List.mem_cons_of_mem _ h)
  have hown : s.vm.findClass RX4 = some m.cls := findClass_of_methodNamed B.named
  have hlocks := B.notSynchronized
  subst hsz
  have hD := hD0.self (sz := s.heap.size)
  generalize hAe : va_A [(mm, .inr (4, [.int (iI fl), .ref ta, .int (iI tz), .ref ka, .int (iI nn), .ref da, .ref ya, .int (iI pt), .int (iI md), .int (iI sx)])), (ta, .inl (cT, 4096, .inl (fun j => bI (t j))))] s.heap.size = A at hD ⊢
  have hA : ∀ q : Nat, s.heap.size ≤ q → A q := fun q h => by rw [← hAe]; exact Or.inr h
  have hS : va_S A s.heap s.heap [] := va_S.rf
  have hP : va_P (dC, dI) vwCl [(mm, .inr (4, [.int (iI fl), .ref ta, .int (iI tz), .ref ka, .int (iI nn), .ref da, .ref ya, .int (iI pt), .int (iI md), .int (iI sx)])), (ta, .inl (cT, 4096, .inl (fun j => bI (t j))))] s.heap := hP
  have hl := lv_entry ([.ref mm]) (n := 2) (Nat.le_of_ble_eq_true rfl)
  rw [lg_entry_eq]
  generalize (lg_sl ([.ref mm]) ++ List.replicate (2 - (lg_sl ([.ref mm])).length) Slot.unset).toArray = ls at hl ⊢
  have hl : lv_has ls 2 [(0, .ref mm)] := hl
  obtain ⟨hw1, hw2, hw3, hw4, hw5, hw6⟩ := id hok
  have hg8 := gd_rng hok
  refine lv_aload_n hx hb dX4_next_0 rfl (lv_at hl 0 rfl) ?_
  refine va_get (D := (dC, dI)) (ci := 4) (v := .int (iI pt)) (C := RX4) (T := TX4) (N := 10) hx hb hT inX4 hown hK hP 0 rfl rfl 7 (by decide) (hT _ wd524) (fun _ h9 => h9) rfl dX4_next_1 ?_
  refine lv_aload_n hx hb dX4_next_4 rfl (lv_at hl 0 rfl) ?_
  refine va_get (D := (dC, dI)) (ci := 4) (v := .int (iI tz)) (C := RX4) (T := TX4) (N := 10) hx hb hT inX4 hown hK hP 0 rfl rfl 2 (by decide) (hT _ wd519) (fun _ h9 => h9) rfl dX4_next_5 ?_
  refine li_icmp_ge (tgt := 27) hx hb (by omega) (by omega) dX4_next_8 (by decide) (fun c1 => ?_) (fun c1 => ?_)
  · skip
    refine lv_iconst (v := iI (-1)) hx hb dX4_next_27 rfl ?_
    refine lv_istore_n (lv' := [(1, .int (iI (-1))), (0, .ref mm)]) hx hb dX4_next_28 rfl hl (by decide) rfl (fun ls hl => ?_)
    refine lv_aload_n hx hb dX4_next_29 rfl (lv_at hl 1 rfl) ?_
    refine lv_dup hx hb dX4_next_30 rfl ?_
    refine va_get (D := (dC, dI)) (ci := 4) (v := .int (iI pt)) (C := RX4) (T := TX4) (N := 10) hx hb hT inX4 hown hK hP 0 rfl rfl 7 (by decide) (hT _ wd524) (fun _ h9 => h9) rfl dX4_next_31 ?_
    refine lv_iconst (v := iI 1) hx hb dX4_next_34 rfl ?_
    refine li_iadd hx hb dX4_next_35 ?_
    refine li_nm (fun z2 ez2 => ?_)
    refine va_put (D := (dC, dI)) (ci := 4) (v := .int (iI z2)) (ty := .int) (C := RX4) (T := TX4) (N := 10) hx hb hT inX4 tyX4 tyX4_ok nX4 hown hK hP hD hS 0 rfl rfl 7 (by decide) (hT _ wd524) (fun _ h9 => h9) rfl (by decide +kernel) rfl rfl (Nat.le_of_ble_eq_true rfl) dX4_next_36 (fun H locs hP hD hS => ?_)
    have hP : va_P (dC, dI) vwCl [(mm, .inr (4, [.int (iI fl), .ref ta, .int (iI tz), .ref ka, .int (iI nn), .ref da, .ref ya, .int (iI z2), .int (iI md), .int (iI sx)])), (ta, .inl (cT, 4096, .inl (fun j => bI (t j))))] H := hP
    have hD : va_D A [(mm, .inr (4, [.int (iI fl), .ref ta, .int (iI tz), .ref ka, .int (iI nn), .ref da, .ref ya, .int (iI z2), .int (iI md), .int (iI sx)])), (ta, .inl (cT, 4096, .inl (fun j => bI (t j))))] := hD
    refine lv_iload_n hx hb dX4_next_39 rfl (lv_at hl 0 rfl) ?_
    have hgp := hg8 pt
    have hta : pt < tz → t (pt : Int).toNat % 256 = gd L pt := fun h => gd_in hok (by omega)
    have hP9 := hP.sub (ws' := [(mm, .inr (4, [.int (iI fl), .ref ta, .int (iI tz), .ref ka, .int (iI nn), .ref da, .ref ya, .int (iI z2), .int (iI md), .int (iI sx)])), (ta, .inl (cT, 4096, .inl (fun j => bI (t j))))]) [0, 1] rfl
    have hD9 := hD.sub (ws' := [(mm, .inr (4, [.int (iI fl), .ref ta, .int (iI tz), .ref ka, .int (iI nn), .ref da, .ref ya, .int (iI z2), .int (iI md), .int (iI sx)])), (ta, .inl (cT, 4096, .inl (fun j => bI (t j))))]) [0, 1] (by decide) rfl
    have hK9 := hK.sub (tys' := [(cT, .byte)]) [0] rfl
    exact mv_iret hx hb hr hlocks (fun tS ht hW => ⟨⟨_, (z2, (-1)), rfl, ⟨rfl, by omega, by omega, by omega, by omega, by omega⟩, by rw [ht]; exact hP9, va_K.moved hW.alike hK9, hD9⟩, hS.F ht⟩) hS.2.2 dX4_next_40
  · skip
    refine lv_aload_n hx hb dX4_next_11 rfl (lv_at hl 0 rfl) ?_
    refine va_get (D := (dC, dI)) (ci := 4) (v := .ref ta) (C := RX4) (T := TX4) (N := 10) hx hb hT inX4 hown hK hP 0 rfl rfl 1 (by decide) (hT _ wd518) (fun _ h9 => h9) rfl dX4_next_12 ?_
    refine lv_aload_n hx hb dX4_next_15 rfl (lv_at hl 0 rfl) ?_
    refine va_get (D := (dC, dI)) (ci := 4) (v := .int (iI pt)) (C := RX4) (T := TX4) (N := 10) hx hb hT inX4 hown hK hP 0 rfl rfl 7 (by decide) (hT _ wd524) (fun _ h9 => h9) rfl dX4_next_16 ?_
    refine li_bald hx hb hK hP 1 0 rfl rfl (z := pt) (by omega) (by omega) dX4_next_19 ?_
    refine lv_sipush (v := iI 255) hx hb dX4_next_20 (by decide +kernel) ?_
    refine li_bandb hx hb dX4_next_23 ?_
    refine lv_goto (tgt := 28) hx hb dX4_next_24 (by decide) ?_
    refine li_nm (fun z3 ez3 => ?_)
    refine lv_istore_n (lv' := [(1, .int (iI z3)), (0, .ref mm)]) hx hb dX4_next_28 rfl hl (by decide) rfl (fun ls hl => ?_)
    refine lv_aload_n hx hb dX4_next_29 rfl (lv_at hl 1 rfl) ?_
    refine lv_dup hx hb dX4_next_30 rfl ?_
    refine va_get (D := (dC, dI)) (ci := 4) (v := .int (iI pt)) (C := RX4) (T := TX4) (N := 10) hx hb hT inX4 hown hK hP 0 rfl rfl 7 (by decide) (hT _ wd524) (fun _ h9 => h9) rfl dX4_next_31 ?_
    refine lv_iconst (v := iI 1) hx hb dX4_next_34 rfl ?_
    refine li_iadd hx hb dX4_next_35 ?_
    refine li_nm (fun z4 ez4 => ?_)
    refine va_put (D := (dC, dI)) (ci := 4) (v := .int (iI z4)) (ty := .int) (C := RX4) (T := TX4) (N := 10) hx hb hT inX4 tyX4 tyX4_ok nX4 hown hK hP hD hS 0 rfl rfl 7 (by decide) (hT _ wd524) (fun _ h9 => h9) rfl (by decide +kernel) rfl rfl (Nat.le_of_ble_eq_true rfl) dX4_next_36 (fun H locs hP hD hS => ?_)
    have hP : va_P (dC, dI) vwCl [(mm, .inr (4, [.int (iI fl), .ref ta, .int (iI tz), .ref ka, .int (iI nn), .ref da, .ref ya, .int (iI z4), .int (iI md), .int (iI sx)])), (ta, .inl (cT, 4096, .inl (fun j => bI (t j))))] H := hP
    have hD : va_D A [(mm, .inr (4, [.int (iI fl), .ref ta, .int (iI tz), .ref ka, .int (iI nn), .ref da, .ref ya, .int (iI z4), .int (iI md), .int (iI sx)])), (ta, .inl (cT, 4096, .inl (fun j => bI (t j))))] := hD
    refine lv_iload_n hx hb dX4_next_39 rfl (lv_at hl 0 rfl) ?_
    have hgp := hg8 pt
    have hta : pt < tz → t (pt : Int).toNat % 256 = gd L pt := fun h => gd_in hok (by omega)
    have hP9 := hP.sub (ws' := [(mm, .inr (4, [.int (iI fl), .ref ta, .int (iI tz), .ref ka, .int (iI nn), .ref da, .ref ya, .int (iI z4), .int (iI md), .int (iI sx)])), (ta, .inl (cT, 4096, .inl (fun j => bI (t j))))]) [0, 1] rfl
    have hD9 := hD.sub (ws' := [(mm, .inr (4, [.int (iI fl), .ref ta, .int (iI tz), .ref ka, .int (iI nn), .ref da, .ref ya, .int (iI z4), .int (iI md), .int (iI sx)])), (ta, .inl (cT, 4096, .inl (fun j => bI (t j))))]) [0, 1] (by decide) rfl
    have hK9 := hK.sub (tys' := [(cT, .byte)]) [0] rfl
    exact mv_iret hx hb hr hlocks (fun tS ht hW => ⟨⟨_, (z4, z3), rfl, ⟨rfl, by omega, by omega, by omega, by omega, by omega⟩, by rw [ht]; exact hP9, va_K.moved hW.alike hK9, hD9⟩, hS.F ht⟩) hS.2.2 dX4_next_40
set_option maxHeartbeats 4000000 in
set_option maxRecDepth 100000 in
theorem c_M_length (l : Launch) (dC : Nat → ClassId) (dI : Nat → Nat → Nat) (sz : Nat) (mm : Nat) (fl : Int) (ta : Nat) (tz : Int) (ka : Nat) (nn : Int) (da : Nat) (ya : Nat) (pt : Int) (md : Int) (sx : Int) (cT : ClassId) (t : Nat → Int) (L : List Int) (hok : okB 4096 t tz L) (hsx : sx = 0 ∨ sx = 1) (hpt : 0 ≤ pt ∧ pt ≤ 4096) : mv_Met l yX4_length wsX4_length ({ frames := 1, cells := 0, slots := 0, locals := 60 }) (va_Pc [.ref mm] (fun U => U.heap.size = sz ∧ va_P (dC, dI) vwCl [(mm, .inr (4, [.int (iI fl), .ref ta, .int (iI tz), .ref ka, .int (iI nn), .ref da, .ref ya, .int (iI pt), .int (iI md), .int (iI sx)])), (ta, .inl (cT, 4096, .inl (fun j => bI (t j))))] U.heap ∧ va_K (dC, dI) vwCl [(cT, .byte)] U ∧ va_D (fun _ => True) [(mm, .inr (4, [.int (iI fl), .ref ta, .int (iI tz), .ref ka, .int (iI nn), .ref da, .ref ya, .int (iI pt), .int (iI md), .int (iI sx)])), (ta, .inl (cT, 4096, .inl (fun j => bI (t j))))])) (mv_Q (fun (v : Option Value) (u : Int × Int) (k n : Nat) => match u with | (pt', q') => v = some (.long (lI q')) ∧ lenP (gd L) tz sx pt q' pt' ∧ k = 0 ∧ n = 0) (fun (u : Int × Int) (tS : State) => match u with | (pt', q') => va_P (dC, dI) vwCl [(mm, .inr (4, [.int (iI fl), .ref ta, .int (iI tz), .ref ka, .int (iI nn), .ref da, .ref ya, .int (iI pt'), .int (iI md), .int (iI sx)])), (ta, .inl (cT, 4096, .inl (fun j => bI (t j))))] tS.heap ∧ va_K (dC, dI) vwCl [(cT, .byte)] tS ∧ va_D (va_A [(mm, .inr (4, [.int (iI fl), .ref ta, .int (iI tz), .ref ka, .int (iI nn), .ref da, .ref ya, .int (iI pt), .int (iI md), .int (iI sx)])), (ta, .inl (cT, 4096, .inl (fun j => bI (t j))))] sz) [(mm, .inr (4, [.int (iI fl), .ref ta, .int (iI tz), .ref ka, .int (iI nn), .ref da, .ref ya, .int (iI pt'), .int (iI md), .int (iI sx)])), (ta, .inl (cT, 4096, .inl (fun j => bI (t j))))]) (va_A [(mm, .inr (4, [.int (iI fl), .ref ta, .int (iI tz), .ref ka, .int (iI nn), .ref da, .ref ya, .int (iI pt), .int (iI md), .int (iI sx)])), (ta, .inl (cT, 4096, .inl (fun j => bI (t j))))] sz)) (va_A [(mm, .inr (4, [.int (iI fl), .ref ta, .int (iI tz), .ref ka, .int (iI nn), .ref da, .ref ya, .int (iI pt), .int (iI md), .int (iI sx)])), (ta, .inl (cT, 4096, .inl (fun j => bI (t j))))] sz) := by
  refine mv_ofW (cc := cX4_length) (maxL := 6) (ret := (some .long)) (by decide) rfl ?_
  intro p e s m args below meth c s₁ B hml hv
  obtain ⟨rfl, hsz, hP, hK, hD0⟩ := hv
  have hx := B.exec
  have hb := B.bytes
  have hr := B.returns
  have hT : ∀ w ∈ wT, w.before _ s = true := fun w h => atoms_spec (ws := wsX4_length) B.pre w (List.mem_cons_of_mem _ h)
  have hown : s.vm.findClass RX4 = some m.cls := findClass_of_methodNamed B.named
  have hlocks := B.notSynchronized
  subst hsz
  have hD := hD0.self (sz := s.heap.size)
  generalize hAe : va_A [(mm, .inr (4, [.int (iI fl), .ref ta, .int (iI tz), .ref ka, .int (iI nn), .ref da, .ref ya, .int (iI pt), .int (iI md), .int (iI sx)])), (ta, .inl (cT, 4096, .inl (fun j => bI (t j))))] s.heap.size = A at hD ⊢
  have hA : ∀ q : Nat, s.heap.size ≤ q → A q := fun q h => by rw [← hAe]; exact Or.inr h
  have hS : va_S A s.heap s.heap [] := va_S.rf
  have hP : va_P (dC, dI) vwCl [(mm, .inr (4, [.int (iI fl), .ref ta, .int (iI tz), .ref ka, .int (iI nn), .ref da, .ref ya, .int (iI pt), .int (iI md), .int (iI sx)])), (ta, .inl (cT, 4096, .inl (fun j => bI (t j))))] s.heap := hP
  have hl := lv_entry ([.ref mm]) (n := 6) (Nat.le_of_ble_eq_true rfl)
  rw [lg_entry_eq]
  generalize (lg_sl ([.ref mm]) ++ List.replicate (6 - (lg_sl ([.ref mm])).length) Slot.unset).toArray = ls at hl ⊢
  have hl : lv_has ls 6 [(0, .ref mm)] := hl
  obtain ⟨hw1, hw2, hw3, hw4, hw5, hw6⟩ := id hok
  have hg8 := gd_rng hok
  have hgpt := hg8 pt
  refine mv_nameQ (fun Q9 hQ9 => ?_)
  have LP : ∀ (fu : Nat) (g0 : Int) (y : Int) (jj : Int) (yy : Int) (p1 : Int) (H : Heap) (locs : List Loc) (ls : Array Slot) (kc ks : Nat), (g0 - 128 - jj < (fu : Int)) → (g0 = gd L pt ∧ 128 < g0 ∧ g0 < 256 ∧ pt < tz) → (0 ≤ jj ∧ jj ≤ g0 - 128) → (p1 = pt + 1 + jj ∧ p1 ≤ tz) → (0 ≤ y ∧ y ≤ 1099511627776 ∧ 0 ≤ yy ∧ (y = yy ∧ yy ≤ 4096 ∨ 4096 < y ∧ 4096 < yy ∨ y = yy ∧ yy ≤ 1099511627776 ∧ 4096 < yy)) → (llen (gd L) (gd L pt - 128).toNat (pt + 1) 0 = llen (gd L) (gd L pt - 128 - jj).toNat (pt + 1 + jj) yy) → (sx = 1 → 0 < jj → ¬ gd L (pt + 1) = 0) → (kc = 0 ∧ ks = 0) → va_K (dC, dI) vwCl [(cT, .byte)] s → va_P (dC, dI) vwCl [(mm, .inr (4, [.int (iI fl), .ref ta, .int (iI tz), .ref ka, .int (iI nn), .ref da, .ref ya, .int (iI p1), .int (iI md), .int (iI sx)])), (ta, .inl (cT, 4096, .inl (fun j => bI (t j))))] H → va_D A [(mm, .inr (4, [.int (iI fl), .ref ta, .int (iI tz), .ref ka, .int (iI nn), .ref da, .ref ya, .int (iI p1), .int (iI md), .int (iI sx)])), (ta, .inl (cT, 4096, .inl (fun j => bI (t j))))] → va_S A s.heap H locs → lv_has ls 6 [(0, .ref mm), (1, .int (iI g0)), (2, .long (lI y)), (4, .int (iI jj))] → W p l e ({ frames := 1, cells := 0, slots := 0, locals := 60 }) s m ([.ref mm] : List Value).toArray below meth c H locs kc ks Q9 (F0 m 41 ls []) := by
    intro fu
    induction fu with
    | zero =>
      intro g0 y jj yy p1 H locs ls kc ks hfu hg0 hj hp1 hy hn hs hkc hK hP hD hS hl
      exfalso
      omega
    | succ fu ih =>
      intro g0 y jj yy p1 H locs ls kc ks hfu hg0 hj hp1 hy hn hs hkc hK hP hD hS hl
      have hgq := hg8 (pt + 1 + jj)
      have hgp9 := hg8 p1
      have hge : jj = 0 → gd L p1 = gd L (pt + 1) := fun h => by rw [show p1 = pt + 1 by omega]
      have hfin : g0 - 128 ≤ jj → llen (gd L) (gd L pt - 128).toNat (pt + 1) 0 = yy := fun h => by rw [hn, show (gd L pt - 128 - jj).toNat = 0 by omega]; rfl
      refine lv_iload hx hb dX4_length_41 (lv_at hl 3 rfl) ?_
      refine lv_iload_n hx hb dX4_length_43 rfl (lv_at hl 1 rfl) ?_
      refine lv_sipush (v := iI 128) hx hb dX4_length_44 (by decide +kernel) ?_
      refine li_isub hx hb dX4_length_47 ?_
      refine li_icmp_ge (tgt := 104) hx hb (by omega) (by omega) dX4_length_48 (by decide) (fun c1 => ?_) (fun c1 => ?_)
      · skip
        refine lv_aload_n hx hb dX4_length_104 rfl (lv_at hl 0 rfl) ?_
        refine va_get (D := (dC, dI)) (ci := 4) (v := .int (iI sx)) (C := RX4) (T := TX4) (N := 10) hx hb hT inX4 hown hK hP 0 rfl rfl 9 (by decide) (hT _ wd526) (fun _ h9 => h9) rfl dX4_length_105 ?_
        refine li_if_eq (tgt := 125) hx hb (by omega) dX4_length_108 (by decide) (fun c2 => ?_) (fun c2 => ?_)
        · skip
          refine lv_lload_n hx hb dX4_length_125 rfl (lv_at hl 2 rfl) ?_
          subst hQ9
          have hP9 := hP.sub (ws' := [(mm, .inr (4, [.int (iI fl), .ref ta, .int (iI tz), .ref ka, .int (iI nn), .ref da, .ref ya, .int (iI p1), .int (iI md), .int (iI sx)])), (ta, .inl (cT, 4096, .inl (fun j => bI (t j))))]) [0, 1] rfl
          have hD9 := hD.sub (ws' := [(mm, .inr (4, [.int (iI fl), .ref ta, .int (iI tz), .ref ka, .int (iI nn), .ref da, .ref ya, .int (iI p1), .int (iI md), .int (iI sx)])), (ta, .inl (cT, 4096, .inl (fun j => bI (t j))))]) [0, 1] (by decide) rfl
          have hK9 := hK.sub (tys' := [(cT, .byte)]) [0] rfl
          exact mv_lret hx hb hr hlocks (fun tS ht hW => ⟨⟨_, (p1, y), rfl, ⟨rfl, Or.inr (Or.inr (Or.inr ⟨by omega, by omega, by omega, by omega, by omega, by omega, by omega, by omega⟩)), by omega, by omega⟩, by rw [ht]; exact hP9, va_K.moved hW.alike hK9, hD9⟩, hS.F ht⟩) hS.2.2 dX4_length_126
        · skip
          refine lv_lload_n hx hb dX4_length_111 rfl (lv_at hl 2 rfl) ?_
          refine lv_ldc2 (v := lI 128) hx hb hown (hT _ wd588) dX4_length_112 ?_
          refine li_lcmp_ge (tgt := 125) hx hb (by omega) (by omega) dX4_length_115 dX4_length_116 (by decide) (fun c3 => ?_) (fun c3 => ?_)
          · skip
            refine lv_lload_n hx hb dX4_length_125 rfl (lv_at hl 2 rfl) ?_
            subst hQ9
            have hP9 := hP.sub (ws' := [(mm, .inr (4, [.int (iI fl), .ref ta, .int (iI tz), .ref ka, .int (iI nn), .ref da, .ref ya, .int (iI p1), .int (iI md), .int (iI sx)])), (ta, .inl (cT, 4096, .inl (fun j => bI (t j))))]) [0, 1] rfl
            have hD9 := hD.sub (ws' := [(mm, .inr (4, [.int (iI fl), .ref ta, .int (iI tz), .ref ka, .int (iI nn), .ref da, .ref ya, .int (iI p1), .int (iI md), .int (iI sx)])), (ta, .inl (cT, 4096, .inl (fun j => bI (t j))))]) [0, 1] (by decide) rfl
            have hK9 := hK.sub (tys' := [(cT, .byte)]) [0] rfl
            exact mv_lret hx hb hr hlocks (fun tS ht hW => ⟨⟨_, (p1, y), rfl, ⟨rfl, Or.inr (Or.inr (Or.inr ⟨by omega, by omega, by omega, by omega, by omega, by omega, by omega, by omega⟩)), by omega, by omega⟩, by rw [ht]; exact hP9, va_K.moved hW.alike hK9, hD9⟩, hS.F ht⟩) hS.2.2 dX4_length_126
          · skip
            refine lv_ldc2 (v := lI (-2)) hx hb hown (by rw [show lI (-2) = (-2 : Int64) by decide +kernel]; exact hT _ wd586) dX4_length_119 ?_
            refine lv_goto (tgt := 126) hx hb dX4_length_122 (by decide) ?_
            subst hQ9
            have hP9 := hP.sub (ws' := [(mm, .inr (4, [.int (iI fl), .ref ta, .int (iI tz), .ref ka, .int (iI nn), .ref da, .ref ya, .int (iI p1), .int (iI md), .int (iI sx)])), (ta, .inl (cT, 4096, .inl (fun j => bI (t j))))]) [0, 1] rfl
            have hD9 := hD.sub (ws' := [(mm, .inr (4, [.int (iI fl), .ref ta, .int (iI tz), .ref ka, .int (iI nn), .ref da, .ref ya, .int (iI p1), .int (iI md), .int (iI sx)])), (ta, .inl (cT, 4096, .inl (fun j => bI (t j))))]) [0, 1] (by decide) rfl
            have hK9 := hK.sub (tys' := [(cT, .byte)]) [0] rfl
            exact mv_lret hx hb hr hlocks (fun tS ht hW => ⟨⟨_, (p1, (-2)), rfl, ⟨rfl, Or.inl ⟨rfl, Or.inr ⟨by omega, by omega⟩⟩, by omega, by omega⟩, by rw [ht]; exact hP9, va_K.moved hW.alike hK9, hD9⟩, hS.F ht⟩) hS.2.2 dX4_length_126
      · skip
        refine lv_aload_n hx hb dX4_length_51 rfl (lv_at hl 0 rfl) ?_
        have hPc := hP.sub (ws' := [(mm, .inr (4, [.int (iI fl), .ref ta, .int (iI tz), .ref ka, .int (iI nn), .ref da, .ref ya, .int (iI p1), .int (iI md), .int (iI sx)])), (ta, .inl (cT, 4096, .inl (fun j => bI (t j))))]) [0, 1] rfl
        have hDc := hD.sub (ws' := [(mm, .inr (4, [.int (iI fl), .ref ta, .int (iI tz), .ref ka, .int (iI nn), .ref da, .ref ya, .int (iI p1), .int (iI md), .int (iI sx)])), (ta, .inl (cT, 4096, .inl (fun j => bI (t j))))]) [0, 1] (by decide) rfl
        have hKc := hK.sub (tys' := [(cT, .byte)]) [0] rfl
        have hFc := va_free (wc := [(mm, .inr (4, [.int (iI fl), .ref ta, .int (iI tz), .ref ka, .int (iI nn), .ref da, .ref ya, .int (iI p1), .int (iI md), .int (iI sx)])), (ta, .inl (cT, 4096, .inl (fun j => bI (t j))))]) hD hS hA [0, 1] rfl
        refine mv_call (mv_runV (As := []) (rest := []) ⟨hx, hb, hml, hown, hT⟩ (c_M_next l dC dI H.size mm fl ta tz ka nn da ya p1 md sx cT t L (hok) (by omega)) (cwV 0 hT (gV wd572 wd574 wd18 wd30 wd575) rfl rfl rfl (by decide +kernel) ⟨show 0 + 1 ≤ 1 from by omega, show 8 + (2 + 11) + 0 ≤ 60 from by omega⟩) ⟨fun a U g mk q => by obtain ⟨q0, q1, qP, qK, qD⟩ := q; exact ⟨q0, q1, qP, va_K.moved (u := U) (U := U.calling g mk a) (Vm.Alike.refl U.vm) qK, qD⟩, va_recv hKc hPc (ci := 4) (q0 := 0) rfl rfl, fun U hU hW => ⟨rfl, by rw [hU], by rw [hU]; exact hPc, va_K.moved hW.alike hKc, hDc.weaken (fun _ _ _ _ => trivial)⟩⟩ rfl rfl hl.1 rfl (lv_room (Nat.le_of_ble_eq_true rfl)) dX4_length_52 ⟨show kc + 0 ≤ 0 from by omega, show ks + 0 ≤ 0 from by omega⟩) hS (fun q _ h => hFc q h) hFc (fun v6 u k4 n5 tS H1 locs ht hvm hw hB hz1 hk1 hS => ?_)
        obtain ⟨pt7, q8⟩ := u
        obtain ⟨hP1, hK1, hD1⟩ := hB
        rw [ht] at hP1
        have hK1 := va_K.moved hvm.symm hK1
        try dsimp only at hw
        obtain ⟨hP, hD⟩ := va_join (wr := []) (w1 := [(mm, .inr (4, [.int (iI fl), .ref ta, .int (iI tz), .ref ka, .int (iI nn), .ref da, .ref ya, .int (iI pt7), .int (iI md), .int (iI sx)])), (ta, .inl (cT, 4096, .inl (fun j => bI (t j))))]) hP hD [0, 1] [] rfl rfl (by decide) (by decide) hk1 hFc hP1 hD1
        have hK := (hK.sub (tys' := []) [] rfl).app hK1
        generalize H1 = H at hP hS ⊢
        have hP : va_P (dC, dI) vwCl [(mm, .inr (4, [.int (iI fl), .ref ta, .int (iI tz), .ref ka, .int (iI nn), .ref da, .ref ya, .int (iI pt7), .int (iI md), .int (iI sx)])), (ta, .inl (cT, 4096, .inl (fun j => bI (t j))))] H := hP
        have hD : va_D A [(mm, .inr (4, [.int (iI fl), .ref ta, .int (iI tz), .ref ka, .int (iI nn), .ref da, .ref ya, .int (iI pt7), .int (iI md), .int (iI sx)])), (ta, .inl (cT, 4096, .inl (fun j => bI (t j))))] := hD
        have hK : va_K (dC, dI) vwCl [(cT, .byte)] s := hK
        obtain ⟨rfl, hpv6, hqv6, hrv6, rfl, rfl⟩ := hw
        refine W.eq (g2 := F0 m 55 ls [.int (iI q8)]) rfl ?_
        refine lv_istore (lv' := [(5, .int (iI q8)), (0, .ref mm), (1, .int (iI g0)), (2, .long (lI y)), (4, .int (iI jj))]) hx hb dX4_length_55 hl (by decide) rfl (fun ls hl => ?_)
        refine lv_iload hx hb dX4_length_57 (lv_at hl 0 rfl) ?_
        refine li_if_lt (tgt := 79) hx hb (by omega) dX4_length_59 (by decide) (fun c9 => ?_) (fun c9 => ?_)
        · skip
          refine lv_ldc2 (v := lI (-2)) hx hb hown (by rw [show lI (-2) = (-2 : Int64) by decide +kernel]; exact hT _ wd586) dX4_length_79 ?_
          subst hQ9
          have hP9 := hP.sub (ws' := [(mm, .inr (4, [.int (iI fl), .ref ta, .int (iI tz), .ref ka, .int (iI nn), .ref da, .ref ya, .int (iI pt7), .int (iI md), .int (iI sx)])), (ta, .inl (cT, 4096, .inl (fun j => bI (t j))))]) [0, 1] rfl
          have hD9 := hD.sub (ws' := [(mm, .inr (4, [.int (iI fl), .ref ta, .int (iI tz), .ref ka, .int (iI nn), .ref da, .ref ya, .int (iI pt7), .int (iI md), .int (iI sx)])), (ta, .inl (cT, 4096, .inl (fun j => bI (t j))))]) [0, 1] (by decide) rfl
          have hK9 := hK.sub (tys' := [(cT, .byte)]) [0] rfl
          exact mv_lret hx hb hr hlocks (fun tS ht hW => ⟨⟨_, (pt7, (-2)), rfl, ⟨rfl, Or.inl ⟨rfl, Or.inr ⟨by omega, by omega⟩⟩, by omega, by omega⟩, by rw [ht]; exact hP9, va_K.moved hW.alike hK9, hD9⟩, hS.F ht⟩) hS.2.2 dX4_length_82
        · skip
          refine lv_aload_n hx hb dX4_length_62 rfl (lv_at hl 1 rfl) ?_
          refine va_get (D := (dC, dI)) (ci := 4) (v := .int (iI sx)) (C := RX4) (T := TX4) (N := 10) hx hb hT inX4 hown hK hP 0 rfl rfl 9 (by decide) (hT _ wd526) (fun _ h9 => h9) rfl dX4_length_63 ?_
          refine li_if_eq (tgt := 83) hx hb (by omega) dX4_length_66 (by decide) (fun c10 => ?_) (fun c10 => ?_)
          · skip
            refine lv_lload_n hx hb dX4_length_83 rfl (lv_at hl 3 rfl) ?_
            refine lv_bipush (v := iI 8) hx hb dX4_length_84 (by decide +kernel) ?_
            refine li_lshl8 hx hb dX4_length_86 ?_
            refine lv_iload hx hb dX4_length_87 (lv_at hl 0 rfl) ?_
            refine li_i2l hx hb (by omega) dX4_length_89 ?_
            refine li_lor8 hx hb (by omega) dX4_length_90 ?_
            refine lv_ldc2 (v := lI 1099511627776) hx hb hown (hT _ wd577) dX4_length_91 ?_
            refine li_mminl hx hb (hml.trans hl.1.symm) hown (hT _ wd578) (hT _ wd579) (hT _ wd35) (hT _ wd580) (by show 1 ≤ 1; omega) (by show 0 + 15 ≤ 60; omega) (by show kc + 0 ≤ 0; omega) (by show ks + 0 ≤ 0; omega) (by omega) (by omega) dX4_length_94 ?_
            refine li_nml (fun z11 ez11 => ?_)
            refine lv_lstore_n (lv' := [(2, .long (lI z11)), (5, .int (iI q8)), (0, .ref mm), (1, .int (iI g0)), (4, .int (iI jj))]) hx hb dX4_length_97 rfl hl (by decide) rfl (fun ls hl => ?_)
            obtain ⟨z12, ez12⟩ : ∃ y : Int, y = jj + 1 := ⟨_, rfl⟩
            refine lv_iinc (v := iI z12) (lv' := [(4, .int (iI z12)), (2, .long (lI z11)), (5, .int (iI q8)), (0, .ref mm), (1, .int (iI g0))]) hx hb dX4_length_98 hl (k := 4) rfl (by rw [ez12]; exact iI_add _ _) (by decide) rfl (fun ls hl => ?_)
            refine lv_goto (tgt := 41) hx hb dX4_length_101 (by decide) ?_
            have hgp1 : gd L (pt + 1 + jj) = gd L p1 := by rw [show p1 = pt + 1 + jj by omega]
            exact ih g0 z11 z12 (if 4096 < yy then yy else yy * 256 + gd L (pt + 1 + jj)) pt7 _ _ _ _ _ (by omega) (by omega) (by omega) (by omega) (by split <;> omega) (by rw [hn, show pt + 1 + z12 = pt + 1 + (jj + 1) by omega, show gd L pt - 128 - z12 = gd L pt - 128 - (jj + 1) by omega]; exact llen_s (by omega) rfl) (fun h1 h2 => by omega) (by omega) (hK.sub [0] rfl) (hP.sub [0, 1] rfl) (hD.sub [0, 1] (by decide) rfl) hS (lv_sub hl [3, 4, 1, 0] rfl)
          · skip
            refine lv_iload hx hb dX4_length_69 (lv_at hl 4 rfl) ?_
            refine li_if_ne (tgt := 83) hx hb (by omega) dX4_length_71 (by decide) (fun c13 => ?_) (fun c13 => ?_)
            · skip
              refine lv_lload_n hx hb dX4_length_83 rfl (lv_at hl 3 rfl) ?_
              refine lv_bipush (v := iI 8) hx hb dX4_length_84 (by decide +kernel) ?_
              refine li_lshl8 hx hb dX4_length_86 ?_
              refine lv_iload hx hb dX4_length_87 (lv_at hl 0 rfl) ?_
              refine li_i2l hx hb (by omega) dX4_length_89 ?_
              refine li_lor8 hx hb (by omega) dX4_length_90 ?_
              refine lv_ldc2 (v := lI 1099511627776) hx hb hown (hT _ wd577) dX4_length_91 ?_
              refine li_mminl hx hb (hml.trans hl.1.symm) hown (hT _ wd578) (hT _ wd579) (hT _ wd35) (hT _ wd580) (by show 1 ≤ 1; omega) (by show 0 + 15 ≤ 60; omega) (by show kc + 0 ≤ 0; omega) (by show ks + 0 ≤ 0; omega) (by omega) (by omega) dX4_length_94 ?_
              refine li_nml (fun z14 ez14 => ?_)
              refine lv_lstore_n (lv' := [(2, .long (lI z14)), (5, .int (iI q8)), (0, .ref mm), (1, .int (iI g0)), (4, .int (iI jj))]) hx hb dX4_length_97 rfl hl (by decide) rfl (fun ls hl => ?_)
              obtain ⟨z15, ez15⟩ : ∃ y : Int, y = jj + 1 := ⟨_, rfl⟩
              refine lv_iinc (v := iI z15) (lv' := [(4, .int (iI z15)), (2, .long (lI z14)), (5, .int (iI q8)), (0, .ref mm), (1, .int (iI g0))]) hx hb dX4_length_98 hl (k := 4) rfl (by rw [ez15]; exact iI_add _ _) (by decide) rfl (fun ls hl => ?_)
              refine lv_goto (tgt := 41) hx hb dX4_length_101 (by decide) ?_
              have hgp1 : gd L (pt + 1 + jj) = gd L p1 := by rw [show p1 = pt + 1 + jj by omega]
              exact ih g0 z14 z15 (if 4096 < yy then yy else yy * 256 + gd L (pt + 1 + jj)) pt7 _ _ _ _ _ (by omega) (by omega) (by omega) (by omega) (by split <;> omega) (by rw [hn, show pt + 1 + z15 = pt + 1 + (jj + 1) by omega, show gd L pt - 128 - z15 = gd L pt - 128 - (jj + 1) by omega]; exact llen_s (by omega) rfl) (fun h1 h2 => by omega) (by omega) (hK.sub [0] rfl) (hP.sub [0, 1] rfl) (hD.sub [0, 1] (by decide) rfl) hS (lv_sub hl [3, 4, 1, 0] rfl)
            · skip
              refine lv_iload hx hb dX4_length_74 (lv_at hl 0 rfl) ?_
              refine li_if_ne (tgt := 83) hx hb (by omega) dX4_length_76 (by decide) (fun c16 => ?_) (fun c16 => ?_)
              · skip
                refine lv_lload_n hx hb dX4_length_83 rfl (lv_at hl 3 rfl) ?_
                refine lv_bipush (v := iI 8) hx hb dX4_length_84 (by decide +kernel) ?_
                refine li_lshl8 hx hb dX4_length_86 ?_
                refine lv_iload hx hb dX4_length_87 (lv_at hl 0 rfl) ?_
                refine li_i2l hx hb (by omega) dX4_length_89 ?_
                refine li_lor8 hx hb (by omega) dX4_length_90 ?_
                refine lv_ldc2 (v := lI 1099511627776) hx hb hown (hT _ wd577) dX4_length_91 ?_
                refine li_mminl hx hb (hml.trans hl.1.symm) hown (hT _ wd578) (hT _ wd579) (hT _ wd35) (hT _ wd580) (by show 1 ≤ 1; omega) (by show 0 + 15 ≤ 60; omega) (by show kc + 0 ≤ 0; omega) (by show ks + 0 ≤ 0; omega) (by omega) (by omega) dX4_length_94 ?_
                refine li_nml (fun z17 ez17 => ?_)
                refine lv_lstore_n (lv' := [(2, .long (lI z17)), (5, .int (iI q8)), (0, .ref mm), (1, .int (iI g0)), (4, .int (iI jj))]) hx hb dX4_length_97 rfl hl (by decide) rfl (fun ls hl => ?_)
                obtain ⟨z18, ez18⟩ : ∃ y : Int, y = jj + 1 := ⟨_, rfl⟩
                refine lv_iinc (v := iI z18) (lv' := [(4, .int (iI z18)), (2, .long (lI z17)), (5, .int (iI q8)), (0, .ref mm), (1, .int (iI g0))]) hx hb dX4_length_98 hl (k := 4) rfl (by rw [ez18]; exact iI_add _ _) (by decide) rfl (fun ls hl => ?_)
                refine lv_goto (tgt := 41) hx hb dX4_length_101 (by decide) ?_
                have hgp1 : gd L (pt + 1 + jj) = gd L p1 := by rw [show p1 = pt + 1 + jj by omega]
                exact ih g0 z17 z18 (if 4096 < yy then yy else yy * 256 + gd L (pt + 1 + jj)) pt7 _ _ _ _ _ (by omega) (by omega) (by omega) (by omega) (by split <;> omega) (by rw [hn, show pt + 1 + z18 = pt + 1 + (jj + 1) by omega, show gd L pt - 128 - z18 = gd L pt - 128 - (jj + 1) by omega]; exact llen_s (by omega) rfl) (fun h1 h2 => by omega) (by omega) (hK.sub [0] rfl) (hP.sub [0, 1] rfl) (hD.sub [0, 1] (by decide) rfl) hS (lv_sub hl [3, 4, 1, 0] rfl)
              · skip
                refine lv_ldc2 (v := lI (-2)) hx hb hown (by rw [show lI (-2) = (-2 : Int64) by decide +kernel]; exact hT _ wd586) dX4_length_79 ?_
                subst hQ9
                have hP9 := hP.sub (ws' := [(mm, .inr (4, [.int (iI fl), .ref ta, .int (iI tz), .ref ka, .int (iI nn), .ref da, .ref ya, .int (iI pt7), .int (iI md), .int (iI sx)])), (ta, .inl (cT, 4096, .inl (fun j => bI (t j))))]) [0, 1] rfl
                have hD9 := hD.sub (ws' := [(mm, .inr (4, [.int (iI fl), .ref ta, .int (iI tz), .ref ka, .int (iI nn), .ref da, .ref ya, .int (iI pt7), .int (iI md), .int (iI sx)])), (ta, .inl (cT, 4096, .inl (fun j => bI (t j))))]) [0, 1] (by decide) rfl
                have hK9 := hK.sub (tys' := [(cT, .byte)]) [0] rfl
                exact mv_lret hx hb hr hlocks (fun tS ht hW => ⟨⟨_, (pt7, (-2)), rfl, ⟨rfl, Or.inl ⟨rfl, Or.inr ⟨by omega, by omega⟩⟩, by omega, by omega⟩, by rw [ht]; exact hP9, va_K.moved hW.alike hK9, hD9⟩, hS.F ht⟩) hS.2.2 dX4_length_82
  refine lv_aload_n hx hb dX4_length_0 rfl (lv_at hl 0 rfl) ?_
  have hPc := hP.sub (ws' := [(mm, .inr (4, [.int (iI fl), .ref ta, .int (iI tz), .ref ka, .int (iI nn), .ref da, .ref ya, .int (iI pt), .int (iI md), .int (iI sx)])), (ta, .inl (cT, 4096, .inl (fun j => bI (t j))))]) [0, 1] rfl
  have hDc := hD.sub (ws' := [(mm, .inr (4, [.int (iI fl), .ref ta, .int (iI tz), .ref ka, .int (iI nn), .ref da, .ref ya, .int (iI pt), .int (iI md), .int (iI sx)])), (ta, .inl (cT, 4096, .inl (fun j => bI (t j))))]) [0, 1] (by decide) rfl
  have hKc := hK.sub (tys' := [(cT, .byte)]) [0] rfl
  have hFc := va_free (wc := [(mm, .inr (4, [.int (iI fl), .ref ta, .int (iI tz), .ref ka, .int (iI nn), .ref da, .ref ya, .int (iI pt), .int (iI md), .int (iI sx)])), (ta, .inl (cT, 4096, .inl (fun j => bI (t j))))]) hD hS hA [0, 1] rfl
  refine mv_call (mv_runV (As := []) (rest := []) ⟨hx, hb, hml, hown, hT⟩ (c_M_next l dC dI s.heap.size mm fl ta tz ka nn da ya pt md sx cT t L (hok) (by omega)) (cwV 0 hT (gV wd572 wd574 wd18 wd30 wd575) rfl rfl rfl (by decide +kernel) ⟨show 0 + 1 ≤ 1 from by omega, show 8 + (2 + 11) + 0 ≤ 60 from by omega⟩) ⟨fun a U g mk q => by obtain ⟨q0, q1, qP, qK, qD⟩ := q; exact ⟨q0, q1, qP, va_K.moved (u := U) (U := U.calling g mk a) (Vm.Alike.refl U.vm) qK, qD⟩, va_recv hKc hPc (ci := 4) (q0 := 0) rfl rfl, fun U hU hW => ⟨rfl, by rw [hU], by rw [hU]; exact hPc, va_K.moved hW.alike hKc, hDc.weaken (fun _ _ _ _ => trivial)⟩⟩ rfl rfl hl.1 rfl (lv_room (Nat.le_of_ble_eq_true rfl)) dX4_length_1 ⟨show 0 + 0 ≤ 0 from by omega, show 0 + 0 ≤ 0 from by omega⟩) hS (fun q _ h => hFc q h) hFc (fun v21 u k19 n20 tS H1 locs ht hvm hw hB hz1 hk1 hS => ?_)
  obtain ⟨pt22, q23⟩ := u
  obtain ⟨hP1, hK1, hD1⟩ := hB
  rw [ht] at hP1
  have hK1 := va_K.moved hvm.symm hK1
  try dsimp only at hw
  obtain ⟨hP, hD⟩ := va_join (wr := []) (w1 := [(mm, .inr (4, [.int (iI fl), .ref ta, .int (iI tz), .ref ka, .int (iI nn), .ref da, .ref ya, .int (iI pt22), .int (iI md), .int (iI sx)])), (ta, .inl (cT, 4096, .inl (fun j => bI (t j))))]) hP hD [0, 1] [] rfl rfl (by decide) (by decide) hk1 hFc hP1 hD1
  have hK := (hK.sub (tys' := []) [] rfl).app hK1
  generalize H1 = H at hP hS ⊢
  have hP : va_P (dC, dI) vwCl [(mm, .inr (4, [.int (iI fl), .ref ta, .int (iI tz), .ref ka, .int (iI nn), .ref da, .ref ya, .int (iI pt22), .int (iI md), .int (iI sx)])), (ta, .inl (cT, 4096, .inl (fun j => bI (t j))))] H := hP
  have hD : va_D A [(mm, .inr (4, [.int (iI fl), .ref ta, .int (iI tz), .ref ka, .int (iI nn), .ref da, .ref ya, .int (iI pt22), .int (iI md), .int (iI sx)])), (ta, .inl (cT, 4096, .inl (fun j => bI (t j))))] := hD
  have hK : va_K (dC, dI) vwCl [(cT, .byte)] s := hK
  obtain ⟨rfl, hpv21, hqv21, hrv21, rfl, rfl⟩ := hw
  refine W.eq (g2 := F0 m 4 ls [.int (iI q23)]) rfl ?_
  refine lv_istore_n (lv' := [(1, .int (iI q23)), (0, .ref mm)]) hx hb dX4_length_4 rfl hl (by decide) rfl (fun ls hl => ?_)
  refine lv_iload_n hx hb dX4_length_5 rfl (lv_at hl 0 rfl) ?_
  refine lv_sipush (v := iI 128) hx hb dX4_length_6 (by decide +kernel) ?_
  refine li_icmp_ge (tgt := 25) hx hb (by omega) (by omega) dX4_length_9 (by decide) (fun c24 => ?_) (fun c24 => ?_)
  · skip
    refine lv_iload_n hx hb dX4_length_25 rfl (lv_at hl 0 rfl) ?_
    refine lv_sipush (v := iI 128) hx hb dX4_length_26 (by decide +kernel) ?_
    refine li_icmp_ne (tgt := 36) hx hb (by omega) (by omega) dX4_length_29 (by decide) (fun c25 => ?_) (fun c25 => ?_)
    · skip
      refine lv_lconst (v := lI 0) hx hb dX4_length_36 (by decide +kernel) ?_
      refine lv_lstore_n (lv' := [(2, .long (lI 0)), (1, .int (iI q23)), (0, .ref mm)]) hx hb dX4_length_37 rfl hl (by decide) rfl (fun ls hl => ?_)
      refine lv_iconst (v := iI 0) hx hb dX4_length_38 rfl ?_
      refine lv_istore (lv' := [(4, .int (iI 0)), (2, .long (lI 0)), (1, .int (iI q23)), (0, .ref mm)]) hx hb dX4_length_39 hl (by decide) rfl (fun ls hl => ?_)
      exact LP (200) q23 0 0 0 pt22 _ _ _ _ _ (by omega) (by omega) (by omega) (by omega) (by omega) (by rw [Int.sub_zero, Int.add_zero]) (fun _ h => absurd h (by omega)) (by omega) (hK.sub [0] rfl) (hP.sub [0, 1] rfl) (hD.sub [0, 1] (by decide) rfl) hS (lv_sub hl [3, 2, 1, 0] rfl)
    · skip
      refine lv_ldc2 (v := lI (-1)) hx hb hown (by rw [show lI (-1) = (-1 : Int64) by decide +kernel]; exact hT _ wd587) dX4_length_32 ?_
      subst hQ9
      have hP9 := hP.sub (ws' := [(mm, .inr (4, [.int (iI fl), .ref ta, .int (iI tz), .ref ka, .int (iI nn), .ref da, .ref ya, .int (iI pt22), .int (iI md), .int (iI sx)])), (ta, .inl (cT, 4096, .inl (fun j => bI (t j))))]) [0, 1] rfl
      have hD9 := hD.sub (ws' := [(mm, .inr (4, [.int (iI fl), .ref ta, .int (iI tz), .ref ka, .int (iI nn), .ref da, .ref ya, .int (iI pt22), .int (iI md), .int (iI sx)])), (ta, .inl (cT, 4096, .inl (fun j => bI (t j))))]) [0, 1] (by decide) rfl
      have hK9 := hK.sub (tys' := [(cT, .byte)]) [0] rfl
      exact mv_lret hx hb hr hlocks (fun tS ht hW => ⟨⟨_, (pt22, (-1)), rfl, ⟨rfl, Or.inr (Or.inl ⟨rfl, by omega, by omega, by omega⟩), by omega, by omega⟩, by rw [ht]; exact hP9, va_K.moved hW.alike hK9, hD9⟩, hS.F ht⟩) hS.2.2 dX4_length_35
  · skip
    refine lv_iload_n hx hb dX4_length_12 rfl (lv_at hl 0 rfl) ?_
    refine li_if_ge (tgt := 22) hx hb (by omega) dX4_length_13 (by decide) (fun c26 => ?_) (fun c26 => ?_)
    · skip
      refine lv_iload_n hx hb dX4_length_22 rfl (lv_at hl 0 rfl) ?_
      refine li_i2l hx hb (by omega) dX4_length_23 ?_
      subst hQ9
      have hP9 := hP.sub (ws' := [(mm, .inr (4, [.int (iI fl), .ref ta, .int (iI tz), .ref ka, .int (iI nn), .ref da, .ref ya, .int (iI pt22), .int (iI md), .int (iI sx)])), (ta, .inl (cT, 4096, .inl (fun j => bI (t j))))]) [0, 1] rfl
      have hD9 := hD.sub (ws' := [(mm, .inr (4, [.int (iI fl), .ref ta, .int (iI tz), .ref ka, .int (iI nn), .ref da, .ref ya, .int (iI pt22), .int (iI md), .int (iI sx)])), (ta, .inl (cT, 4096, .inl (fun j => bI (t j))))]) [0, 1] (by decide) rfl
      have hK9 := hK.sub (tys' := [(cT, .byte)]) [0] rfl
      exact mv_lret hx hb hr hlocks (fun tS ht hW => ⟨⟨_, (pt22, q23), rfl, ⟨rfl, Or.inr (Or.inr (Or.inl ⟨by omega, by omega, by omega, by omega, by omega⟩)), by omega, by omega⟩, by rw [ht]; exact hP9, va_K.moved hW.alike hK9, hD9⟩, hS.F ht⟩) hS.2.2 dX4_length_24
    · skip
      refine lv_ldc2 (v := lI (-2)) hx hb hown (by rw [show lI (-2) = (-2 : Int64) by decide +kernel]; exact hT _ wd586) dX4_length_16 ?_
      refine lv_goto (tgt := 24) hx hb dX4_length_19 (by decide) ?_
      subst hQ9
      have hP9 := hP.sub (ws' := [(mm, .inr (4, [.int (iI fl), .ref ta, .int (iI tz), .ref ka, .int (iI nn), .ref da, .ref ya, .int (iI pt22), .int (iI md), .int (iI sx)])), (ta, .inl (cT, 4096, .inl (fun j => bI (t j))))]) [0, 1] rfl
      have hD9 := hD.sub (ws' := [(mm, .inr (4, [.int (iI fl), .ref ta, .int (iI tz), .ref ka, .int (iI nn), .ref da, .ref ya, .int (iI pt22), .int (iI md), .int (iI sx)])), (ta, .inl (cT, 4096, .inl (fun j => bI (t j))))]) [0, 1] (by decide) rfl
      have hK9 := hK.sub (tys' := [(cT, .byte)]) [0] rfl
      exact mv_lret hx hb hr hlocks (fun tS ht hW => ⟨⟨_, (pt22, (-2)), rfl, ⟨rfl, Or.inl ⟨rfl, by omega⟩, by omega, by omega⟩, by rw [ht]; exact hP9, va_K.moved hW.alike hK9, hD9⟩, hS.F ht⟩) hS.2.2 dX4_length_24
def MV (l : Launch) (dC : Nat → ClassId) (dI : Nat → Nat → Nat) (d : Nat) : Prop := ∀ (sz : Nat) (mm : Nat) (fl : Int) (ta : Nat) (tz : Int) (ka : Nat) (nn : Int) (da : Nat) (ya : Nat) (pt : Int) (md : Int) (sx : Int) (cT : ClassId) (t : Nat → Int) (L : List Int) (cY : ClassId) (Y : Nat → Int) (Vs : Nat → Int) (Pg : Nat → Prop) (x : Int) (pr : Int) (dp : Int) (hok : okB 4096 t tz L) (hsx : sx = 0 ∨ sx = 1) (hx9 : 0 ≤ pt ∧ pt ≤ x ∧ x ≤ tz) (hpr : -1 ≤ pr ∧ pr < md) (hmd : 0 ≤ md ∧ 2 * md ≤ pt) (hEP : eqP Pg Y Vs md) (hPg : ∀ j, Pg j → j % 8 = 5) (hdp : dp = 41 - ((d : Nat) : Int) ∧ 1 ≤ dp), mv_Met l yX4_value wsX4_value ({ frames := (2 * d + 5), cells := 0, slots := 0, locals := (60 * d + 200) }) (va_Pc [.ref mm, .int (iI x), .int (iI pr), .int (iI dp)] (fun U => U.heap.size = sz ∧ va_P (dC, dI) vwCl [(mm, .inr (4, [.int (iI fl), .ref ta, .int (iI tz), .ref ka, .int (iI nn), .ref da, .ref ya, .int (iI pt), .int (iI md), .int (iI sx)])), (ta, .inl (cT, 4096, .inl (fun j => bI (t j)))), (ya, .inl (cY, 16400, .inl (fun j => iI (Y j))))] U.heap ∧ va_K (dC, dI) vwCl [(cT, .byte), (cY, .int)] U ∧ va_D (fun _ => True) [(mm, .inr (4, [.int (iI fl), .ref ta, .int (iI tz), .ref ka, .int (iI nn), .ref da, .ref ya, .int (iI pt), .int (iI md), .int (iI sx)])), (ta, .inl (cT, 4096, .inl (fun j => bI (t j)))), (ya, .inl (cY, 16400, .inl (fun j => iI (Y j))))])) (mv_Q (fun (v : Option Value) (u : (Nat → Int) × Int × Int × Int) (k n : Nat) => match u with | (Y', pt', md', q') => v = some (.int (iI q')) ∧ ((q' = 0 ∧ layV (gd L) sx d pt x pr md Vs = none) ∨ (q' = 1 ∧ ∃ W : Nat → Int, layV (gd L) sx d pt x pr md Vs = some (pt', md', W) ∧ eqP Pg Y' W md' ∧ (md < md' ∧ 2 * md' ≤ pt' ∧ pt + 2 ≤ pt' ∧ pt' ≤ x) ∧ ∀ j : Nat, (j : Int) < 8 * md → ¬ j % 8 = 7 → Y' j = Y j)) ∧ k = 0 ∧ n = 0) (fun (u : (Nat → Int) × Int × Int × Int) (tS : State) => match u with | (Y', pt', md', q') => va_P (dC, dI) vwCl [(mm, .inr (4, [.int (iI fl), .ref ta, .int (iI tz), .ref ka, .int (iI nn), .ref da, .ref ya, .int (iI pt'), .int (iI md'), .int (iI sx)])), (ta, .inl (cT, 4096, .inl (fun j => bI (t j)))), (ya, .inl (cY, 16400, .inl (fun j => iI (Y' j))))] tS.heap ∧ va_K (dC, dI) vwCl [(cT, .byte), (cY, .int)] tS ∧ va_D (va_A [(mm, .inr (4, [.int (iI fl), .ref ta, .int (iI tz), .ref ka, .int (iI nn), .ref da, .ref ya, .int (iI pt), .int (iI md), .int (iI sx)])), (ta, .inl (cT, 4096, .inl (fun j => bI (t j)))), (ya, .inl (cY, 16400, .inl (fun j => iI (Y j))))] sz) [(mm, .inr (4, [.int (iI fl), .ref ta, .int (iI tz), .ref ka, .int (iI nn), .ref da, .ref ya, .int (iI pt'), .int (iI md'), .int (iI sx)])), (ta, .inl (cT, 4096, .inl (fun j => bI (t j)))), (ya, .inl (cY, 16400, .inl (fun j => iI (Y' j))))]) (va_A [(mm, .inr (4, [.int (iI fl), .ref ta, .int (iI tz), .ref ka, .int (iI nn), .ref da, .ref ya, .int (iI pt), .int (iI md), .int (iI sx)])), (ta, .inl (cT, 4096, .inl (fun j => bI (t j)))), (ya, .inl (cY, 16400, .inl (fun j => iI (Y j))))] sz)) (va_A [(mm, .inr (4, [.int (iI fl), .ref ta, .int (iI tz), .ref ka, .int (iI nn), .ref da, .ref ya, .int (iI pt), .int (iI md), .int (iI sx)])), (ta, .inl (cT, 4096, .inl (fun j => bI (t j)))), (ya, .inl (cY, 16400, .inl (fun j => iI (Y j))))] sz)
def MO (l : Launch) (dC : Nat → ClassId) (dI : Nat → Nat → Nat) (d : Nat) : Prop := ∀ (sz : Nat) (mm : Nat) (fl : Int) (ta : Nat) (tz : Int) (ka : Nat) (nn : Int) (da : Nat) (ya : Nat) (pt : Int) (md : Int) (sx : Int) (cT : ClassId) (t : Nat → Int) (L : List Int) (cY : ClassId) (Y : Nat → Int) (Vs : Nat → Int) (Pg : Nat → Prop) (nw : Int) (x : Int) (dp : Int) (ct : Int) (hok : okB 4096 t tz L) (hsx : sx = 0 ∨ sx = 1) (hx9 : 0 ≤ pt ∧ pt ≤ x ∧ x ≤ tz) (hmd : 0 ≤ nw ∧ nw < md ∧ 2 * md ≤ pt) (hEP : eqP (fun j => Pg j ∨ (j : Int) = 8 * nw + 5) Y Vs md) (hPg : ∀ j, Pg j → j % 8 = 5) (hct : Y (8 * nw + 4).toNat = ct ∧ 0 ≤ ct ∧ ct ≤ pt) (hdp : dp + 1 = 41 - ((d : Nat) : Int) ∧ 1 ≤ dp), mv_Met l yX4_open wsX4_open ({ frames := (2 * d + 6), cells := 0, slots := 0, locals := (60 * d + 230) }) (va_Pc [.ref mm, .int (iI nw), .int (iI x), .int (iI dp)] (fun U => U.heap.size = sz ∧ va_P (dC, dI) vwCl [(mm, .inr (4, [.int (iI fl), .ref ta, .int (iI tz), .ref ka, .int (iI nn), .ref da, .ref ya, .int (iI pt), .int (iI md), .int (iI sx)])), (ta, .inl (cT, 4096, .inl (fun j => bI (t j)))), (ya, .inl (cY, 16400, .inl (fun j => iI (Y j))))] U.heap ∧ va_K (dC, dI) vwCl [(cT, .byte), (cY, .int)] U ∧ va_D (fun _ => True) [(mm, .inr (4, [.int (iI fl), .ref ta, .int (iI tz), .ref ka, .int (iI nn), .ref da, .ref ya, .int (iI pt), .int (iI md), .int (iI sx)])), (ta, .inl (cT, 4096, .inl (fun j => bI (t j)))), (ya, .inl (cY, 16400, .inl (fun j => iI (Y j))))])) (mv_Q (fun (v : Option Value) (u : (Nat → Int) × Int × Int × Int) (k n : Nat) => match u with | (Y', pt', md', q') => v = some (.int (iI q')) ∧ ((q' = 0 ∧ loopZ (gd L) (layV (gd L) sx d) x nw 4096 pt md Vs = none) ∨ (q' = 1 ∧ ∃ (W : Nat → Int) (b : Int), loopZ (gd L) (layV (gd L) sx d) x nw 4096 pt md Vs = some (b, md', W) ∧ pt' = b + 2 ∧ eqP Pg Y' (vf_upd W (nw * 8 + 5).toNat (b - ct)) md' ∧ (md ≤ md' ∧ 2 * md' ≤ b ∧ pt ≤ b ∧ b + 2 ≤ x) ∧ ∀ j : Nat, (j : Int) < 8 * nw → ¬ j % 8 = 7 → Y' j = Y j)) ∧ k = 0 ∧ n = 0) (fun (u : (Nat → Int) × Int × Int × Int) (tS : State) => match u with | (Y', pt', md', q') => va_P (dC, dI) vwCl [(mm, .inr (4, [.int (iI fl), .ref ta, .int (iI tz), .ref ka, .int (iI nn), .ref da, .ref ya, .int (iI pt'), .int (iI md'), .int (iI sx)])), (ta, .inl (cT, 4096, .inl (fun j => bI (t j)))), (ya, .inl (cY, 16400, .inl (fun j => iI (Y' j))))] tS.heap ∧ va_K (dC, dI) vwCl [(cT, .byte), (cY, .int)] tS ∧ va_D (va_A [(mm, .inr (4, [.int (iI fl), .ref ta, .int (iI tz), .ref ka, .int (iI nn), .ref da, .ref ya, .int (iI pt), .int (iI md), .int (iI sx)])), (ta, .inl (cT, 4096, .inl (fun j => bI (t j)))), (ya, .inl (cY, 16400, .inl (fun j => iI (Y j))))] sz) [(mm, .inr (4, [.int (iI fl), .ref ta, .int (iI tz), .ref ka, .int (iI nn), .ref da, .ref ya, .int (iI pt'), .int (iI md'), .int (iI sx)])), (ta, .inl (cT, 4096, .inl (fun j => bI (t j)))), (ya, .inl (cY, 16400, .inl (fun j => iI (Y' j))))]) (va_A [(mm, .inr (4, [.int (iI fl), .ref ta, .int (iI tz), .ref ka, .int (iI nn), .ref da, .ref ya, .int (iI pt), .int (iI md), .int (iI sx)])), (ta, .inl (cT, 4096, .inl (fun j => bI (t j)))), (ya, .inl (cY, 16400, .inl (fun j => iI (Y j))))] sz)) (va_A [(mm, .inr (4, [.int (iI fl), .ref ta, .int (iI tz), .ref ka, .int (iI nn), .ref da, .ref ya, .int (iI pt), .int (iI md), .int (iI sx)])), (ta, .inl (cT, 4096, .inl (fun j => bI (t j)))), (ya, .inl (cY, 16400, .inl (fun j => iI (Y j))))] sz)
set_option maxHeartbeats 4000000 in
set_option maxRecDepth 100000 in
theorem MV_0 (l : Launch) (dC : Nat → ClassId) (dI : Nat → Nat → Nat) : MV l dC dI 0 := by
  intro sz mm fl ta tz ka nn da ya pt md sx cT t L cY Y Vs Pg x pr dp hok hsx hx9 hpr hmd hEP hPg hdp
  refine mv_ofW (cc := cX4_value) (maxL := 11) (ret := (some .boolean)) (by decide) rfl ?_
  intro p e s m args below meth c s₁ B hml hv
  obtain ⟨rfl, hsz, hP, hK, hD0⟩ := hv
  have hx := B.exec
  have hb := B.bytes
  have hr := B.returns
  have hT : ∀ w ∈ wT, w.before _ s = true := fun w h => atoms_spec (ws := wsX4_value) B.pre w (List.mem_cons_of_mem _ h)
  have hown : s.vm.findClass RX4 = some m.cls := findClass_of_methodNamed B.named
  have hlocks := B.notSynchronized
  subst hsz
  have hD := hD0.self (sz := s.heap.size)
  generalize hAe : va_A [(mm, .inr (4, [.int (iI fl), .ref ta, .int (iI tz), .ref ka, .int (iI nn), .ref da, .ref ya, .int (iI pt), .int (iI md), .int (iI sx)])), (ta, .inl (cT, 4096, .inl (fun j => bI (t j)))), (ya, .inl (cY, 16400, .inl (fun j => iI (Y j))))] s.heap.size = A at hD ⊢
  have hA : ∀ q : Nat, s.heap.size ≤ q → A q := fun q h => by rw [← hAe]; exact Or.inr h
  have hS : va_S A s.heap s.heap [] := va_S.rf
  have hP : va_P (dC, dI) vwCl [(mm, .inr (4, [.int (iI fl), .ref ta, .int (iI tz), .ref ka, .int (iI nn), .ref da, .ref ya, .int (iI pt), .int (iI md), .int (iI sx)])), (ta, .inl (cT, 4096, .inl (fun j => bI (t j)))), (ya, .inl (cY, 16400, .inl (fun j => iI (Y j))))] s.heap := hP
  have hl := lv_entry ([.ref mm, .int (iI x), .int (iI pr), .int (iI dp)]) (n := 11) (Nat.le_of_ble_eq_true rfl)
  rw [lg_entry_eq]
  generalize (lg_sl ([.ref mm, .int (iI x), .int (iI pr), .int (iI dp)]) ++ List.replicate (11 - (lg_sl ([.ref mm, .int (iI x), .int (iI pr), .int (iI dp)])).length) Slot.unset).toArray = ls at hl ⊢
  have hl : lv_has ls 11 [(0, .ref mm), (1, .int (iI x)), (2, .int (iI pr)), (3, .int (iI dp))] := hl
  refine lv_iload_n hx hb dX4_value_0 rfl (lv_at hl 3 rfl) ?_
  refine lv_bipush (v := iI 40) hx hb dX4_value_1 (by decide +kernel) ?_
  refine li_icmp_le (tgt := 8) hx hb (by omega) (by omega) dX4_value_3 (by decide) (fun c1 => absurd c1 (by omega)) (fun c1 => ?_)
  refine lv_iconst (v := iI 0) hx hb dX4_value_6 rfl ?_
  have hP9 := hP.sub (ws' := [(mm, .inr (4, [.int (iI fl), .ref ta, .int (iI tz), .ref ka, .int (iI nn), .ref da, .ref ya, .int (iI pt), .int (iI md), .int (iI sx)])), (ta, .inl (cT, 4096, .inl (fun j => bI (t j)))), (ya, .inl (cY, 16400, .inl (fun j => iI (Y j))))]) [0, 1, 2] rfl
  have hD9 := hD.sub (ws' := [(mm, .inr (4, [.int (iI fl), .ref ta, .int (iI tz), .ref ka, .int (iI nn), .ref da, .ref ya, .int (iI pt), .int (iI md), .int (iI sx)])), (ta, .inl (cT, 4096, .inl (fun j => bI (t j)))), (ya, .inl (cY, 16400, .inl (fun j => iI (Y j))))]) [0, 1, 2] (by decide) rfl
  have hK9 := hK.sub (tys' := [(cT, .byte), (cY, .int)]) [0, 1] rfl
  exact mv_zret hx hb hr (zb_n (by omega)) hlocks (fun tS ht hW => ⟨⟨_, (Y, pt, md, 0), rfl, ⟨rfl, Or.inl ⟨rfl, rfl⟩, by omega, by omega⟩, by rw [ht]; exact hP9, va_K.moved hW.alike hK9, hD9⟩, hS.F ht⟩) hS.2.2 dX4_value_7
