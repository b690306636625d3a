set_option maxHeartbeats 4000000 in
set_option maxRecDepth 100000 in
theorem c_R_compare (l : Launch) (hl9 : l.stackTraces = false) (dC : Nat → ClassId) (dI : Nat → Nat → Nat) (sz : Nat) (x : Nat) (tb : Nat) (pb : Nat) (nd : Nat) (sp : Nat) (b : Nat) (h : Nat) (rw : Nat) (mn : Int) (sx : Int) (cR : ClassId) (M : Nat) (V : Nat → Int) (r : Nat) (cA : ClassId) (w : Nat) (t : Nat → Int) (z : Int) (L : List Int) (a : Int) (a2 : Int) (hoN : okN M V mn) (hok : okB w t z L) (ha : -2147483648 ≤ a ∧ a < 2147483648) (ha2 : -2147483648 ≤ a2 ∧ a2 < 2147483648) : mx_Met l yX3_compare wsX3_compare ({ frames := 8, cells := 1, slots := 6, locals := 250 }) (va_Pc [.ref x, .int (iI a), .int (iI a2)] (fun U => U.heap.size = sz ∧ va_P (dC, dI) vwCl [(x, .inr (3, [.ref tb, .ref pb, .ref nd, .ref sp])), (nd, .inr (2, [.ref b, .ref h, .ref rw, .int (iI mn), .int (iI sx)])), (rw, .inl (cR, M, .inl (fun j => iI (V j)))), (b, .inr (0, [.ref r, .int (iI z)])), (r, .inl (cA, w, .inl (fun j => bI (t j))))] U.heap ∧ va_K (dC, dI) vwCl [(cR, .int), (cA, .byte)] U ∧ va_D (fun _ => True) [(x, .inr (3, [.ref tb, .ref pb, .ref nd, .ref sp])), (nd, .inr (2, [.ref b, .ref h, .ref rw, .int (iI mn), .int (iI sx)])), (rw, .inl (cR, M, .inl (fun j => iI (V j)))), (b, .inr (0, [.ref r, .int (iI z)])), (r, .inl (cA, w, .inl (fun j => bI (t j))))] ∧ xsE (va_A [(x, .inr (3, [.ref tb, .ref pb, .ref nd, .ref sp])), (nd, .inr (2, [.ref b, .ref h, .ref rw, .int (iI mn), .int (iI sx)])), (rw, .inl (cR, M, .inl (fun j => iI (V j)))), (b, .inr (0, [.ref r, .int (iI z)])), (r, .inl (cA, w, .inl (fun j => bI (t j))))] sz) U)) (mv_Q (fun (v : Option Value) (_ : Unit) (k n : Nat) => v = some (.int (iI (ord2 L V a a2))) ∧ (0 ≤ a ∧ a < mn ∧ 0 ≤ a2 ∧ a2 < mn) ∧ k = 0 ∧ n = 0) (fun (_ : Unit) (tS : State) => va_P (dC, dI) vwCl [(x, .inr (3, [.ref tb, .ref pb, .ref nd, .ref sp])), (nd, .inr (2, [.ref b, .ref h, .ref rw, .int (iI mn), .int (iI sx)])), (rw, .inl (cR, M, .inl (fun j => iI (V j)))), (b, .inr (0, [.ref r, .int (iI z)])), (r, .inl (cA, w, .inl (fun j => bI (t j))))] tS.heap ∧ va_K (dC, dI) vwCl [(cR, .int), (cA, .byte)] tS ∧ va_D (va_A [(x, .inr (3, [.ref tb, .ref pb, .ref nd, .ref sp])), (nd, .inr (2, [.ref b, .ref h, .ref rw, .int (iI mn), .int (iI sx)])), (rw, .inl (cR, M, .inl (fun j => iI (V j)))), (b, .inr (0, [.ref r, .int (iI z)])), (r, .inl (cA, w, .inl (fun j => bI (t j))))] sz) [(x, .inr (3, [.ref tb, .ref pb, .ref nd, .ref sp])), (nd, .inr (2, [.ref b, .ref h, .ref rw, .int (iI mn), .int (iI sx)])), (rw, .inl (cR, M, .inl (fun j => iI (V j)))), (b, .inr (0, [.ref r, .int (iI z)])), (r, .inl (cA, w, .inl (fun j => bI (t j))))]) (va_A [(x, .inr (3, [.ref tb, .ref pb, .ref nd, .ref sp])), (nd, .inr (2, [.ref b, .ref h, .ref rw, .int (iI mn), .int (iI sx)])), (rw, .inl (cR, M, .inl (fun j => iI (V j)))), (b, .inr (0, [.ref r, .int (iI z)])), (r, .inl (cA, w, .inl (fun j => bI (t j))))] sz)) (mx_X (fun (E : String) (_ : Unit) (k n : Nat) => ((E = "java/lang/IllegalArgumentException" ∧ (a < 0 ∨ mn ≤ a ∨ a2 < 0 ∨ mn ≤ a2))) ∧ k ≤ 1 ∧ n ≤ 6) (fun (_ : Unit) (tS : State) => va_P (dC, dI) vwCl [(x, .inr (3, [.ref tb, .ref pb, .ref nd, .ref sp])), (nd, .inr (2, [.ref b, .ref h, .ref rw, .int (iI mn), .int (iI sx)])), (rw, .inl (cR, M, .inl (fun j => iI (V j)))), (b, .inr (0, [.ref r, .int (iI z)])), (r, .inl (cA, w, .inl (fun j => bI (t j))))] tS.heap ∧ va_K (dC, dI) vwCl [(cR, .int), (cA, .byte)] tS ∧ va_D (va_A [(x, .inr (3, [.ref tb, .ref pb, .ref nd, .ref sp])), (nd, .inr (2, [.ref b, .ref h, .ref rw, .int (iI mn), .int (iI sx)])), (rw, .inl (cR, M, .inl (fun j => iI (V j)))), (b, .inr (0, [.ref r, .int (iI z)])), (r, .inl (cA, w, .inl (fun j => bI (t j))))] sz) [(x, .inr (3, [.ref tb, .ref pb, .ref nd, .ref sp])), (nd, .inr (2, [.ref b, .ref h, .ref rw, .int (iI mn), .int (iI sx)])), (rw, .inl (cR, M, .inl (fun j => iI (V j)))), (b, .inr (0, [.ref r, .int (iI z)])), (r, .inl (cA, w, .inl (fun j => bI (t j))))]) (va_A [(x, .inr (3, [.ref tb, .ref pb, .ref nd, .ref sp])), (nd, .inr (2, [.ref b, .ref h, .ref rw, .int (iI mn), .int (iI sx)])), (rw, .inl (cR, M, .inl (fun j => iI (V j)))), (b, .inr (0, [.ref r, .int (iI z)])), (r, .inl (cA, w, .inl (fun j => bI (t j))))] sz)) (va_A [(x, .inr (3, [.ref tb, .ref pb, .ref nd, .ref sp])), (nd, .inr (2, [.ref b, .ref h, .ref rw, .int (iI mn), .int (iI sx)])), (rw, .inl (cR, M, .inl (fun j => iI (V j)))), (b, .inr (0, [.ref r, .int (iI z)])), (r, .inl (cA, w, .inl (fun j => bI (t j))))] sz) := by
  refine mx_ofW (cc := cX3_compare) (maxL := 3) (ret := (some .int)) (by decide) rfl ?_
  intro p e s m args below meth c s₁ B hml ht9 hv
  obtain ⟨rfl, hsz, hP, hK, hD0, hX⟩ := hv
  have hx := B.exec
  have hb := B.bytes
  have hr := B.returns
  have hT : ∀ w ∈ wT, w.before _ s = true := fun w h => atoms_spec (ws := wsX3_compare) B.pre w (List.mem_cons_of_mem _ h)
  have hown : s.vm.findClass RX3 = some m.cls := findClass_of_methodNamed B.named
  have hlocks := B.notSynchronized
  subst hsz
  have hD := hD0.self (sz := s.heap.size)
  generalize hAe : va_A [(x, .inr (3, [.ref tb, .ref pb, .ref nd, .ref sp])), (nd, .inr (2, [.ref b, .ref h, .ref rw, .int (iI mn), .int (iI sx)])), (rw, .inl (cR, M, .inl (fun j => iI (V j)))), (b, .inr (0, [.ref r, .int (iI z)])), (r, .inl (cA, w, .inl (fun j => bI (t j))))] s.heap.size = A at hD hX ⊢
  have hA : ∀ q : Nat, s.heap.size ≤ q → A q := fun q h => by rw [← hAe]; exact Or.inr h
  have hS : va_S A s.heap s.heap [] := va_S.rf
  have hP : va_P (dC, dI) vwCl [(x, .inr (3, [.ref tb, .ref pb, .ref nd, .ref sp])), (nd, .inr (2, [.ref b, .ref h, .ref rw, .int (iI mn), .int (iI sx)])), (rw, .inl (cR, M, .inl (fun j => iI (V j)))), (b, .inr (0, [.ref r, .int (iI z)])), (r, .inl (cA, w, .inl (fun j => bI (t j))))] s.heap := hP
  have hl := lv_entry ([.ref x, .int (iI a), .int (iI a2)]) (n := 3) (Nat.le_of_ble_eq_true rfl)
  rw [lg_entry_eq]
  generalize (lg_sl ([.ref x, .int (iI a), .int (iI a2)]) ++ List.replicate (3 - (lg_sl ([.ref x, .int (iI a), .int (iI a2)])).length) Slot.unset).toArray = ls at hl ⊢
  have hl : lv_has ls 3 [(0, .ref x), (1, .int (iI a)), (2, .int (iI a2))] := hl
  have hN := hX.1
  obtain ⟨hn1, hn2, hn3, hn4, hn5, hn6, hn7⟩ := id hoN
  refine lv_aload_n hx hb dX3_compare_0 rfl (lv_at hl 0 rfl) ?_
  refine va_get (D := (dC, dI)) (ci := 3) (v := .ref nd) (C := RX3) (T := TX3) (N := 4) hx hb hT inX3 hown hK hP 0 rfl rfl 2 (by decide) (hT _ wd122) (fun _ h9 => h9) rfl dX3_compare_1 ?_
  refine lv_iload_n hx hb dX3_compare_4 rfl (lv_at hl 1 rfl) ?_
  have hPc := hP.sub (ws' := [(nd, .inr (2, [.ref b, .ref h, .ref rw, .int (iI mn), .int (iI sx)]))]) [1] rfl
  have hDc := hD.sub (ws' := [(nd, .inr (2, [.ref b, .ref h, .ref rw, .int (iI mn), .int (iI sx)]))]) [1] (by decide) rfl
  have hKc := hK.sub (tys' := []) [] rfl
  have hFc := va_free (wc := [(nd, .inr (2, [.ref b, .ref h, .ref rw, .int (iI mn), .int (iI sx)]))]) hD hS hA [1] rfl
  refine mv_call (mv_runV (As := [.int (iI a)]) (rest := []) ⟨hx, hb, hml, hown, hT⟩ (c_N_has l dC dI s.heap.size nd b h rw mn sx a (by omega) (by omega)) (cwV 1 hT (gV wd401 wd358 wd359 wd28 wd360) rfl rfl rfl (by decide +kernel) ⟨show 0 + 1 ≤ 8 from by omega, show 8 + (2 + 11) + 0 ≤ 250 from by omega⟩) ⟨fun a U g mk q => by obtain ⟨q0, q1, qP, qK, qD⟩ := q; exact ⟨q0, q1, qP, va_K.moved (u := U) (U := U.calling g mk a) (Vm.Alike.refl U.vm) qK, qD⟩, va_recv hKc hPc (ci := 2) (q0 := 0) rfl rfl, fun U hU hW => ⟨rfl, by rw [hU], by rw [hU]; exact hPc, va_K.moved hW.alike hKc, hDc.weaken (fun _ _ _ _ => trivial)⟩⟩ rfl rfl hl.1 rfl (lv_room (Nat.le_of_ble_eq_true rfl)) dX3_compare_5 ⟨show 0 + 0 ≤ 1 from by omega, show 0 + 0 ≤ 6 from by omega⟩) hS (fun q _ h => hFc q h) hFc (fun v3 u k1 n2 tS H1 locs ht hvm hw hB hz1 hk1 hS => ?_)
  obtain ⟨q4, rfl⟩ : ∃ y, y = u := ⟨_, rfl⟩
  obtain ⟨hP1, hK1, hD1⟩ := hB
  rw [ht] at hP1
  have hK1 := va_K.moved hvm.symm hK1
  try dsimp only at hw
  obtain ⟨hP, hD⟩ := va_join (wr := [(x, .inr (3, [.ref tb, .ref pb, .ref nd, .ref sp])), (rw, .inl (cR, M, .inl (fun j => iI (V j)))), (b, .inr (0, [.ref r, .int (iI z)])), (r, .inl (cA, w, .inl (fun j => bI (t j))))]) (w1 := [(nd, .inr (2, [.ref b, .ref h, .ref rw, .int (iI mn), .int (iI sx)]))]) hP hD [1] [0, 2, 3, 4] rfl rfl (by decide) (by decide) hk1 hFc hP1 hD1
  have hK := (hK.sub (tys' := [(cR, .int), (cA, .byte)]) [0, 1] rfl).app hK1
  generalize H1 = H at hP hS ⊢
  have hP : va_P (dC, dI) vwCl [(x, .inr (3, [.ref tb, .ref pb, .ref nd, .ref sp])), (rw, .inl (cR, M, .inl (fun j => iI (V j)))), (b, .inr (0, [.ref r, .int (iI z)])), (r, .inl (cA, w, .inl (fun j => bI (t j)))), (nd, .inr (2, [.ref b, .ref h, .ref rw, .int (iI mn), .int (iI sx)]))] H := hP
  have hD : va_D A [(x, .inr (3, [.ref tb, .ref pb, .ref nd, .ref sp])), (rw, .inl (cR, M, .inl (fun j => iI (V j)))), (b, .inr (0, [.ref r, .int (iI z)])), (r, .inl (cA, w, .inl (fun j => bI (t j)))), (nd, .inr (2, [.ref b, .ref h, .ref rw, .int (iI mn), .int (iI sx)]))] := hD
  have hK : va_K (dC, dI) vwCl [(cR, .int), (cA, .byte)] s := hK
  obtain ⟨rfl, hqv3, rfl, rfl⟩ := hw
  refine W.eq (g2 := F0 m 8 ls [.int (iI q4)]) rfl ?_
  refine li_if_eq (tgt := 22) hx hb (by omega) dX3_compare_8 (by decide) (fun c5 => ?_) (fun c5 => ?_)
  · skip
    have hP9 := hP.sub (ws' := [(x, .inr (3, [.ref tb, .ref pb, .ref nd, .ref sp])), (nd, .inr (2, [.ref b, .ref h, .ref rw, .int (iI mn), .int (iI sx)])), (rw, .inl (cR, M, .inl (fun j => iI (V j)))), (b, .inr (0, [.ref r, .int (iI z)])), (r, .inl (cA, w, .inl (fun j => bI (t j))))]) [0, 4, 1, 2, 3] rfl
    have hD9 := hD.sub (ws' := [(x, .inr (3, [.ref tb, .ref pb, .ref nd, .ref sp])), (nd, .inr (2, [.ref b, .ref h, .ref rw, .int (iI mn), .int (iI sx)])), (rw, .inl (cR, M, .inl (fun j => iI (V j)))), (b, .inr (0, [.ref r, .int (iI z)])), (r, .inl (cA, w, .inl (fun j => bI (t j))))]) [0, 4, 1, 2, 3] (by decide) rfl
    have hK9 := hK.sub (tys' := [(cR, .int), (cA, .byte)]) [0, 1] rfl
    obtain ⟨sa, hstr⟩ := xs_s70 hX.2.1
    exact mx_thr (vx_throwS (own := RX3) (cls := "java/lang/IllegalArgumentException") (text := "there is no such node") (names := exN) (ik := 48) (is := 70) (ic := 52) (A := A) (mc := 0 + 0 + 1) (ms := 0 + 0 + 6) hx hb hl9 hown (by decide) (by decide) (hT _ wd262) (hT _ wd38) hstr (xa_IAE hT hX.2.1) xg_IAE hX.2.2.1 hX.2.2.2 hS (hl.1.trans hml.symm) dX3_compare_22 dX3_compare_25 dX3_compare_26 dX3_compare_28 dX3_compare_31 (fun x hx9 => (ht9 x hx9).elim) (show 2 + 3 < 8 from by decide) (show 0 + (13 * (2 + 1) + 43) ≤ 250 from by decide) (by show 0 + 0 + 1 ≤ 1; omega) (by show 0 + 0 + 6 ≤ 6; omega) hlocks (fun tS hv9 hz9 hq9 => ⟨(), ⟨⟨rfl, by omega⟩, by omega, by omega⟩, ⟨xs_P hP9 hq9, va_K.moved hv9 hK9, hD9⟩, xs_F hS hz9 hq9⟩) hS.2.2 (Nat.le_refl _) (Nat.le_refl _))
  · skip
    refine lv_aload_n hx hb dX3_compare_11 rfl (lv_at hl 0 rfl) ?_
    refine va_get (D := (dC, dI)) (ci := 3) (v := .ref nd) (C := RX3) (T := TX3) (N := 4) hx hb hT inX3 hown hK hP 0 rfl rfl 2 (by decide) (hT _ wd122) (fun _ h9 => h9) rfl dX3_compare_12 ?_
    refine lv_iload_n hx hb dX3_compare_15 rfl (lv_at hl 2 rfl) ?_
    have hPc := hP.sub (ws' := [(nd, .inr (2, [.ref b, .ref h, .ref rw, .int (iI mn), .int (iI sx)]))]) [4] rfl
    have hDc := hD.sub (ws' := [(nd, .inr (2, [.ref b, .ref h, .ref rw, .int (iI mn), .int (iI sx)]))]) [4] (by decide) rfl
    have hKc := hK.sub (tys' := []) [] rfl
    have hFc := va_free (wc := [(nd, .inr (2, [.ref b, .ref h, .ref rw, .int (iI mn), .int (iI sx)]))]) hD hS hA [4] rfl
    refine mv_call (mv_runV (As := [.int (iI a2)]) (rest := []) ⟨hx, hb, hml, hown, hT⟩ (c_N_has l dC dI H.size nd b h rw mn sx a2 (by omega) (by omega)) (cwV 1 hT (gV wd401 wd358 wd359 wd28 wd360) rfl rfl rfl (by decide +kernel) ⟨show 0 + 1 ≤ 8 from by omega, show 8 + (2 + 11) + 0 ≤ 250 from by omega⟩) ⟨fun a U g mk q => by obtain ⟨q0, q1, qP, qK, qD⟩ := q; exact ⟨q0, q1, qP, va_K.moved (u := U) (U := U.calling g mk a) (Vm.Alike.refl U.vm) qK, qD⟩, va_recv hKc hPc (ci := 2) (q0 := 0) rfl rfl, fun U hU hW => ⟨rfl, by rw [hU], by rw [hU]; exact hPc, va_K.moved hW.alike hKc, hDc.weaken (fun _ _ _ _ => trivial)⟩⟩ rfl rfl hl.1 rfl (lv_room (Nat.le_of_ble_eq_true rfl)) dX3_compare_16 ⟨show 0 + 0 + 0 ≤ 1 from by omega, show 0 + 0 + 0 ≤ 6 from by omega⟩) hS (fun q _ h => hFc q h) hFc (fun v8 u k6 n7 tS H1 locs ht hvm hw hB hz1 hk1 hS => ?_)
    obtain ⟨q9, rfl⟩ : ∃ y, y = u := ⟨_, rfl⟩
    obtain ⟨hP1, hK1, hD1⟩ := hB
    rw [ht] at hP1
    have hK1 := va_K.moved hvm.symm hK1
    try dsimp only at hw
    obtain ⟨hP, hD⟩ := va_join (wr := [(x, .inr (3, [.ref tb, .ref pb, .ref nd, .ref sp])), (rw, .inl (cR, M, .inl (fun j => iI (V j)))), (b, .inr (0, [.ref r, .int (iI z)])), (r, .inl (cA, w, .inl (fun j => bI (t j))))]) (w1 := [(nd, .inr (2, [.ref b, .ref h, .ref rw, .int (iI mn), .int (iI sx)]))]) hP hD [4] [0, 1, 2, 3] rfl rfl (by decide) (by decide) hk1 hFc hP1 hD1
    have hK := (hK.sub (tys' := [(cR, .int), (cA, .byte)]) [0, 1] rfl).app hK1
    generalize H1 = H at hP hS ⊢
    have hP : va_P (dC, dI) vwCl [(x, .inr (3, [.ref tb, .ref pb, .ref nd, .ref sp])), (rw, .inl (cR, M, .inl (fun j => iI (V j)))), (b, .inr (0, [.ref r, .int (iI z)])), (r, .inl (cA, w, .inl (fun j => bI (t j)))), (nd, .inr (2, [.ref b, .ref h, .ref rw, .int (iI mn), .int (iI sx)]))] H := hP
    have hD : va_D A [(x, .inr (3, [.ref tb, .ref pb, .ref nd, .ref sp])), (rw, .inl (cR, M, .inl (fun j => iI (V j)))), (b, .inr (0, [.ref r, .int (iI z)])), (r, .inl (cA, w, .inl (fun j => bI (t j)))), (nd, .inr (2, [.ref b, .ref h, .ref rw, .int (iI mn), .int (iI sx)]))] := hD
    have hK : va_K (dC, dI) vwCl [(cR, .int), (cA, .byte)] s := hK
    obtain ⟨rfl, hqv8, rfl, rfl⟩ := hw
    refine W.eq (g2 := F0 m 19 ls [.int (iI q9)]) rfl ?_
    refine li_if_ne (tgt := 32) hx hb (by omega) dX3_compare_19 (by decide) (fun c10 => ?_) (fun c10 => ?_)
    · skip
      refine lv_aload_n hx hb dX3_compare_32 rfl (lv_at hl 0 rfl) ?_
      refine va_get (D := (dC, dI)) (ci := 3) (v := .ref nd) (C := RX3) (T := TX3) (N := 4) hx hb hT inX3 hown hK hP 0 rfl rfl 2 (by decide) (hT _ wd122) (fun _ h9 => h9) rfl dX3_compare_33 ?_
      refine lv_iload_n hx hb dX3_compare_36 rfl (lv_at hl 1 rfl) ?_
      refine lv_iload_n hx hb dX3_compare_37 rfl (lv_at hl 2 rfl) ?_
      have hPc := hP.sub (ws' := [(nd, .inr (2, [.ref b, .ref h, .ref rw, .int (iI mn), .int (iI sx)])), (rw, .inl (cR, M, .inl (fun j => iI (V j)))), (b, .inr (0, [.ref r, .int (iI z)])), (r, .inl (cA, w, .inl (fun j => bI (t j))))]) [4, 1, 2, 3] rfl
      have hDc := hD.sub (ws' := [(nd, .inr (2, [.ref b, .ref h, .ref rw, .int (iI mn), .int (iI sx)])), (rw, .inl (cR, M, .inl (fun j => iI (V j)))), (b, .inr (0, [.ref r, .int (iI z)])), (r, .inl (cA, w, .inl (fun j => bI (t j))))]) [4, 1, 2, 3] (by decide) rfl
      have hKc := hK.sub (tys' := [(cR, .int), (cA, .byte)]) [0, 1] rfl
      have hFc := va_free (wc := [(nd, .inr (2, [.ref b, .ref h, .ref rw, .int (iI mn), .int (iI sx)])), (rw, .inl (cR, M, .inl (fun j => iI (V j)))), (b, .inr (0, [.ref r, .int (iI z)])), (r, .inl (cA, w, .inl (fun j => bI (t j))))]) hD hS hA [4, 1, 2, 3] rfl
      refine mv_call (mv_runV (As := [.int (iI a), .int (iI a2)]) (rest := []) ⟨hx, hb, hml, hown, hT⟩ (c_N_ord l dC dI H.size nd b h rw mn sx cR M V r cA w t z L a a2 (by omega) (hok) (by omega) (by omega)) (cwV 2 hT (gV wd486 wd487 wd488 wd28 wd489) rfl rfl rfl (by decide +kernel) ⟨show 4 + 1 ≤ 8 from by omega, show 8 + (6 + 11) + 130 ≤ 250 from by omega⟩) ⟨fun a U g mk q => by obtain ⟨q0, q1, qP, qK, qD⟩ := q; exact ⟨q0, q1, qP, va_K.moved (u := U) (U := U.calling g mk a) (Vm.Alike.refl U.vm) qK, qD⟩, va_recv hKc hPc (ci := 2) (q0 := 0) rfl rfl, fun U hU hW => ⟨rfl, by rw [hU], by rw [hU]; exact hPc, va_K.moved hW.alike hKc, hDc.weaken (fun _ _ _ _ => trivial)⟩⟩ rfl rfl hl.1 rfl (lv_room (Nat.le_of_ble_eq_true rfl)) dX3_compare_38 ⟨show 0 + 0 + 0 + 0 ≤ 1 from by omega, show 0 + 0 + 0 + 0 ≤ 6 from by omega⟩) hS (fun q _ h => hFc q h) hFc (fun v13 u k11 n12 tS H1 locs ht hvm hw hB hz1 hk1 hS => ?_)
      obtain ⟨hP1, hK1, hD1⟩ := hB
      rw [ht] at hP1
      have hK1 := va_K.moved hvm.symm hK1
      try dsimp only at hw
      obtain ⟨hP, hD⟩ := va_join (wr := [(x, .inr (3, [.ref tb, .ref pb, .ref nd, .ref sp]))]) (w1 := [(nd, .inr (2, [.ref b, .ref h, .ref rw, .int (iI mn), .int (iI sx)])), (rw, .inl (cR, M, .inl (fun j => iI (V j)))), (b, .inr (0, [.ref r, .int (iI z)])), (r, .inl (cA, w, .inl (fun j => bI (t j))))]) hP hD [4, 1, 2, 3] [0] rfl rfl (by decide) (by decide) hk1 hFc hP1 hD1
      have hK := (hK.sub (tys' := []) [] rfl).app hK1
      generalize H1 = H at hP hS ⊢
      have hP : va_P (dC, dI) vwCl [(x, .inr (3, [.ref tb, .ref pb, .ref nd, .ref sp])), (nd, .inr (2, [.ref b, .ref h, .ref rw, .int (iI mn), .int (iI sx)])), (rw, .inl (cR, M, .inl (fun j => iI (V j)))), (b, .inr (0, [.ref r, .int (iI z)])), (r, .inl (cA, w, .inl (fun j => bI (t j))))] H := hP
      have hD : va_D A [(x, .inr (3, [.ref tb, .ref pb, .ref nd, .ref sp])), (nd, .inr (2, [.ref b, .ref h, .ref rw, .int (iI mn), .int (iI sx)])), (rw, .inl (cR, M, .inl (fun j => iI (V j)))), (b, .inr (0, [.ref r, .int (iI z)])), (r, .inl (cA, w, .inl (fun j => bI (t j))))] := hD
      have hK : va_K (dC, dI) vwCl [(cR, .int), (cA, .byte)] s := hK
      obtain ⟨rfl, rfl, rfl⟩ := hw
      refine W.eq (g2 := F0 m 41 ls [.int (iI (ord2 L V a a2))]) rfl ?_
      have hP9 := hP.sub (ws' := [(x, .inr (3, [.ref tb, .ref pb, .ref nd, .ref sp])), (nd, .inr (2, [.ref b, .ref h, .ref rw, .int (iI mn), .int (iI sx)])), (rw, .inl (cR, M, .inl (fun j => iI (V j)))), (b, .inr (0, [.ref r, .int (iI z)])), (r, .inl (cA, w, .inl (fun j => bI (t j))))]) [0, 1, 2, 3, 4] rfl
      have hD9 := hD.sub (ws' := [(x, .inr (3, [.ref tb, .ref pb, .ref nd, .ref sp])), (nd, .inr (2, [.ref b, .ref h, .ref rw, .int (iI mn), .int (iI sx)])), (rw, .inl (cR, M, .inl (fun j => iI (V j)))), (b, .inr (0, [.ref r, .int (iI z)])), (r, .inl (cA, w, .inl (fun j => bI (t j))))]) [0, 1, 2, 3, 4] (by decide) rfl
      have hK9 := hK.sub (tys' := [(cR, .int), (cA, .byte)]) [0, 1] rfl
      exact mx_ret (mv_iret hx hb hr hlocks (fun tS ht hW => ⟨⟨_, (), rfl, ⟨rfl, ⟨by omega, by omega, by omega, by omega⟩, by omega, by omega⟩, by rw [ht]; exact hP9, va_K.moved hW.alike hK9, hD9⟩, hS.F ht⟩) hS.2.2 dX3_compare_41)
    · skip
      have hP9 := hP.sub (ws' := [(x, .inr (3, [.ref tb, .ref pb, .ref nd, .ref sp])), (nd, .inr (2, [.ref b, .ref h, .ref rw, .int (iI mn), .int (iI sx)])), (rw, .inl (cR, M, .inl (fun j => iI (V j)))), (b, .inr (0, [.ref r, .int (iI z)])), (r, .inl (cA, w, .inl (fun j => bI (t j))))]) [0, 4, 1, 2, 3] rfl
      have hD9 := hD.sub (ws' := [(x, .inr (3, [.ref tb, .ref pb, .ref nd, .ref sp])), (nd, .inr (2, [.ref b, .ref h, .ref rw, .int (iI mn), .int (iI sx)])), (rw, .inl (cR, M, .inl (fun j => iI (V j)))), (b, .inr (0, [.ref r, .int (iI z)])), (r, .inl (cA, w, .inl (fun j => bI (t j))))]) [0, 4, 1, 2, 3] (by decide) rfl
      have hK9 := hK.sub (tys' := [(cR, .int), (cA, .byte)]) [0, 1] rfl
      obtain ⟨sa, hstr⟩ := xs_s70 hX.2.1
      exact mx_thr (vx_throwS (own := RX3) (cls := "java/lang/IllegalArgumentException") (text := "there is no such node") (names := exN) (ik := 48) (is := 70) (ic := 52) (A := A) (mc := 0 + 0 + 0 + 1) (ms := 0 + 0 + 0 + 6) hx hb hl9 hown (by decide) (by decide) (hT _ wd262) (hT _ wd38) hstr (xa_IAE hT hX.2.1) xg_IAE hX.2.2.1 hX.2.2.2 hS (hl.1.trans hml.symm) dX3_compare_22 dX3_compare_25 dX3_compare_26 dX3_compare_28 dX3_compare_31 (fun x hx9 => (ht9 x hx9).elim) (show 2 + 3 < 8 from by decide) (show 0 + (13 * (2 + 1) + 43) ≤ 250 from by decide) (by show 0 + 0 + 0 + 1 ≤ 1; omega) (by show 0 + 0 + 0 + 6 ≤ 6; omega) hlocks (fun tS hv9 hz9 hq9 => ⟨(), ⟨⟨rfl, by omega⟩, by omega, by omega⟩, ⟨xs_P hP9 hq9, va_K.moved hv9 hK9, hD9⟩, xs_F hS hz9 hq9⟩) hS.2.2 (Nat.le_refl _) (Nat.le_refl _))
set_option maxHeartbeats 4000000 in
set_option maxRecDepth 100000 in
theorem c_R_count (l : Launch) (hl9 : l.stackTraces = false) (dC : Nat → ClassId) (dI : Nat → Nat → Nat) (sz : Nat) (x : Nat) (tb : Nat) (pb : Nat) (nd : Nat) (sp : Nat) (r : Nat) (z : Int) (b : Nat) (h : Nat) (rw : Nat) (mn : Int) (sx : Int) (i : Int) (hi : -2147483648 ≤ i ∧ i < 2147483648) (hz : 0 ≤ z ∧ z ≤ 4096) (hmn : 0 ≤ mn ∧ mn ≤ 2048) : mx_Met l yX3_count wsX3_count ({ frames := 6, cells := 1, slots := 6, locals := 150 }) (va_Pc [.ref x, .int (iI i)] (fun U => U.heap.size = sz ∧ va_P (dC, dI) vwCl [(x, .inr (3, [.ref tb, .ref pb, .ref nd, .ref sp])), (tb, .inr (0, [.ref r, .int (iI z)])), (nd, .inr (2, [.ref b, .ref h, .ref rw, .int (iI mn), .int (iI sx)]))] U.heap ∧ va_K (dC, dI) vwCl [] U ∧ va_D (fun _ => True) [(x, .inr (3, [.ref tb, .ref pb, .ref nd, .ref sp])), (tb, .inr (0, [.ref r, .int (iI z)])), (nd, .inr (2, [.ref b, .ref h, .ref rw, .int (iI mn), .int (iI sx)]))] ∧ xsE (va_A [(x, .inr (3, [.ref tb, .ref pb, .ref nd, .ref sp])), (tb, .inr (0, [.ref r, .int (iI z)])), (nd, .inr (2, [.ref b, .ref h, .ref rw, .int (iI mn), .int (iI sx)]))] sz) U)) (mv_Q (fun (v : Option Value) (_ : Unit) (k n : Nat) => v = some (.int (iI (if i = 0 then z else mn))) ∧ (i = 0 ∨ i = 1) ∧ k = 0 ∧ n = 0) (fun (_ : Unit) (tS : State) => va_P (dC, dI) vwCl [(x, .inr (3, [.ref tb, .ref pb, .ref nd, .ref sp])), (tb, .inr (0, [.ref r, .int (iI z)])), (nd, .inr (2, [.ref b, .ref h, .ref rw, .int (iI mn), .int (iI sx)]))] tS.heap ∧ va_K (dC, dI) vwCl [] tS ∧ va_D (va_A [(x, .inr (3, [.ref tb, .ref pb, .ref nd, .ref sp])), (tb, .inr (0, [.ref r, .int (iI z)])), (nd, .inr (2, [.ref b, .ref h, .ref rw, .int (iI mn), .int (iI sx)]))] sz) [(x, .inr (3, [.ref tb, .ref pb, .ref nd, .ref sp])), (tb, .inr (0, [.ref r, .int (iI z)])), (nd, .inr (2, [.ref b, .ref h, .ref rw, .int (iI mn), .int (iI sx)]))]) (va_A [(x, .inr (3, [.ref tb, .ref pb, .ref nd, .ref sp])), (tb, .inr (0, [.ref r, .int (iI z)])), (nd, .inr (2, [.ref b, .ref h, .ref rw, .int (iI mn), .int (iI sx)]))] sz)) (mx_X (fun (E : String) (_ : Unit) (k n : Nat) => ((E = "java/lang/IllegalArgumentException" ∧ (¬ i = 0 ∧ ¬ i = 1))) ∧ k ≤ 1 ∧ n ≤ 6) (fun (_ : Unit) (tS : State) => va_P (dC, dI) vwCl [(x, .inr (3, [.ref tb, .ref pb, .ref nd, .ref sp])), (tb, .inr (0, [.ref r, .int (iI z)])), (nd, .inr (2, [.ref b, .ref h, .ref rw, .int (iI mn), .int (iI sx)]))] tS.heap ∧ va_K (dC, dI) vwCl [] tS ∧ va_D (va_A [(x, .inr (3, [.ref tb, .ref pb, .ref nd, .ref sp])), (tb, .inr (0, [.ref r, .int (iI z)])), (nd, .inr (2, [.ref b, .ref h, .ref rw, .int (iI mn), .int (iI sx)]))] sz) [(x, .inr (3, [.ref tb, .ref pb, .ref nd, .ref sp])), (tb, .inr (0, [.ref r, .int (iI z)])), (nd, .inr (2, [.ref b, .ref h, .ref rw, .int (iI mn), .int (iI sx)]))]) (va_A [(x, .inr (3, [.ref tb, .ref pb, .ref nd, .ref sp])), (tb, .inr (0, [.ref r, .int (iI z)])), (nd, .inr (2, [.ref b, .ref h, .ref rw, .int (iI mn), .int (iI sx)]))] sz)) (va_A [(x, .inr (3, [.ref tb, .ref pb, .ref nd, .ref sp])), (tb, .inr (0, [.ref r, .int (iI z)])), (nd, .inr (2, [.ref b, .ref h, .ref rw, .int (iI mn), .int (iI sx)]))] sz) := by
  refine mx_ofW (cc := cX3_count) (maxL := 2) (ret := (some .int)) (by decide) rfl ?_
  intro p e s m args below meth c s₁ B hml ht9 hv
  obtain ⟨rfl, hsz, hP, hK, hD0, hX⟩ := hv
  have hx := B.exec
  have hb := B.bytes
  have hr := B.returns
  have hT : ∀ w ∈ wT, w.before _ s = true := fun w h => atoms_spec (ws := wsX3_count) B.pre w (List.mem_cons_of_mem _ h)
  have hown : s.vm.findClass RX3 = some m.cls := findClass_of_methodNamed B.named
  have hlocks := B.notSynchronized
  subst hsz
  have hD := hD0.self (sz := s.heap.size)
  generalize hAe : va_A [(x, .inr (3, [.ref tb, .ref pb, .ref nd, .ref sp])), (tb, .inr (0, [.ref r, .int (iI z)])), (nd, .inr (2, [.ref b, .ref h, .ref rw, .int (iI mn), .int (iI sx)]))] s.heap.size = A at hD hX ⊢
  have hA : ∀ q : Nat, s.heap.size ≤ q → A q := fun q h => by rw [← hAe]; exact Or.inr h
  have hS : va_S A s.heap s.heap [] := va_S.rf
  have hP : va_P (dC, dI) vwCl [(x, .inr (3, [.ref tb, .ref pb, .ref nd, .ref sp])), (tb, .inr (0, [.ref r, .int (iI z)])), (nd, .inr (2, [.ref b, .ref h, .ref rw, .int (iI mn), .int (iI sx)]))] s.heap := hP
  have hl := lv_entry ([.ref x, .int (iI i)]) (n := 2) (Nat.le_of_ble_eq_true rfl)
  rw [lg_entry_eq]
  generalize (lg_sl ([.ref x, .int (iI i)]) ++ List.replicate (2 - (lg_sl ([.ref x, .int (iI i)])).length) Slot.unset).toArray = ls at hl ⊢
  have hl : lv_has ls 2 [(0, .ref x), (1, .int (iI i))] := hl
  have hN := hX.1
  refine lv_iload_n hx hb dX3_count_0 rfl (lv_at hl 1 rfl) ?_
  refine li_if_lt (tgt := 9) hx hb (by omega) dX3_count_1 (by decide) (fun c1 => ?_) (fun c1 => ?_)
  · skip
    have hP9 := hP.sub (ws' := [(x, .inr (3, [.ref tb, .ref pb, .ref nd, .ref sp])), (tb, .inr (0, [.ref r, .int (iI z)])), (nd, .inr (2, [.ref b, .ref h, .ref rw, .int (iI mn), .int (iI sx)]))]) [0, 1, 2] rfl
    have hD9 := hD.sub (ws' := [(x, .inr (3, [.ref tb, .ref pb, .ref nd, .ref sp])), (tb, .inr (0, [.ref r, .int (iI z)])), (nd, .inr (2, [.ref b, .ref h, .ref rw, .int (iI mn), .int (iI sx)]))]) [0, 1, 2] (by decide) rfl
    have hK9 := hK.sub (tys' := []) [] rfl
    obtain ⟨sa, hstr⟩ := xs_s119 hX.2.1
    exact mx_thr (vx_throwS (own := RX3) (cls := "java/lang/IllegalArgumentException") (text := "what is 0 or 1") (names := exN) (ik := 48) (is := 119) (ic := 52) (A := A) (mc := 0 + 1) (ms := 0 + 6) hx hb hl9 hown (by decide) (by decide) (hT _ wd262) (hT _ wd38) hstr (xa_IAE hT hX.2.1) xg_IAE hX.2.2.1 hX.2.2.2 hS (hl.1.trans hml.symm) dX3_count_9 dX3_count_12 dX3_count_13 dX3_count_15 dX3_count_18 (fun x hx9 => (ht9 x hx9).elim) (show 2 + 3 < 6 from by decide) (show 0 + (13 * (2 + 1) + 43) ≤ 150 from by decide) (by show 0 + 1 ≤ 1; omega) (by show 0 + 6 ≤ 6; omega) hlocks (fun tS hv9 hz9 hq9 => ⟨(), ⟨⟨rfl, ⟨by omega, by omega⟩⟩, by omega, by omega⟩, ⟨xs_P hP9 hq9, va_K.moved hv9 hK9, hD9⟩, xs_F hS hz9 hq9⟩) hS.2.2 (Nat.le_refl _) (Nat.le_refl _))
  · skip
    refine lv_iload_n hx hb dX3_count_4 rfl (lv_at hl 1 rfl) ?_
    refine lv_iconst (v := iI 1) hx hb dX3_count_5 rfl ?_
    refine li_icmp_le (tgt := 19) hx hb (by omega) (by omega) dX3_count_6 (by decide) (fun c2 => ?_) (fun c2 => ?_)
    · skip
      refine lv_iload_n hx hb dX3_count_19 rfl (lv_at hl 1 rfl) ?_
      refine li_if_ne (tgt := 33) hx hb (by omega) dX3_count_20 (by decide) (fun c3 => ?_) (fun c3 => ?_)
      · skip
        refine lv_aload_n hx hb dX3_count_33 rfl (lv_at hl 0 rfl) ?_
        refine va_get (D := (dC, dI)) (ci := 3) (v := .ref nd) (C := RX3) (T := TX3) (N := 4) hx hb hT inX3 hown hK hP 0 rfl rfl 2 (by decide) (hT _ wd122) (fun _ h9 => h9) rfl dX3_count_34 ?_
        have hPc := hP.sub (ws' := [(nd, .inr (2, [.ref b, .ref h, .ref rw, .int (iI mn), .int (iI sx)]))]) [2] rfl
        have hDc := hD.sub (ws' := [(nd, .inr (2, [.ref b, .ref h, .ref rw, .int (iI mn), .int (iI sx)]))]) [2] (by decide) rfl
        have hKc := hK.sub (tys' := []) [] rfl
        have hFc := va_free (wc := [(nd, .inr (2, [.ref b, .ref h, .ref rw, .int (iI mn), .int (iI sx)]))]) hD hS hA [2] rfl
        refine mv_call (mv_runV (As := []) (rest := []) ⟨hx, hb, hml, hown, hT⟩ (c_N_size l dC dI s.heap.size nd b h rw mn sx ) (cwV 0 hT (gV wd390 wd391 wd392 wd28 wd393) rfl rfl rfl (by decide +kernel) ⟨show 0 + 1 ≤ 6 from by omega, show 8 + (1 + 11) + 0 ≤ 150 from by omega⟩) ⟨fun a U g mk q => by obtain ⟨q0, q1, qP, qK, qD⟩ := q; exact ⟨q0, q1, qP, va_K.moved (u := U) (U := U.calling g mk a) (Vm.Alike.refl U.vm) qK, qD⟩, va_recv hKc hPc (ci := 2) (q0 := 0) rfl rfl, fun U hU hW => ⟨rfl, by rw [hU], by rw [hU]; exact hPc, va_K.moved hW.alike hKc, hDc.weaken (fun _ _ _ _ => trivial)⟩⟩ rfl rfl hl.1 rfl (lv_room (Nat.le_of_ble_eq_true rfl)) dX3_count_37 ⟨show 0 + 0 ≤ 1 from by omega, show 0 + 0 ≤ 6 from by omega⟩) hS (fun q _ h => hFc q h) hFc (fun v6 u k4 n5 tS H1 locs ht hvm hw hB hz1 hk1 hS => ?_)
        obtain ⟨hP1, hK1, hD1⟩ := hB
        rw [ht] at hP1
        have hK1 := va_K.moved hvm.symm hK1
        try dsimp only at hw
        obtain ⟨hP, hD⟩ := va_join (wr := [(x, .inr (3, [.ref tb, .ref pb, .ref nd, .ref sp])), (tb, .inr (0, [.ref r, .int (iI z)]))]) (w1 := [(nd, .inr (2, [.ref b, .ref h, .ref rw, .int (iI mn), .int (iI sx)]))]) hP hD [2] [0, 1] rfl rfl (by decide) (by decide) hk1 hFc hP1 hD1
        have hK := (hK.sub (tys' := []) [] rfl).app hK1
        generalize H1 = H at hP hS ⊢
        have hP : va_P (dC, dI) vwCl [(x, .inr (3, [.ref tb, .ref pb, .ref nd, .ref sp])), (tb, .inr (0, [.ref r, .int (iI z)])), (nd, .inr (2, [.ref b, .ref h, .ref rw, .int (iI mn), .int (iI sx)]))] H := hP
        have hD : va_D A [(x, .inr (3, [.ref tb, .ref pb, .ref nd, .ref sp])), (tb, .inr (0, [.ref r, .int (iI z)])), (nd, .inr (2, [.ref b, .ref h, .ref rw, .int (iI mn), .int (iI sx)]))] := hD
        have hK : va_K (dC, dI) vwCl [] s := hK
        obtain ⟨rfl, rfl, rfl⟩ := hw
        refine W.eq (g2 := F0 m 40 ls [.int (iI mn)]) rfl ?_
        have hP9 := hP.sub (ws' := [(x, .inr (3, [.ref tb, .ref pb, .ref nd, .ref sp])), (tb, .inr (0, [.ref r, .int (iI z)])), (nd, .inr (2, [.ref b, .ref h, .ref rw, .int (iI mn), .int (iI sx)]))]) [0, 1, 2] rfl
        have hD9 := hD.sub (ws' := [(x, .inr (3, [.ref tb, .ref pb, .ref nd, .ref sp])), (tb, .inr (0, [.ref r, .int (iI z)])), (nd, .inr (2, [.ref b, .ref h, .ref rw, .int (iI mn), .int (iI sx)]))]) [0, 1, 2] (by decide) rfl
        have hK9 := hK.sub (tys' := []) [] rfl
        exact mx_ret (mv_iret hx hb hr hlocks (fun tS ht hW => ⟨⟨_, (), rfl, ⟨sI (if_neg (by omega)).symm, by omega, by omega, by omega⟩, by rw [ht]; exact hP9, va_K.moved hW.alike hK9, hD9⟩, hS.F ht⟩) hS.2.2 dX3_count_40)
      · skip
        refine lv_aload_n hx hb dX3_count_23 rfl (lv_at hl 0 rfl) ?_
        refine va_get (D := (dC, dI)) (ci := 3) (v := .ref tb) (C := RX3) (T := TX3) (N := 4) hx hb hT inX3 hown hK hP 0 rfl rfl 0 (by decide) (hT _ wd120) (fun _ h9 => h9) rfl dX3_count_24 ?_
        have hPc := hP.sub (ws' := [(tb, .inr (0, [.ref r, .int (iI z)]))]) [1] rfl
        have hDc := hD.sub (ws' := [(tb, .inr (0, [.ref r, .int (iI z)]))]) [1] (by decide) rfl
        have hKc := hK.sub (tys' := []) [] rfl
        have hFc := va_free (wc := [(tb, .inr (0, [.ref r, .int (iI z)]))]) hD hS hA [1] rfl
        refine mv_call (mv_runV (As := []) (rest := []) ⟨hx, hb, hml, hown, hT⟩ (c_B_size l dC dI s.heap.size tb r z ) (cwV 0 hT (gV wd250 wd251 wd252 wd27 wd253) rfl rfl rfl (by decide +kernel) ⟨show 0 + 1 ≤ 6 from by omega, show 8 + (1 + 11) + 0 ≤ 150 from by omega⟩) ⟨fun a U g mk q => by obtain ⟨q0, q1, qP, qK, qD⟩ := q; exact ⟨q0, q1, qP, va_K.moved (u := U) (U := U.calling g mk a) (Vm.Alike.refl U.vm) qK, qD⟩, va_recv hKc hPc (ci := 0) (q0 := 0) rfl rfl, fun U hU hW => ⟨rfl, by rw [hU], by rw [hU]; exact hPc, va_K.moved hW.alike hKc, hDc.weaken (fun _ _ _ _ => trivial)⟩⟩ rfl rfl hl.1 rfl (lv_room (Nat.le_of_ble_eq_true rfl)) dX3_count_27 ⟨show 0 + 0 ≤ 1 from by omega, show 0 + 0 ≤ 6 from by omega⟩) hS (fun q _ h => hFc q h) hFc (fun v9 u k7 n8 tS H1 locs ht hvm hw hB hz1 hk1 hS => ?_)
        obtain ⟨hP1, hK1, hD1⟩ := hB
        rw [ht] at hP1
        have hK1 := va_K.moved hvm.symm hK1
        try dsimp only at hw
        obtain ⟨hP, hD⟩ := va_join (wr := [(x, .inr (3, [.ref tb, .ref pb, .ref nd, .ref sp])), (nd, .inr (2, [.ref b, .ref h, .ref rw, .int (iI mn), .int (iI sx)]))]) (w1 := [(tb, .inr (0, [.ref r, .int (iI z)]))]) hP hD [1] [0, 2] rfl rfl (by decide) (by decide) hk1 hFc hP1 hD1
        have hK := (hK.sub (tys' := []) [] rfl).app hK1
        generalize H1 = H at hP hS ⊢
        have hP : va_P (dC, dI) vwCl [(x, .inr (3, [.ref tb, .ref pb, .ref nd, .ref sp])), (nd, .inr (2, [.ref b, .ref h, .ref rw, .int (iI mn), .int (iI sx)])), (tb, .inr (0, [.ref r, .int (iI z)]))] H := hP
        have hD : va_D A [(x, .inr (3, [.ref tb, .ref pb, .ref nd, .ref sp])), (nd, .inr (2, [.ref b, .ref h, .ref rw, .int (iI mn), .int (iI sx)])), (tb, .inr (0, [.ref r, .int (iI z)]))] := hD
        have hK : va_K (dC, dI) vwCl [] s := hK
        obtain ⟨rfl, rfl, rfl⟩ := hw
        refine W.eq (g2 := F0 m 30 ls [.int (iI z)]) rfl ?_
        refine lv_goto (tgt := 40) hx hb dX3_count_30 (by decide) ?_
        have hP9 := hP.sub (ws' := [(x, .inr (3, [.ref tb, .ref pb, .ref nd, .ref sp])), (tb, .inr (0, [.ref r, .int (iI z)])), (nd, .inr (2, [.ref b, .ref h, .ref rw, .int (iI mn), .int (iI sx)]))]) [0, 2, 1] rfl
        have hD9 := hD.sub (ws' := [(x, .inr (3, [.ref tb, .ref pb, .ref nd, .ref sp])), (tb, .inr (0, [.ref r, .int (iI z)])), (nd, .inr (2, [.ref b, .ref h, .ref rw, .int (iI mn), .int (iI sx)]))]) [0, 2, 1] (by decide) rfl
        have hK9 := hK.sub (tys' := []) [] rfl
        exact mx_ret (mv_iret hx hb hr hlocks (fun tS ht hW => ⟨⟨_, (), rfl, ⟨sI (if_pos (by omega)).symm, by omega, by omega, by omega⟩, by rw [ht]; exact hP9, va_K.moved hW.alike hK9, hD9⟩, hS.F ht⟩) hS.2.2 dX3_count_40)
    · skip
      have hP9 := hP.sub (ws' := [(x, .inr (3, [.ref tb, .ref pb, .ref nd, .ref sp])), (tb, .inr (0, [.ref r, .int (iI z)])), (nd, .inr (2, [.ref b, .ref h, .ref rw, .int (iI mn), .int (iI sx)]))]) [0, 1, 2] rfl
      have hD9 := hD.sub (ws' := [(x, .inr (3, [.ref tb, .ref pb, .ref nd, .ref sp])), (tb, .inr (0, [.ref r, .int (iI z)])), (nd, .inr (2, [.ref b, .ref h, .ref rw, .int (iI mn), .int (iI sx)]))]) [0, 1, 2] (by decide) rfl
      have hK9 := hK.sub (tys' := []) [] rfl
      obtain ⟨sa, hstr⟩ := xs_s119 hX.2.1
      exact mx_thr (vx_throwS (own := RX3) (cls := "java/lang/IllegalArgumentException") (text := "what is 0 or 1") (names := exN) (ik := 48) (is := 119) (ic := 52) (A := A) (mc := 0 + 1) (ms := 0 + 6) hx hb hl9 hown (by decide) (by decide) (hT _ wd262) (hT _ wd38) hstr (xa_IAE hT hX.2.1) xg_IAE hX.2.2.1 hX.2.2.2 hS (hl.1.trans hml.symm) dX3_count_9 dX3_count_12 dX3_count_13 dX3_count_15 dX3_count_18 (fun x hx9 => (ht9 x hx9).elim) (show 2 + 3 < 6 from by decide) (show 0 + (13 * (2 + 1) + 43) ≤ 150 from by decide) (by show 0 + 1 ≤ 1; omega) (by show 0 + 6 ≤ 6; omega) hlocks (fun tS hv9 hz9 hq9 => ⟨(), ⟨⟨rfl, ⟨by omega, by omega⟩⟩, by omega, by omega⟩, ⟨xs_P hP9 hq9, va_K.moved hv9 hK9, hD9⟩, xs_F hS hz9 hq9⟩) hS.2.2 (Nat.le_refl _) (Nat.le_refl _))
set_option maxHeartbeats 4000000 in
set_option maxRecDepth 100000 in
theorem c_R_word (l : Launch) (hl9 : l.stackTraces = false) (dC : Nat → ClassId) (dI : Nat → Nat → Nat) (sz : Nat) (x : Nat) (b : Nat) (pb : Nat) (nd : Nat) (sp : Nat) (r : Nat) (cA : ClassId) (w : Nat) (t : Nat → Int) (z : Int) (L : List Int) (i : Int) (hok : okB w t z L) (hi : -2147483648 ≤ i ∧ i < 2147483648) : mx_Met l yX3_word wsX3_word ({ frames := 6, cells := 1, slots := 6, locals := 150 }) (va_Pc [.ref x, .int (iI i)] (fun U => U.heap.size = sz ∧ va_P (dC, dI) vwCl [(x, .inr (3, [.ref b, .ref pb, .ref nd, .ref sp])), (b, .inr (0, [.ref r, .int (iI z)])), (r, .inl (cA, w, .inl (fun j => bI (t j))))] U.heap ∧ va_K (dC, dI) vwCl [(cA, .byte)] U ∧ va_D (fun _ => True) [(x, .inr (3, [.ref b, .ref pb, .ref nd, .ref sp])), (b, .inr (0, [.ref r, .int (iI z)])), (r, .inl (cA, w, .inl (fun j => bI (t j))))] ∧ xsE (va_A [(x, .inr (3, [.ref b, .ref pb, .ref nd, .ref sp])), (b, .inr (0, [.ref r, .int (iI z)])), (r, .inl (cA, w, .inl (fun j => bI (t j))))] sz) U)) (mv_Q (fun (v : Option Value) (_ : Unit) (k n : Nat) => v = some (.long (lI (wrd L i))) ∧ (0 ≤ i ∧ i < z) ∧ k = 0 ∧ n = 0) (fun (_ : Unit) (tS : State) => va_P (dC, dI) vwCl [(x, .inr (3, [.ref b, .ref pb, .ref nd, .ref sp])), (b, .inr (0, [.ref r, .int (iI z)])), (r, .inl (cA, w, .inl (fun j => bI (t j))))] tS.heap ∧ va_K (dC, dI) vwCl [(cA, .byte)] tS ∧ va_D (va_A [(x, .inr (3, [.ref b, .ref pb, .ref nd, .ref sp])), (b, .inr (0, [.ref r, .int (iI z)])), (r, .inl (cA, w, .inl (fun j => bI (t j))))] sz) [(x, .inr (3, [.ref b, .ref pb, .ref nd, .ref sp])), (b, .inr (0, [.ref r, .int (iI z)])), (r, .inl (cA, w, .inl (fun j => bI (t j))))]) (va_A [(x, .inr (3, [.ref b, .ref pb, .ref nd, .ref sp])), (b, .inr (0, [.ref r, .int (iI z)])), (r, .inl (cA, w, .inl (fun j => bI (t j))))] sz)) (mx_X (fun (E : String) (_ : Unit) (k n : Nat) => ((E = "java/lang/IndexOutOfBoundsException" ∧ (i < 0 ∨ z ≤ i))) ∧ k ≤ 1 ∧ n ≤ 6) (fun (_ : Unit) (tS : State) => va_P (dC, dI) vwCl [(x, .inr (3, [.ref b, .ref pb, .ref nd, .ref sp])), (b, .inr (0, [.ref r, .int (iI z)])), (r, .inl (cA, w, .inl (fun j => bI (t j))))] tS.heap ∧ va_K (dC, dI) vwCl [(cA, .byte)] tS ∧ va_D (va_A [(x, .inr (3, [.ref b, .ref pb, .ref nd, .ref sp])), (b, .inr (0, [.ref r, .int (iI z)])), (r, .inl (cA, w, .inl (fun j => bI (t j))))] sz) [(x, .inr (3, [.ref b, .ref pb, .ref nd, .ref sp])), (b, .inr (0, [.ref r, .int (iI z)])), (r, .inl (cA, w, .inl (fun j => bI (t j))))]) (va_A [(x, .inr (3, [.ref b, .ref pb, .ref nd, .ref sp])), (b, .inr (0, [.ref r, .int (iI z)])), (r, .inl (cA, w, .inl (fun j => bI (t j))))] sz)) (va_A [(x, .inr (3, [.ref b, .ref pb, .ref nd, .ref sp])), (b, .inr (0, [.ref r, .int (iI z)])), (r, .inl (cA, w, .inl (fun j => bI (t j))))] sz) := by
  refine mx_ofW (cc := cX3_word) (maxL := 5) (ret := (some .long)) (by decide) rfl ?_
  intro p e s m args below meth c s₁ B hml ht9 hv
  obtain ⟨rfl, hsz, hP, hK, hD0, hX⟩ := hv
  have hx := B.exec
  have hb := B.bytes
  have hr := B.returns
  have hT : ∀ w ∈ wT, w.before _ s = true := fun w h => atoms_spec (ws := wsX3_word) B.pre w (List.mem_cons_of_mem _ h)
  have hown : s.vm.findClass RX3 = some m.cls := findClass_of_methodNamed B.named
  have hlocks := B.notSynchronized
  subst hsz
  have hD := hD0.self (sz := s.heap.size)
  generalize hAe : va_A [(x, .inr (3, [.ref b, .ref pb, .ref nd, .ref sp])), (b, .inr (0, [.ref r, .int (iI z)])), (r, .inl (cA, w, .inl (fun j => bI (t j))))] s.heap.size = A at hD hX ⊢
  have hA : ∀ q : Nat, s.heap.size ≤ q → A q := fun q h => by rw [← hAe]; exact Or.inr h
  have hS : va_S A s.heap s.heap [] := va_S.rf
  have hP : va_P (dC, dI) vwCl [(x, .inr (3, [.ref b, .ref pb, .ref nd, .ref sp])), (b, .inr (0, [.ref r, .int (iI z)])), (r, .inl (cA, w, .inl (fun j => bI (t j))))] s.heap := hP
  have hl := lv_entry ([.ref x, .int (iI i)]) (n := 5) (Nat.le_of_ble_eq_true rfl)
  rw [lg_entry_eq]
  generalize (lg_sl ([.ref x, .int (iI i)]) ++ List.replicate (5 - (lg_sl ([.ref x, .int (iI i)])).length) Slot.unset).toArray = ls at hl ⊢
  have hl : lv_has ls 5 [(0, .ref x), (1, .int (iI i))] := hl
  have hN := hX.1
  obtain ⟨hw1, hw2, hw3, hw4, hw5, hw6⟩ := id hok
  refine mv_nameQ (fun Q9 hQ9 => ?_)
  have LP : ∀ (fu : Nat) (y : Int) (j : Int) (H : Heap) (locs : List Loc) (ls : Array Slot) (kc ks : Nat), (8 - j < (fu : Int)) → (0 ≤ j ∧ j ≤ 8) → (0 ≤ i ∧ i < z) → (wrd L i = sfold (fun q => gd L (i + q)) (8 - j).toNat j y) → (kc = 0 ∧ ks = 0) → va_K (dC, dI) vwCl [(cA, .byte)] s → va_P (dC, dI) vwCl [(x, .inr (3, [.ref b, .ref pb, .ref nd, .ref sp])), (b, .inr (0, [.ref r, .int (iI z)])), (r, .inl (cA, w, .inl (fun j => bI (t j))))] H → va_D A [(x, .inr (3, [.ref b, .ref pb, .ref nd, .ref sp])), (b, .inr (0, [.ref r, .int (iI z)])), (r, .inl (cA, w, .inl (fun j => bI (t j))))] → va_S A s.heap H locs → lv_has ls 5 [(0, .ref x), (1, .int (iI i)), (2, .long (lI y)), (4, .int (iI j))] → W p l e ({ frames := 6, cells := 1, slots := 6, locals := 150 }) s m ([.ref x, .int (iI i)] : List Value).toArray below meth c H locs kc ks Q9 (F0 m 30 ls []) := by
    intro fu
    induction fu with
    | zero =>
      intro y j H locs ls kc ks hfu hj hi9 hn hkc hK hP hD hS hl
      exfalso
      omega
    | succ fu ih =>
      intro y j H locs ls kc ks hfu hj hi9 hn hkc hK hP hD hS hl
      have hgj := gd_rng hok (i + j)
      refine lv_iload hx hb dX3_word_30 (lv_at hl 3 rfl) ?_
      refine lv_bipush (v := iI 8) hx hb dX3_word_32 (by decide +kernel) ?_
      refine li_icmp_ge (tgt := 61) hx hb (by omega) (by omega) dX3_word_34 (by decide) (fun c1 => ?_) (fun c1 => ?_)
      · skip
        refine lv_lload_n hx hb dX3_word_61 rfl (lv_at hl 2 rfl) ?_
        subst hQ9
        have hP9 := hP.sub (ws' := [(x, .inr (3, [.ref b, .ref pb, .ref nd, .ref sp])), (b, .inr (0, [.ref r, .int (iI z)])), (r, .inl (cA, w, .inl (fun j => bI (t j))))]) [0, 1, 2] rfl
        have hD9 := hD.sub (ws' := [(x, .inr (3, [.ref b, .ref pb, .ref nd, .ref sp])), (b, .inr (0, [.ref r, .int (iI z)])), (r, .inl (cA, w, .inl (fun j => bI (t j))))]) [0, 1, 2] (by decide) rfl
        have hK9 := hK.sub (tys' := [(cA, .byte)]) [0] rfl
        exact mx_ret (mv_lret hx hb hr hlocks (fun tS ht hW => ⟨⟨_, (), rfl, ⟨sL (by rw [hn]; exact (sfold_e (by omega)).symm), by omega, by omega, by omega⟩, by rw [ht]; exact hP9, va_K.moved hW.alike hK9, hD9⟩, hS.F ht⟩) hS.2.2 dX3_word_62)
      · skip
        refine lv_lload_n hx hb dX3_word_37 rfl (lv_at hl 2 rfl) ?_
        refine lv_bipush (v := iI 8) hx hb dX3_word_38 (by decide +kernel) ?_
        refine li_lshl8 hx hb dX3_word_40 ?_
        refine lv_aload_n hx hb dX3_word_41 rfl (lv_at hl 0 rfl) ?_
        refine va_get (D := (dC, dI)) (ci := 3) (v := .ref b) (C := RX3) (T := TX3) (N := 4) hx hb hT inX3 hown hK hP 0 rfl rfl 0 (by decide) (hT _ wd120) (fun _ h9 => h9) rfl dX3_word_42 ?_
        refine lv_iload_n hx hb dX3_word_45 rfl (lv_at hl 1 rfl) ?_
        refine lv_iload hx hb dX3_word_46 (lv_at hl 3 rfl) ?_
        refine li_iadd hx hb dX3_word_48 ?_
        have hPc := hP.sub (ws' := [(b, .inr (0, [.ref r, .int (iI z)])), (r, .inl (cA, w, .inl (fun j => bI (t j))))]) [1, 2] rfl
        have hDc := hD.sub (ws' := [(b, .inr (0, [.ref r, .int (iI z)])), (r, .inl (cA, w, .inl (fun j => bI (t j))))]) [1, 2] (by decide) rfl
        have hKc := hK.sub (tys' := [(cA, .byte)]) [0] rfl
        have hFc := va_free (wc := [(b, .inr (0, [.ref r, .int (iI z)])), (r, .inl (cA, w, .inl (fun j => bI (t j))))]) hD hS hA [1, 2] rfl
        refine mv_call (mv_runV (As := [.int (iI (i + j))]) (rest := [.long (lI (y * 256))]) ⟨hx, hb, hml, hown, hT⟩ (c_B_at l dC dI H.size b r cA w t z L (i + j) (hok) (by omega)) (cwV 1 hT (gV wd510 wd322 wd323 wd27 wd324) rfl rfl rfl (by decide +kernel) ⟨show 0 + 1 ≤ 6 from by omega, show 8 + (2 + 11) + 0 ≤ 150 from by omega⟩) ⟨fun a U g mk q => by obtain ⟨q0, q1, qP, qK, qD⟩ := q; exact ⟨q0, q1, qP, va_K.moved (u := U) (U := U.calling g mk a) (Vm.Alike.refl U.vm) qK, qD⟩, va_recv hKc hPc (ci := 0) (q0 := 0) rfl rfl, fun U hU hW => ⟨rfl, by rw [hU], by rw [hU]; exact hPc, va_K.moved hW.alike hKc, hDc.weaken (fun _ _ _ _ => trivial)⟩⟩ rfl rfl hl.1 rfl (lv_room (Nat.le_of_ble_eq_true rfl)) dX3_word_49 ⟨show kc + 0 ≤ 1 from by omega, show ks + 0 ≤ 6 from by omega⟩) hS (fun q _ h => hFc q h) hFc (fun v4 u k2 n3 tS H1 locs ht hvm hw hB hz1 hk1 hS => ?_)
        obtain ⟨hP1, hK1, hD1⟩ := hB
        rw [ht] at hP1
        have hK1 := va_K.moved hvm.symm hK1
        try dsimp only at hw
        obtain ⟨hP, hD⟩ := va_join (wr := [(x, .inr (3, [.ref b, .ref pb, .ref nd, .ref sp]))]) (w1 := [(b, .inr (0, [.ref r, .int (iI z)])), (r, .inl (cA, w, .inl (fun j => bI (t j))))]) hP hD [1, 2] [0] rfl rfl (by decide) (by decide) hk1 hFc hP1 hD1
        have hK := (hK.sub (tys' := []) [] rfl).app hK1
        generalize H1 = H at hP hS ⊢
        have hP : va_P (dC, dI) vwCl [(x, .inr (3, [.ref b, .ref pb, .ref nd, .ref sp])), (b, .inr (0, [.ref r, .int (iI z)])), (r, .inl (cA, w, .inl (fun j => bI (t j))))] H := hP
        have hD : va_D A [(x, .inr (3, [.ref b, .ref pb, .ref nd, .ref sp])), (b, .inr (0, [.ref r, .int (iI z)])), (r, .inl (cA, w, .inl (fun j => bI (t j))))] := hD
        have hK : va_K (dC, dI) vwCl [(cA, .byte)] s := hK
        obtain ⟨rfl, rfl, rfl⟩ := hw
        refine W.eq (g2 := F0 m 52 ls [.int (iI (gd L (i + j))), .long (lI (y * 256))]) rfl ?_
        refine li_i2l hx hb (by omega) dX3_word_52 ?_
        refine li_lor8 hx hb (by omega) dX3_word_53 ?_
        refine li_nml (fun z5 ez5 => ?_)
        refine lv_lstore_n (lv' := [(2, .long (lI z5)), (0, .ref x), (1, .int (iI i)), (4, .int (iI j))]) hx hb dX3_word_54 rfl hl (by decide) rfl (fun ls hl => ?_)
        obtain ⟨z6, ez6⟩ : ∃ y : Int, y = j + 1 := ⟨_, rfl⟩
        refine lv_iinc (v := iI z6) (lv' := [(4, .int (iI z6)), (2, .long (lI z5)), (0, .ref x), (1, .int (iI i))]) hx hb dX3_word_55 hl (k := 3) rfl (by rw [ez6]; exact iI_add _ _) (by decide) rfl (fun ls hl => ?_)
        refine lv_goto (tgt := 30) hx hb dX3_word_58 (by decide) ?_
        have z6_eq : z6 = j + 1 := by omega
        exact ih z5 z6 _ _ _ _ _ (by omega) (by omega) (by omega) (by rw [hn, z6_eq]; exact sfold_s (by omega) (by show _ = y * 256 + gd L (i + j); omega)) (by omega) (hK.sub [0] rfl) (hP.sub [0, 1, 2] rfl) (hD.sub [0, 1, 2] (by decide) rfl) hS (lv_sub hl [2, 3, 1, 0] rfl)
  refine lv_iload_n hx hb dX3_word_0 rfl (lv_at hl 1 rfl) ?_
  refine li_if_lt (tgt := 15) hx hb (by omega) dX3_word_1 (by decide) (fun c7 => ?_) (fun c7 => ?_)
  · skip
    subst hQ9
    have hP9 := hP.sub (ws' := [(x, .inr (3, [.ref b, .ref pb, .ref nd, .ref sp])), (b, .inr (0, [.ref r, .int (iI z)])), (r, .inl (cA, w, .inl (fun j => bI (t j))))]) [0, 1, 2] rfl
    have hD9 := hD.sub (ws' := [(x, .inr (3, [.ref b, .ref pb, .ref nd, .ref sp])), (b, .inr (0, [.ref r, .int (iI z)])), (r, .inl (cA, w, .inl (fun j => bI (t j))))]) [0, 1, 2] (by decide) rfl
    have hK9 := hK.sub (tys' := [(cA, .byte)]) [0] rfl
    obtain ⟨sa, hstr⟩ := xs_s121 hX.2.1
    exact mx_thr (vx_throwS (own := RX3) (cls := "java/lang/IndexOutOfBoundsException") (text := "the tape has no such byte") (names := exN) (ik := 33) (is := 121) (ic := 37) (A := A) (mc := 0 + 1) (ms := 0 + 6) hx hb hl9 hown (by decide) (by decide) (hT _ wd145) (hT _ wd34) hstr (xa_IOOBE hT hX.2.1) xg_IOOBE hX.2.2.1 hX.2.2.2 hS (hl.1.trans hml.symm) dX3_word_15 dX3_word_18 dX3_word_19 dX3_word_21 dX3_word_24 (fun x hx9 => (ht9 x hx9).elim) (show 2 + 3 < 6 from by decide) (show 0 + (13 * (2 + 1) + 43) ≤ 150 from by decide) (by show 0 + 1 ≤ 1; omega) (by show 0 + 6 ≤ 6; omega) hlocks (fun tS hv9 hz9 hq9 => ⟨(), ⟨⟨rfl, by omega⟩, by omega, by omega⟩, ⟨xs_P hP9 hq9, va_K.moved hv9 hK9, hD9⟩, xs_F hS hz9 hq9⟩) hS.2.2 (Nat.le_refl _) (Nat.le_refl _))
  · skip
    refine lv_iload_n hx hb dX3_word_4 rfl (lv_at hl 1 rfl) ?_
    refine lv_aload_n hx hb dX3_word_5 rfl (lv_at hl 0 rfl) ?_
    refine va_get (D := (dC, dI)) (ci := 3) (v := .ref b) (C := RX3) (T := TX3) (N := 4) hx hb hT inX3 hown hK hP 0 rfl rfl 0 (by decide) (hT _ wd120) (fun _ h9 => h9) rfl dX3_word_6 ?_
    have hPc := hP.sub (ws' := [(b, .inr (0, [.ref r, .int (iI z)]))]) [1] rfl
    have hDc := hD.sub (ws' := [(b, .inr (0, [.ref r, .int (iI z)]))]) [1] (by decide) rfl
    have hKc := hK.sub (tys' := []) [] rfl
    have hFc := va_free (wc := [(b, .inr (0, [.ref r, .int (iI z)]))]) hD hS hA [1] rfl
    refine mv_call (mv_runV (As := []) (rest := [.int (iI i)]) ⟨hx, hb, hml, hown, hT⟩ (c_B_size l dC dI s.heap.size b r z ) (cwV 0 hT (gV wd250 wd251 wd252 wd27 wd253) rfl rfl rfl (by decide +kernel) ⟨show 0 + 1 ≤ 6 from by omega, show 8 + (1 + 11) + 0 ≤ 150 from by omega⟩) ⟨fun a U g mk q => by obtain ⟨q0, q1, qP, qK, qD⟩ := q; exact ⟨q0, q1, qP, va_K.moved (u := U) (U := U.calling g mk a) (Vm.Alike.refl U.vm) qK, qD⟩, va_recv hKc hPc (ci := 0) (q0 := 0) rfl rfl, fun U hU hW => ⟨rfl, by rw [hU], by rw [hU]; exact hPc, va_K.moved hW.alike hKc, hDc.weaken (fun _ _ _ _ => trivial)⟩⟩ rfl rfl hl.1 rfl (lv_room (Nat.le_of_ble_eq_true rfl)) dX3_word_9 ⟨show 0 + 0 ≤ 1 from by omega, show 0 + 0 ≤ 6 from by omega⟩) hS (fun q _ h => hFc q h) hFc (fun v10 u k8 n9 tS H1 locs ht hvm hw hB hz1 hk1 hS => ?_)
    obtain ⟨hP1, hK1, hD1⟩ := hB
    rw [ht] at hP1
    have hK1 := va_K.moved hvm.symm hK1
    try dsimp only at hw
    obtain ⟨hP, hD⟩ := va_join (wr := [(x, .inr (3, [.ref b, .ref pb, .ref nd, .ref sp])), (r, .inl (cA, w, .inl (fun j => bI (t j))))]) (w1 := [(b, .inr (0, [.ref r, .int (iI z)]))]) hP hD [1] [0, 2] rfl rfl (by decide) (by decide) hk1 hFc hP1 hD1
    have hK := (hK.sub (tys' := [(cA, .byte)]) [0] rfl).app hK1
    generalize H1 = H at hP hS ⊢
    have hP : va_P (dC, dI) vwCl [(x, .inr (3, [.ref b, .ref pb, .ref nd, .ref sp])), (r, .inl (cA, w, .inl (fun j => bI (t j)))), (b, .inr (0, [.ref r, .int (iI z)]))] H := hP
    have hD : va_D A [(x, .inr (3, [.ref b, .ref pb, .ref nd, .ref sp])), (r, .inl (cA, w, .inl (fun j => bI (t j)))), (b, .inr (0, [.ref r, .int (iI z)]))] := hD
    have hK : va_K (dC, dI) vwCl [(cA, .byte)] s := hK
    obtain ⟨rfl, rfl, rfl⟩ := hw
    refine W.eq (g2 := F0 m 12 ls [.int (iI z), .int (iI i)]) rfl ?_
    refine li_icmp_lt (tgt := 25) hx hb (by omega) (by omega) dX3_word_12 (by decide) (fun c11 => ?_) (fun c11 => ?_)
    · skip
      refine lv_lconst (v := lI 0) hx hb dX3_word_25 (by decide +kernel) ?_
      refine lv_lstore_n (lv' := [(2, .long (lI 0)), (0, .ref x), (1, .int (iI i))]) hx hb dX3_word_26 rfl hl (by decide) rfl (fun ls hl => ?_)
      refine lv_iconst (v := iI 0) hx hb dX3_word_27 rfl ?_
      refine lv_istore (lv' := [(4, .int (iI 0)), (2, .long (lI 0)), (0, .ref x), (1, .int (iI i))]) hx hb dX3_word_28 hl (by decide) rfl (fun ls hl => ?_)
      exact LP (10) 0 0 _ _ _ _ _ (by omega) (by omega) (by omega) (rfl) (by omega) (hK.sub [0] rfl) (hP.sub [0, 2, 1] rfl) (hD.sub [0, 2, 1] (by decide) rfl) hS (lv_sub hl [2, 3, 1, 0] rfl)
    · skip
      subst hQ9
      have hP9 := hP.sub (ws' := [(x, .inr (3, [.ref b, .ref pb, .ref nd, .ref sp])), (b, .inr (0, [.ref r, .int (iI z)])), (r, .inl (cA, w, .inl (fun j => bI (t j))))]) [0, 2, 1] rfl
      have hD9 := hD.sub (ws' := [(x, .inr (3, [.ref b, .ref pb, .ref nd, .ref sp])), (b, .inr (0, [.ref r, .int (iI z)])), (r, .inl (cA, w, .inl (fun j => bI (t j))))]) [0, 2, 1] (by decide) rfl
      have hK9 := hK.sub (tys' := [(cA, .byte)]) [0] rfl
      obtain ⟨sa, hstr⟩ := xs_s121 hX.2.1
      exact mx_thr (vx_throwS (own := RX3) (cls := "java/lang/IndexOutOfBoundsException") (text := "the tape has no such byte") (names := exN) (ik := 33) (is := 121) (ic := 37) (A := A) (mc := 0 + 0 + 1) (ms := 0 + 0 + 6) hx hb hl9 hown (by decide) (by decide) (hT _ wd145) (hT _ wd34) hstr (xa_IOOBE hT hX.2.1) xg_IOOBE hX.2.2.1 hX.2.2.2 hS (hl.1.trans hml.symm) dX3_word_15 dX3_word_18 dX3_word_19 dX3_word_21 dX3_word_24 (fun x hx9 => (ht9 x hx9).elim) (show 2 + 3 < 6 from by decide) (show 0 + (13 * (2 + 1) + 43) ≤ 150 from by decide) (by show 0 + 0 + 1 ≤ 1; omega) (by show 0 + 0 + 6 ≤ 6; omega) hlocks (fun tS hv9 hz9 hq9 => ⟨(), ⟨⟨rfl, by omega⟩, by omega, by omega⟩, ⟨xs_P hP9 hq9, va_K.moved hv9 hK9, hD9⟩, xs_F hS hz9 hq9⟩) hS.2.2 (Nat.le_refl _) (Nat.le_refl _))
set_option maxHeartbeats 4000000 in
set_option maxRecDepth 100000 in
theorem c_R_wrap (l : Launch) (hl9 : l.stackTraces = false) (dC : Nat → ClassId) (dI : Nat → Nat → Nat) (sz : Nat) (rr : Nat) (tp : Nat) (nda : Nat) (ndb : Nat) (b : Nat) (r : Nat) (cA : ClassId) (w : Nat) (t : Nat → Int) (z : Int) (L : List Int) (r2 : Nat) (cA2 : ClassId) (w2 : Nat) (t2 : Nat → Int) (z2 : Int) (L2 : List Int) (x : Int) (y : Int) (cs : Int) (hok : okB w t z L) (hok2 : okB w2 t2 z2 L2) (hx4 : -2147483648 ≤ x ∧ x < 2147483648) (hy : -2147483648 ≤ y ∧ y < 2147483648) (hcs : cs = 0 ∨ cs = 1) : mx_Met l yX3_wrap wsX3_wrap ({ frames := 8, cells := (phB w + phB w2 + 6), slots := (phB w + phB w2 + 6), locals := 300 }) (va_Pc [.ref rr, .int (iI x), .int (iI y), .int (iI cs)] (fun U => U.heap.size = sz ∧ va_P (dC, dI) vwCl [(rr, .inr (3, [.ref tp, .ref b, .ref nda, .ref ndb])), (tp, .inr (0, [.ref r2, .int (iI z2)])), (r2, .inl (cA2, w2, .inl (fun j => bI (t2 j)))), (b, .inr (0, [.ref r, .int (iI z)])), (r, .inl (cA, w, .inl (fun j => bI (t j))))] U.heap ∧ va_K (dC, dI) vwCl [(cA2, .byte), (cA, .byte)] U ∧ va_D (fun _ => True) [(rr, .inr (3, [.ref tp, .ref b, .ref nda, .ref ndb])), (tp, .inr (0, [.ref r2, .int (iI z2)])), (r2, .inl (cA2, w2, .inl (fun j => bI (t2 j)))), (b, .inr (0, [.ref r, .int (iI z)])), (r, .inl (cA, w, .inl (fun j => bI (t j))))] ∧ xsE (va_A [(rr, .inr (3, [.ref tp, .ref b, .ref nda, .ref ndb])), (tp, .inr (0, [.ref r2, .int (iI z2)])), (r2, .inl (cA2, w2, .inl (fun j => bI (t2 j)))), (b, .inr (0, [.ref r, .int (iI z)])), (r, .inl (cA, w, .inl (fun j => bI (t j))))] sz) U)) (mv_Q (fun (v : Option Value) (u : Nat × ClassId × Nat × (Nat → Int) × Int × Nat × ClassId × Nat × (Nat → Int) × Int) (k n : Nat) => match u with | (r', cA', w', t', z', r2', cA2', w2', t2', z2') => v = some (.int (iI z2')) ∧ (okp w' t' z' ∧ okB w2' t2' z2' ((wrL x y cs z2) ++ L2) ∧ 0 ≤ x ∧ x ≤ 3 ∧ 0 ≤ y ∧ z2' = z2 + ((wrL x y cs z2).length : Int)) ∧ n + phB w' + phB w2' ≤ phB w + phB w2 ∧ k ≤ n) (fun (u : Nat × ClassId × Nat × (Nat → Int) × Int × Nat × ClassId × Nat × (Nat → Int) × Int) (tS : State) => match u with | (r', cA', w', t', z', r2', cA2', w2', t2', z2') => va_P (dC, dI) vwCl [(rr, .inr (3, [.ref tp, .ref b, .ref nda, .ref ndb])), (tp, .inr (0, [.ref r2', .int (iI z2')])), (r2', .inl (cA2', w2', .inl (fun j => bI (t2' j)))), (b, .inr (0, [.ref r', .int (iI z')])), (r', .inl (cA', w', .inl (fun j => bI (t' j))))] tS.heap ∧ va_K (dC, dI) vwCl [(cA2', .byte), (cA', .byte)] tS ∧ va_D (va_A [(rr, .inr (3, [.ref tp, .ref b, .ref nda, .ref ndb])), (tp, .inr (0, [.ref r2, .int (iI z2)])), (r2, .inl (cA2, w2, .inl (fun j => bI (t2 j)))), (b, .inr (0, [.ref r, .int (iI z)])), (r, .inl (cA, w, .inl (fun j => bI (t j))))] sz) [(rr, .inr (3, [.ref tp, .ref b, .ref nda, .ref ndb])), (tp, .inr (0, [.ref r2', .int (iI z2')])), (r2', .inl (cA2', w2', .inl (fun j => bI (t2' j)))), (b, .inr (0, [.ref r', .int (iI z')])), (r', .inl (cA', w', .inl (fun j => bI (t' j))))]) (va_A [(rr, .inr (3, [.ref tp, .ref b, .ref nda, .ref ndb])), (tp, .inr (0, [.ref r2, .int (iI z2)])), (r2, .inl (cA2, w2, .inl (fun j => bI (t2 j)))), (b, .inr (0, [.ref r, .int (iI z)])), (r, .inl (cA, w, .inl (fun j => bI (t j))))] sz)) (mx_X (fun (E : String) (u : Nat × ClassId × Nat × (Nat → Int) × Int × Nat × ClassId × Nat × (Nat → Int) × Int) (k n : Nat) => match u with | (r', cA', w', t', z', r2', cA2', w2', t2', z2') => ((E = "java/lang/IllegalArgumentException" ∧ (okp w' t' z' ∧ okB w2' t2' z2' L2 ∧ z2' = z2 ∧ (x < 0 ∨ 3 < x ∨ y < 0))) ∨ (E = "java/lang/IndexOutOfBoundsException" ∧ (okp w' t' z' ∧ okB w2' t2' z2' L2 ∧ z2' = z2 ∧ 0 ≤ x ∧ x ≤ 3 ∧ 0 ≤ y ∧ 4096 < z2 + ((wrL x y cs z2).length : Int)))) ∧ n + phB w' + phB w2' ≤ phB w + phB w2 + 6 ∧ k ≤ n) (fun (u : Nat × ClassId × Nat × (Nat → Int) × Int × Nat × ClassId × Nat × (Nat → Int) × Int) (tS : State) => match u with | (r', cA', w', t', z', r2', cA2', w2', t2', z2') => va_P (dC, dI) vwCl [(rr, .inr (3, [.ref tp, .ref b, .ref nda, .ref ndb])), (tp, .inr (0, [.ref r2', .int (iI z2')])), (r2', .inl (cA2', w2', .inl (fun j => bI (t2' j)))), (b, .inr (0, [.ref r', .int (iI z')])), (r', .inl (cA', w', .inl (fun j => bI (t' j))))] tS.heap ∧ va_K (dC, dI) vwCl [(cA2', .byte), (cA', .byte)] tS ∧ va_D (va_A [(rr, .inr (3, [.ref tp, .ref b, .ref nda, .ref ndb])), (tp, .inr (0, [.ref r2, .int (iI z2)])), (r2, .inl (cA2, w2, .inl (fun j => bI (t2 j)))), (b, .inr (0, [.ref r, .int (iI z)])), (r, .inl (cA, w, .inl (fun j => bI (t j))))] sz) [(rr, .inr (3, [.ref tp, .ref b, .ref nda, .ref ndb])), (tp, .inr (0, [.ref r2', .int (iI z2')])), (r2', .inl (cA2', w2', .inl (fun j => bI (t2' j)))), (b, .inr (0, [.ref r', .int (iI z')])), (r', .inl (cA', w', .inl (fun j => bI (t' j))))]) (va_A [(rr, .inr (3, [.ref tp, .ref b, .ref nda, .ref ndb])), (tp, .inr (0, [.ref r2, .int (iI z2)])), (r2, .inl (cA2, w2, .inl (fun j => bI (t2 j)))), (b, .inr (0, [.ref r, .int (iI z)])), (r, .inl (cA, w, .inl (fun j => bI (t j))))] sz)) (va_A [(rr, .inr (3, [.ref tp, .ref b, .ref nda, .ref ndb])), (tp, .inr (0, [.ref r2, .int (iI z2)])), (r2, .inl (cA2, w2, .inl (fun j => bI (t2 j)))), (b, .inr (0, [.ref r, .int (iI z)])), (r, .inl (cA, w, .inl (fun j => bI (t j))))] sz) := by
  refine mx_ofW (cc := cX3_wrap) (maxL := 4) (ret := (some .int)) (by decide) rfl ?_
  intro p e s m args below meth c s₁ B hml ht9 hv
  obtain ⟨rfl, hsz, hP, hK, hD0, hX⟩ := hv
  have hx := B.exec
  have hb := B.bytes
  have hr := B.returns
  have hT : ∀ w ∈ wT, w.before _ s = true := fun w h => atoms_spec (ws := wsX3_wrap) B.pre w (List.mem_cons_of_mem _ h)
  have hown : s.vm.findClass RX3 = some m.cls := findClass_of_methodNamed B.named
  have hlocks := B.notSynchronized
  subst hsz
  have hD := hD0.self (sz := s.heap.size)
  generalize hAe : va_A [(rr, .inr (3, [.ref tp, .ref b, .ref nda, .ref ndb])), (tp, .inr (0, [.ref r2, .int (iI z2)])), (r2, .inl (cA2, w2, .inl (fun j => bI (t2 j)))), (b, .inr (0, [.ref r, .int (iI z)])), (r, .inl (cA, w, .inl (fun j => bI (t j))))] s.heap.size = A at hD hX ⊢
  have hA : ∀ q : Nat, s.heap.size ≤ q → A q := fun q h => by rw [← hAe]; exact Or.inr h
  have hS : va_S A s.heap s.heap [] := va_S.rf
  have hP : va_P (dC, dI) vwCl [(rr, .inr (3, [.ref tp, .ref b, .ref nda, .ref ndb])), (tp, .inr (0, [.ref r2, .int (iI z2)])), (r2, .inl (cA2, w2, .inl (fun j => bI (t2 j)))), (b, .inr (0, [.ref r, .int (iI z)])), (r, .inl (cA, w, .inl (fun j => bI (t j))))] s.heap := hP
  have hl := lv_entry ([.ref rr, .int (iI x), .int (iI y), .int (iI cs)]) (n := 4) (Nat.le_of_ble_eq_true rfl)
  rw [lg_entry_eq]
  generalize (lg_sl ([.ref rr, .int (iI x), .int (iI y), .int (iI cs)]) ++ List.replicate (4 - (lg_sl ([.ref rr, .int (iI x), .int (iI y), .int (iI cs)])).length) Slot.unset).toArray = ls at hl ⊢
  have hl : lv_has ls 4 [(0, .ref rr), (1, .int (iI x)), (2, .int (iI y)), (3, .int (iI cs))] := hl
  have hN := hX.1
  obtain ⟨hw1, hw2, hw3, hw4, hw5, hw6⟩ := id hok
  obtain ⟨hv1, hv2, hv3, hv4, hv5, hv6⟩ := id hok2
  refine lv_iload_n hx hb dX3_wrap_0 rfl (lv_at hl 1 rfl) ?_
  refine lv_iload_n hx hb dX3_wrap_1 rfl (lv_at hl 2 rfl) ?_
  have hPc := hP.sub (ws' := []) [] rfl
  have hDc := hD.sub (ws' := []) [] (by decide) rfl
  have hKc := hK.sub (tys' := []) [] rfl
  have hFc := va_free (wc := []) hD hS hA [] rfl
  refine mv_call (mv_runS (As := [.int (iI x), .int (iI y)]) (rest := []) ⟨hx, hb, hml, hown, hT⟩ (c_R_isid l dC dI s.heap.size x y (by omega) (by omega)) (cwS 2 hT (gS wd450 wd451 wd26 wd452) rfl rfl rfl (by decide +kernel) ⟨show 0 + 1 ≤ 8 from by omega, show 8 + (2 + 11) + 0 ≤ 300 from by omega⟩) ⟨fun a U g mk q => by obtain ⟨q0, q1, qP, qK, qD⟩ := q; exact ⟨q0, q1, qP, va_K.moved (u := U) (U := U.calling g mk a) (Vm.Alike.refl U.vm) qK, qD⟩, fun U hU hW => ⟨rfl, by rw [hU], by rw [hU]; exact hPc, va_K.moved hW.alike hKc, hDc.weaken (fun _ _ _ _ => trivial)⟩⟩ rfl rfl hl.1 rfl (lv_room (Nat.le_of_ble_eq_true rfl)) dX3_wrap_2 ⟨show 0 + 0 ≤ (phB w + phB w2 + 6) from by omega, show 0 + 0 ≤ (phB w + phB w2 + 6) from by omega⟩) hS (fun q _ h => hFc q h) hFc (fun v3 u k1 n2 tS H1 locs ht hvm hw hB hz1 hk1 hS => ?_)
  obtain ⟨q4, rfl⟩ : ∃ y, y = u := ⟨_, rfl⟩
  obtain ⟨hP1, hK1, hD1⟩ := hB
  rw [ht] at hP1
  have hK1 := va_K.moved hvm.symm hK1
  try dsimp only at hw
  obtain ⟨hP, hD⟩ := va_join (wr := [(rr, .inr (3, [.ref tp, .ref b, .ref nda, .ref ndb])), (tp, .inr (0, [.ref r2, .int (iI z2)])), (r2, .inl (cA2, w2, .inl (fun j => bI (t2 j)))), (b, .inr (0, [.ref r, .int (iI z)])), (r, .inl (cA, w, .inl (fun j => bI (t j))))]) (w1 := []) hP hD [] [0, 1, 2, 3, 4] rfl rfl (by decide) (by decide) hk1 hFc hP1 hD1
  have hK := (hK.sub (tys' := [(cA2, .byte), (cA, .byte)]) [0, 1] rfl).app hK1
  generalize H1 = H at hP hS ⊢
  have hP : va_P (dC, dI) vwCl [(rr, .inr (3, [.ref tp, .ref b, .ref nda, .ref ndb])), (tp, .inr (0, [.ref r2, .int (iI z2)])), (r2, .inl (cA2, w2, .inl (fun j => bI (t2 j)))), (b, .inr (0, [.ref r, .int (iI z)])), (r, .inl (cA, w, .inl (fun j => bI (t j))))] H := hP
  have hD : va_D A [(rr, .inr (3, [.ref tp, .ref b, .ref nda, .ref ndb])), (tp, .inr (0, [.ref r2, .int (iI z2)])), (r2, .inl (cA2, w2, .inl (fun j => bI (t2 j)))), (b, .inr (0, [.ref r, .int (iI z)])), (r, .inl (cA, w, .inl (fun j => bI (t j))))] := hD
  have hK : va_K (dC, dI) vwCl [(cA2, .byte), (cA, .byte)] s := hK
  obtain ⟨rfl, hqv3, rfl, rfl⟩ := hw
  refine W.eq (g2 := F0 m 5 ls [.int (iI q4)]) rfl ?_
  refine li_if_ne (tgt := 18) hx hb (by omega) dX3_wrap_5 (by decide) (fun c5 => ?_) (fun c5 => ?_)
  · skip
    refine lv_aload_n hx hb dX3_wrap_18 rfl (lv_at hl 0 rfl) ?_
    refine va_get (D := (dC, dI)) (ci := 3) (v := .ref b) (C := RX3) (T := TX3) (N := 4) hx hb hT inX3 hown hK hP 0 rfl rfl 1 (by decide) (hT _ wd121) (fun _ h9 => h9) rfl dX3_wrap_19 ?_
    refine lv_iconst (v := iI 0) hx hb dX3_wrap_22 rfl ?_
    have hPc := hP.sub (ws' := [(b, .inr (0, [.ref r, .int (iI z)]))]) [3] rfl
    have hDc := hD.sub (ws' := [(b, .inr (0, [.ref r, .int (iI z)]))]) [3] (by decide) rfl
    have hKc := hK.sub (tys' := []) [] rfl
    have hFc := va_free (wc := [(b, .inr (0, [.ref r, .int (iI z)]))]) hD hS hA [3] rfl
    refine mv_call (mv_runV (As := [.int (iI 0)]) (rest := []) ⟨hx, hb, hml, hown, hT⟩ (c_B_cut l dC dI H.size b r z 0 (by omega) (by omega)) (cwV 1 hT (gV wd278 wd279 wd280 wd27 wd281) rfl rfl rfl (by decide +kernel) ⟨show 0 + 1 ≤ 8 from by omega, show 8 + (2 + 11) + 0 ≤ 300 from by omega⟩) ⟨fun a U g mk q => by obtain ⟨q0, q1, qP, qK, qD⟩ := q; exact ⟨q0, q1, qP, va_K.moved (u := U) (U := U.calling g mk a) (Vm.Alike.refl U.vm) qK, qD⟩, va_recv hKc hPc (ci := 0) (q0 := 0) rfl rfl, fun U hU hW => ⟨rfl, by rw [hU], by rw [hU]; exact hPc, va_K.moved hW.alike hKc, hDc.weaken (fun _ _ _ _ => trivial)⟩⟩ rfl rfl hl.1 rfl (lv_room (Nat.le_of_ble_eq_true rfl)) dX3_wrap_23 ⟨show 0 + 0 + 0 ≤ (phB w + phB w2 + 6) from by omega, show 0 + 0 + 0 ≤ (phB w + phB w2 + 6) from by omega⟩) hS (fun q _ h => hFc q h) hFc (fun v8 u k6 n7 tS H1 locs ht hvm hw hB hz1 hk1 hS => ?_)
    obtain ⟨y9, rfl⟩ : ∃ y, y = u := ⟨_, rfl⟩
    obtain ⟨hP1, hK1, hD1⟩ := hB
    rw [ht] at hP1
    have hK1 := va_K.moved hvm.symm hK1
    try dsimp only at hw
    obtain ⟨hP, hD⟩ := va_join (wr := [(rr, .inr (3, [.ref tp, .ref b, .ref nda, .ref ndb])), (tp, .inr (0, [.ref r2, .int (iI z2)])), (r2, .inl (cA2, w2, .inl (fun j => bI (t2 j)))), (r, .inl (cA, w, .inl (fun j => bI (t j))))]) (w1 := [(b, .inr (0, [.ref r, .int (iI y9)]))]) hP hD [3] [0, 1, 2, 4] rfl rfl (by decide) (by decide) hk1 hFc hP1 hD1
    have hK := (hK.sub (tys' := [(cA2, .byte), (cA, .byte)]) [0, 1] rfl).app hK1
    generalize H1 = H at hP hS ⊢
    have hP : va_P (dC, dI) vwCl [(rr, .inr (3, [.ref tp, .ref b, .ref nda, .ref ndb])), (tp, .inr (0, [.ref r2, .int (iI z2)])), (r2, .inl (cA2, w2, .inl (fun j => bI (t2 j)))), (r, .inl (cA, w, .inl (fun j => bI (t j)))), (b, .inr (0, [.ref r, .int (iI y9)]))] H := hP
    have hD : va_D A [(rr, .inr (3, [.ref tp, .ref b, .ref nda, .ref ndb])), (tp, .inr (0, [.ref r2, .int (iI z2)])), (r2, .inl (cA2, w2, .inl (fun j => bI (t2 j)))), (r, .inl (cA, w, .inl (fun j => bI (t j)))), (b, .inr (0, [.ref r, .int (iI y9)]))] := hD
    have hK : va_K (dC, dI) vwCl [(cA2, .byte), (cA, .byte)] s := hK
    obtain ⟨hy9, rfl, rfl, rfl⟩ := hw
    refine W.eq (g2 := F0 m 26 ls []) rfl ?_
    have hok0 : okB w t y9 [] := (show L.take (y9 : Int).toNat = [] by rw [show (y9 : Int).toNat = 0 by omega]; rfl) ▸ okB_cut hok (by omega)
    refine lv_aload_n hx hb dX3_wrap_26 rfl (lv_at hl 0 rfl) ?_
    refine lv_iload_n hx hb dX3_wrap_27 rfl (lv_at hl 1 rfl) ?_
    refine lv_iload_n hx hb dX3_wrap_28 rfl (lv_at hl 2 rfl) ?_
    refine lv_iload_n hx hb dX3_wrap_29 rfl (lv_at hl 3 rfl) ?_
    have hPc := hP.sub (ws' := [(rr, .inr (3, [.ref tp, .ref b, .ref nda, .ref ndb])), (b, .inr (0, [.ref r, .int (iI y9)])), (r, .inl (cA, w, .inl (fun j => bI (t j))))]) [0, 4, 3] rfl
    have hDc := hD.sub (ws' := [(rr, .inr (3, [.ref tp, .ref b, .ref nda, .ref ndb])), (b, .inr (0, [.ref r, .int (iI y9)])), (r, .inl (cA, w, .inl (fun j => bI (t j))))]) [0, 4, 3] (by decide) rfl
    have hKc := hK.sub (tys' := [(cA, .byte)]) [1] rfl
    have hFc := va_free (wc := [(rr, .inr (3, [.ref tp, .ref b, .ref nda, .ref ndb])), (b, .inr (0, [.ref r, .int (iI y9)])), (r, .inl (cA, w, .inl (fun j => bI (t j))))]) hD hS hA [0, 4, 3] rfl
    refine mv_call (mv_runV (As := [.int (iI x), .int (iI y), .int (iI cs)]) (rest := []) ⟨hx, hb, hml, hown, hT⟩ (c_R_wid l dC dI H.size rr tp nda ndb b r cA w t y9 ([] : List Int) x y cs (hok0) (by omega) (by omega) (by omega) (by omega)) (cwV 3 hT (gV wd454 wd456 wd14 wd26 wd457) rfl rfl rfl (by decide +kernel) ⟨show 5 + 1 ≤ 8 from by omega, show 8 + (6 + 11) + 190 ≤ 300 from by omega⟩) ⟨fun a U g mk q => by obtain ⟨q0, q1, qP, qK, qD⟩ := q; exact ⟨q0, q1, qP, va_K.moved (u := U) (U := U.calling g mk a) (Vm.Alike.refl U.vm) qK, qD⟩, va_recv hKc hPc (ci := 3) (q0 := 0) rfl rfl, fun U hU hW => ⟨rfl, by rw [hU], by rw [hU]; exact hPc, va_K.moved hW.alike hKc, hDc.weaken (fun _ _ _ _ => trivial)⟩⟩ rfl rfl hl.1 rfl (lv_room (Nat.le_of_ble_eq_true rfl)) dX3_wrap_30 ⟨show 0 + 0 + 0 + (phB w) ≤ (phB w + phB w2 + 6) from by omega, show 0 + 0 + 0 + (phB w) ≤ (phB w + phB w2 + 6) from by omega⟩) hS (fun q _ h => hFc q h) hFc (fun v12 u k10 n11 tS H1 locs ht hvm hw hB hz1 hk1 hS => ?_)
    obtain ⟨r13, cA14, w15, t16, z17⟩ := u
    obtain ⟨hP1, hK1, hD1⟩ := hB
    rw [ht] at hP1
    have hK1 := va_K.moved hvm.symm hK1
    try dsimp only at hw
    obtain ⟨hP, hD⟩ := va_join (wr := [(tp, .inr (0, [.ref r2, .int (iI z2)])), (r2, .inl (cA2, w2, .inl (fun j => bI (t2 j))))]) (w1 := [(rr, .inr (3, [.ref tp, .ref b, .ref nda, .ref ndb])), (b, .inr (0, [.ref r13, .int (iI z17)])), (r13, .inl (cA14, w15, .inl (fun j => bI (t16 j))))]) hP hD [0, 4, 3] [1, 2] rfl rfl (by decide) (by decide) hk1 hFc hP1 hD1
    have hK := (hK.sub (tys' := [(cA2, .byte)]) [0] rfl).app hK1
    generalize H1 = H at hP hS ⊢
    have hP : va_P (dC, dI) vwCl [(tp, .inr (0, [.ref r2, .int (iI z2)])), (r2, .inl (cA2, w2, .inl (fun j => bI (t2 j)))), (rr, .inr (3, [.ref tp, .ref b, .ref nda, .ref ndb])), (b, .inr (0, [.ref r13, .int (iI z17)])), (r13, .inl (cA14, w15, .inl (fun j => bI (t16 j))))] H := hP
    have hD : va_D A [(tp, .inr (0, [.ref r2, .int (iI z2)])), (r2, .inl (cA2, w2, .inl (fun j => bI (t2 j)))), (rr, .inr (3, [.ref tp, .ref b, .ref nda, .ref ndb])), (b, .inr (0, [.ref r13, .int (iI z17)])), (r13, .inl (cA14, w15, .inl (fun j => bI (t16 j))))] := hD
    have hK : va_K (dC, dI) vwCl [(cA2, .byte), (cA14, .byte)] s := hK
    obtain ⟨hokv12, hNv12, rfl, hFv12, hGv12⟩ := hw
    refine W.eq (g2 := F0 m 33 ls []) rfl ?_
    refine lv_aload_n hx hb dX3_wrap_33 rfl (lv_at hl 0 rfl) ?_
    refine lv_aload_n hx hb dX3_wrap_34 rfl (lv_at hl 0 rfl) ?_
    refine va_get (D := (dC, dI)) (ci := 3) (v := .ref tp) (C := RX3) (T := TX3) (N := 4) hx hb hT inX3 hown hK hP 2 rfl rfl 0 (by decide) (hT _ wd120) (fun _ h9 => h9) rfl dX3_wrap_35 ?_
    have hPc := hP.sub (ws' := [(tp, .inr (0, [.ref r2, .int (iI z2)]))]) [0] rfl
    have hDc := hD.sub (ws' := [(tp, .inr (0, [.ref r2, .int (iI z2)]))]) [0] (by decide) rfl
    have hKc := hK.sub (tys' := []) [] rfl
    have hFc := va_free (wc := [(tp, .inr (0, [.ref r2, .int (iI z2)]))]) hD hS hA [0] rfl
    refine mv_call (mv_runV (As := []) (rest := [.ref rr]) ⟨hx, hb, hml, hown, hT⟩ (c_B_size l dC dI H.size tp r2 z2 ) (cwV 0 hT (gV wd250 wd251 wd252 wd27 wd253) rfl rfl rfl (by decide +kernel) ⟨show 0 + 1 ≤ 8 from by omega, show 8 + (1 + 11) + 0 ≤ 300 from by omega⟩) ⟨fun a U g mk q => by obtain ⟨q0, q1, qP, qK, qD⟩ := q; exact ⟨q0, q1, qP, va_K.moved (u := U) (U := U.calling g mk a) (Vm.Alike.refl U.vm) qK, qD⟩, va_recv hKc hPc (ci := 0) (q0 := 0) rfl rfl, fun U hU hW => ⟨rfl, by rw [hU], by rw [hU]; exact hPc, va_K.moved hW.alike hKc, hDc.weaken (fun _ _ _ _ => trivial)⟩⟩ rfl rfl hl.1 rfl (lv_room (Nat.le_of_ble_eq_true rfl)) dX3_wrap_38 ⟨show 0 + 0 + 0 + k10 + 0 ≤ (phB w + phB w2 + 6) from by omega, show 0 + 0 + 0 + n11 + 0 ≤ (phB w + phB w2 + 6) from by omega⟩) hS (fun q _ h => hFc q h) hFc (fun v20 u k18 n19 tS H1 locs ht hvm hw hB hz1 hk1 hS => ?_)
    obtain ⟨hP1, hK1, hD1⟩ := hB
    rw [ht] at hP1
    have hK1 := va_K.moved hvm.symm hK1
    try dsimp only at hw
    obtain ⟨hP, hD⟩ := va_join (wr := [(r2, .inl (cA2, w2, .inl (fun j => bI (t2 j)))), (rr, .inr (3, [.ref tp, .ref b, .ref nda, .ref ndb])), (b, .inr (0, [.ref r13, .int (iI z17)])), (r13, .inl (cA14, w15, .inl (fun j => bI (t16 j))))]) (w1 := [(tp, .inr (0, [.ref r2, .int (iI z2)]))]) hP hD [0] [1, 2, 3, 4] rfl rfl (by decide) (by decide) hk1 hFc hP1 hD1
    have hK := (hK.sub (tys' := [(cA2, .byte), (cA14, .byte)]) [0, 1] rfl).app hK1
    generalize H1 = H at hP hS ⊢
    have hP : va_P (dC, dI) vwCl [(r2, .inl (cA2, w2, .inl (fun j => bI (t2 j)))), (rr, .inr (3, [.ref tp, .ref b, .ref nda, .ref ndb])), (b, .inr (0, [.ref r13, .int (iI z17)])), (r13, .inl (cA14, w15, .inl (fun j => bI (t16 j)))), (tp, .inr (0, [.ref r2, .int (iI z2)]))] H := hP
    have hD : va_D A [(r2, .inl (cA2, w2, .inl (fun j => bI (t2 j)))), (rr, .inr (3, [.ref tp, .ref b, .ref nda, .ref ndb])), (b, .inr (0, [.ref r13, .int (iI z17)])), (r13, .inl (cA14, w15, .inl (fun j => bI (t16 j)))), (tp, .inr (0, [.ref r2, .int (iI z2)]))] := hD
    have hK : va_K (dC, dI) vwCl [(cA2, .byte), (cA14, .byte)] s := hK
    obtain ⟨rfl, rfl, rfl⟩ := hw
    refine W.eq (g2 := F0 m 41 ls [.int (iI z2), .ref rr]) rfl ?_
    have hPc := hP.sub (ws' := [(rr, .inr (3, [.ref tp, .ref b, .ref nda, .ref ndb])), (b, .inr (0, [.ref r13, .int (iI z17)])), (r13, .inl (cA14, w15, .inl (fun j => bI (t16 j))))]) [1, 2, 3] rfl
    have hDc := hD.sub (ws' := [(rr, .inr (3, [.ref tp, .ref b, .ref nda, .ref ndb])), (b, .inr (0, [.ref r13, .int (iI z17)])), (r13, .inl (cA14, w15, .inl (fun j => bI (t16 j))))]) [1, 2, 3] (by decide) rfl
    have hKc := hK.sub (tys' := [(cA14, .byte)]) [1] rfl
    have hFc := va_free (wc := [(rr, .inr (3, [.ref tp, .ref b, .ref nda, .ref ndb])), (b, .inr (0, [.ref r13, .int (iI z17)])), (r13, .inl (cA14, w15, .inl (fun j => bI (t16 j))))]) hD hS hA [1, 2, 3] rfl
    refine mv_call (mv_runV (As := [.int (iI z2)]) (rest := []) ⟨hx, hb, hml, hown, hT⟩ (c_R_wlen l dC dI H.size rr tp nda ndb b r13 cA14 w15 t16 z17 (([] : List Int) ++ idB x y cs) z2 (hokv12) (by omega) (by omega)) (cwV 1 hT (gV wd459 wd461 wd15 wd26 wd462) rfl rfl rfl (by decide +kernel) ⟨show 5 + 1 ≤ 8 from by omega, show 8 + (2 + 11) + 190 ≤ 300 from by omega⟩) ⟨fun a U g mk q => by obtain ⟨q0, q1, qP, qK, qD⟩ := q; exact ⟨q0, q1, qP, va_K.moved (u := U) (U := U.calling g mk a) (Vm.Alike.refl U.vm) qK, qD⟩, va_recv hKc hPc (ci := 3) (q0 := 0) rfl rfl, fun U hU hW => ⟨rfl, by rw [hU], by rw [hU]; exact hPc, va_K.moved hW.alike hKc, hDc.weaken (fun _ _ _ _ => trivial)⟩⟩ rfl rfl hl.1 rfl (lv_room (Nat.le_of_ble_eq_true rfl)) dX3_wrap_41 ⟨show 0 + 0 + 0 + k10 + 0 + (phB w15) ≤ (phB w + phB w2 + 6) from by omega, show 0 + 0 + 0 + n11 + 0 + (phB w15) ≤ (phB w + phB w2 + 6) from by omega⟩) hS (fun q _ h => hFc q h) hFc (fun v23 u k21 n22 tS H1 locs ht hvm hw hB hz1 hk1 hS => ?_)
    obtain ⟨r24, cA25, w26, t27, z28⟩ := u
    obtain ⟨hP1, hK1, hD1⟩ := hB
    rw [ht] at hP1
    have hK1 := va_K.moved hvm.symm hK1
    try dsimp only at hw
    obtain ⟨hP, hD⟩ := va_join (wr := [(r2, .inl (cA2, w2, .inl (fun j => bI (t2 j)))), (tp, .inr (0, [.ref r2, .int (iI z2)]))]) (w1 := [(rr, .inr (3, [.ref tp, .ref b, .ref nda, .ref ndb])), (b, .inr (0, [.ref r24, .int (iI z28)])), (r24, .inl (cA25, w26, .inl (fun j => bI (t27 j))))]) hP hD [1, 2, 3] [0, 4] rfl rfl (by decide) (by decide) hk1 hFc hP1 hD1
    have hK := (hK.sub (tys' := [(cA2, .byte)]) [0] rfl).app hK1
    generalize H1 = H at hP hS ⊢
    have hP : va_P (dC, dI) vwCl [(r2, .inl (cA2, w2, .inl (fun j => bI (t2 j)))), (tp, .inr (0, [.ref r2, .int (iI z2)])), (rr, .inr (3, [.ref tp, .ref b, .ref nda, .ref ndb])), (b, .inr (0, [.ref r24, .int (iI z28)])), (r24, .inl (cA25, w26, .inl (fun j => bI (t27 j))))] H := hP
    have hD : va_D A [(r2, .inl (cA2, w2, .inl (fun j => bI (t2 j)))), (tp, .inr (0, [.ref r2, .int (iI z2)])), (rr, .inr (3, [.ref tp, .ref b, .ref nda, .ref ndb])), (b, .inr (0, [.ref r24, .int (iI z28)])), (r24, .inl (cA25, w26, .inl (fun j => bI (t27 j))))] := hD
    have hK : va_K (dC, dI) vwCl [(cA2, .byte), (cA25, .byte)] s := hK
    obtain ⟨hokv23, hNv23, rfl, hFv23, hGv23⟩ := hw
    refine W.eq (g2 := F0 m 44 ls []) rfl ?_
    refine lv_aload_n hx hb dX3_wrap_44 rfl (lv_at hl 0 rfl) ?_
    refine va_get (D := (dC, dI)) (ci := 3) (v := .ref tp) (C := RX3) (T := TX3) (N := 4) hx hb hT inX3 hown hK hP 2 rfl rfl 0 (by decide) (hT _ wd120) (fun _ h9 => h9) rfl dX3_wrap_45 ?_
    refine lv_aload_n hx hb dX3_wrap_48 rfl (lv_at hl 0 rfl) ?_
    refine va_get (D := (dC, dI)) (ci := 3) (v := .ref b) (C := RX3) (T := TX3) (N := 4) hx hb hT inX3 hown hK hP 2 rfl rfl 1 (by decide) (hT _ wd121) (fun _ h9 => h9) rfl dX3_wrap_49 ?_
    have hPc := hP.sub (ws' := [(b, .inr (0, [.ref r24, .int (iI z28)]))]) [3] rfl
    have hDc := hD.sub (ws' := [(b, .inr (0, [.ref r24, .int (iI z28)]))]) [3] (by decide) rfl
    have hKc := hK.sub (tys' := []) [] rfl
    have hFc := va_free (wc := [(b, .inr (0, [.ref r24, .int (iI z28)]))]) hD hS hA [3] rfl
    refine mv_call (mv_runV (As := []) (rest := [.ref tp]) ⟨hx, hb, hml, hown, hT⟩ (c_B_size l dC dI H.size b r24 z28 ) (cwV 0 hT (gV wd250 wd251 wd252 wd27 wd253) rfl rfl rfl (by decide +kernel) ⟨show 0 + 1 ≤ 8 from by omega, show 8 + (1 + 11) + 0 ≤ 300 from by omega⟩) ⟨fun a U g mk q => by obtain ⟨q0, q1, qP, qK, qD⟩ := q; exact ⟨q0, q1, qP, va_K.moved (u := U) (U := U.calling g mk a) (Vm.Alike.refl U.vm) qK, qD⟩, va_recv hKc hPc (ci := 0) (q0 := 0) rfl rfl, fun U hU hW => ⟨rfl, by rw [hU], by rw [hU]; exact hPc, va_K.moved hW.alike hKc, hDc.weaken (fun _ _ _ _ => trivial)⟩⟩ rfl rfl hl.1 rfl (lv_room (Nat.le_of_ble_eq_true rfl)) dX3_wrap_52 ⟨show 0 + 0 + 0 + k10 + 0 + k21 + 0 ≤ (phB w + phB w2 + 6) from by omega, show 0 + 0 + 0 + n11 + 0 + n22 + 0 ≤ (phB w + phB w2 + 6) from by omega⟩) hS (fun q _ h => hFc q h) hFc (fun v31 u k29 n30 tS H1 locs ht hvm hw hB hz1 hk1 hS => ?_)
    obtain ⟨hP1, hK1, hD1⟩ := hB
    rw [ht] at hP1
    have hK1 := va_K.moved hvm.symm hK1
    try dsimp only at hw
    obtain ⟨hP, hD⟩ := va_join (wr := [(r2, .inl (cA2, w2, .inl (fun j => bI (t2 j)))), (tp, .inr (0, [.ref r2, .int (iI z2)])), (rr, .inr (3, [.ref tp, .ref b, .ref nda, .ref ndb])), (r24, .inl (cA25, w26, .inl (fun j => bI (t27 j))))]) (w1 := [(b, .inr (0, [.ref r24, .int (iI z28)]))]) hP hD [3] [0, 1, 2, 4] rfl rfl (by decide) (by decide) hk1 hFc hP1 hD1
    have hK := (hK.sub (tys' := [(cA2, .byte), (cA25, .byte)]) [0, 1] rfl).app hK1
    generalize H1 = H at hP hS ⊢
    have hP : va_P (dC, dI) vwCl [(r2, .inl (cA2, w2, .inl (fun j => bI (t2 j)))), (tp, .inr (0, [.ref r2, .int (iI z2)])), (rr, .inr (3, [.ref tp, .ref b, .ref nda, .ref ndb])), (r24, .inl (cA25, w26, .inl (fun j => bI (t27 j)))), (b, .inr (0, [.ref r24, .int (iI z28)]))] H := hP
    have hD : va_D A [(r2, .inl (cA2, w2, .inl (fun j => bI (t2 j)))), (tp, .inr (0, [.ref r2, .int (iI z2)])), (rr, .inr (3, [.ref tp, .ref b, .ref nda, .ref ndb])), (r24, .inl (cA25, w26, .inl (fun j => bI (t27 j)))), (b, .inr (0, [.ref r24, .int (iI z28)]))] := hD
    have hK : va_K (dC, dI) vwCl [(cA2, .byte), (cA25, .byte)] s := hK
    obtain ⟨rfl, rfl, rfl⟩ := hw
    refine W.eq (g2 := F0 m 55 ls [.int (iI z28), .ref tp]) rfl ?_
    have hPc := hP.sub (ws' := [(tp, .inr (0, [.ref r2, .int (iI z2)]))]) [1] rfl
    have hDc := hD.sub (ws' := [(tp, .inr (0, [.ref r2, .int (iI z2)]))]) [1] (by decide) rfl
    have hKc := hK.sub (tys' := []) [] rfl
    have hFc := va_free (wc := [(tp, .inr (0, [.ref r2, .int (iI z2)]))]) hD hS hA [1] rfl
    refine mv_call (mv_runV (As := [.int (iI z28)]) (rest := []) ⟨hx, hb, hml, hown, hT⟩ (c_B_room l dC dI H.size tp r2 z2 z28 (by omega) (by omega)) (cwV 1 hT (gV wd141 wd142 wd143 wd27 wd144) rfl rfl rfl (by decide +kernel) ⟨show 0 + 1 ≤ 8 from by omega, show 8 + (2 + 11) + 0 ≤ 300 from by omega⟩) ⟨fun a U g mk q => by obtain ⟨q0, q1, qP, qK, qD⟩ := q; exact ⟨q0, q1, qP, va_K.moved (u := U) (U := U.calling g mk a) (Vm.Alike.refl U.vm) qK, qD⟩, va_recv hKc hPc (ci := 0) (q0 := 0) rfl rfl, fun U hU hW => ⟨rfl, by rw [hU], by rw [hU]; exact hPc, va_K.moved hW.alike hKc, hDc.weaken (fun _ _ _ _ => trivial)⟩⟩ rfl rfl hl.1 rfl (lv_room (Nat.le_of_ble_eq_true rfl)) dX3_wrap_55 ⟨show 0 + 0 + 0 + k10 + 0 + k21 + 0 + 0 ≤ (phB w + phB w2 + 6) from by omega, show 0 + 0 + 0 + n11 + 0 + n22 + 0 + 0 ≤ (phB w + phB w2 + 6) from by omega⟩) hS (fun q _ h => hFc q h) hFc (fun v34 u k32 n33 tS H1 locs ht hvm hw hB hz1 hk1 hS => ?_)
    obtain ⟨q35, rfl⟩ : ∃ y, y = u := ⟨_, rfl⟩
    obtain ⟨hP1, hK1, hD1⟩ := hB
    rw [ht] at hP1
    have hK1 := va_K.moved hvm.symm hK1
    try dsimp only at hw
    obtain ⟨hP, hD⟩ := va_join (wr := [(r2, .inl (cA2, w2, .inl (fun j => bI (t2 j)))), (rr, .inr (3, [.ref tp, .ref b, .ref nda, .ref ndb])), (r24, .inl (cA25, w26, .inl (fun j => bI (t27 j)))), (b, .inr (0, [.ref r24, .int (iI z28)]))]) (w1 := [(tp, .inr (0, [.ref r2, .int (iI z2)]))]) hP hD [1] [0, 2, 3, 4] rfl rfl (by decide) (by decide) hk1 hFc hP1 hD1
    have hK := (hK.sub (tys' := [(cA2, .byte), (cA25, .byte)]) [0, 1] rfl).app hK1
    generalize H1 = H at hP hS ⊢
    have hP : va_P (dC, dI) vwCl [(r2, .inl (cA2, w2, .inl (fun j => bI (t2 j)))), (rr, .inr (3, [.ref tp, .ref b, .ref nda, .ref ndb])), (r24, .inl (cA25, w26, .inl (fun j => bI (t27 j)))), (b, .inr (0, [.ref r24, .int (iI z28)])), (tp, .inr (0, [.ref r2, .int (iI z2)]))] H := hP
    have hD : va_D A [(r2, .inl (cA2, w2, .inl (fun j => bI (t2 j)))), (rr, .inr (3, [.ref tp, .ref b, .ref nda, .ref ndb])), (r24, .inl (cA25, w26, .inl (fun j => bI (t27 j)))), (b, .inr (0, [.ref r24, .int (iI z28)])), (tp, .inr (0, [.ref r2, .int (iI z2)]))] := hD
    have hK : va_K (dC, dI) vwCl [(cA2, .byte), (cA25, .byte)] s := hK
    obtain ⟨rfl, hq35, rfl, rfl⟩ := hw
    refine W.eq (g2 := F0 m 58 ls [.int (iI q35)]) rfl ?_
    refine li_if_ne (tgt := 71) hx hb (by omega) dX3_wrap_58 (by decide) (fun c36 => ?_) (fun c36 => ?_)
    · skip
      refine lv_aload_n hx hb dX3_wrap_71 rfl (lv_at hl 0 rfl) ?_
      refine va_get (D := (dC, dI)) (ci := 3) (v := .ref tp) (C := RX3) (T := TX3) (N := 4) hx hb hT inX3 hown hK hP 1 rfl rfl 0 (by decide) (hT _ wd120) (fun _ h9 => h9) rfl dX3_wrap_72 ?_
      refine lv_aload_n hx hb dX3_wrap_75 rfl (lv_at hl 0 rfl) ?_
      refine va_get (D := (dC, dI)) (ci := 3) (v := .ref b) (C := RX3) (T := TX3) (N := 4) hx hb hT inX3 hown hK hP 1 rfl rfl 1 (by decide) (hT _ wd121) (fun _ h9 => h9) rfl dX3_wrap_76 ?_
      have hPc := hP.sub (ws' := [(tp, .inr (0, [.ref r2, .int (iI z2)])), (r2, .inl (cA2, w2, .inl (fun j => bI (t2 j)))), (b, .inr (0, [.ref r24, .int (iI z28)])), (r24, .inl (cA25, w26, .inl (fun j => bI (t27 j))))]) [4, 0, 3, 2] rfl
      have hDc := hD.sub (ws' := [(tp, .inr (0, [.ref r2, .int (iI z2)])), (r2, .inl (cA2, w2, .inl (fun j => bI (t2 j)))), (b, .inr (0, [.ref r24, .int (iI z28)])), (r24, .inl (cA25, w26, .inl (fun j => bI (t27 j))))]) [4, 0, 3, 2] (by decide) rfl
      have hKc := hK.sub (tys' := [(cA2, .byte), (cA25, .byte)]) [0, 1] rfl
      have hFc := va_free (wc := [(tp, .inr (0, [.ref r2, .int (iI z2)])), (r2, .inl (cA2, w2, .inl (fun j => bI (t2 j)))), (b, .inr (0, [.ref r24, .int (iI z28)])), (r24, .inl (cA25, w26, .inl (fun j => bI (t27 j))))]) hD hS hA [4, 0, 3, 2] rfl
      refine mv_call (mv_runV (As := [.ref b]) (rest := []) ⟨hx, hb, hml, hown, hT⟩ (c_B_front l dC dI H.size tp r2 cA2 w2 t2 z2 L2 b r24 cA25 w26 t27 z28 ((([] : List Int) ++ idB x y cs) ++ lnB z2) (hok2) (hokv23) (by omega)) (cwV 1 hT (gV wd463 wd464 wd465 wd27 wd466) rfl rfl rfl (by decide +kernel) ⟨show 3 + 1 ≤ 8 from by omega, show 8 + (4 + 11) + 130 ≤ 300 from by omega⟩) ⟨fun a U g mk q => by obtain ⟨q0, q1, qP, qK, qD⟩ := q; exact ⟨q0, q1, qP, va_K.moved (u := U) (U := U.calling g mk a) (Vm.Alike.refl U.vm) qK, qD⟩, va_recv hKc hPc (ci := 0) (q0 := 0) rfl rfl, fun U hU hW => ⟨rfl, by rw [hU], by rw [hU]; exact hPc, va_K.moved hW.alike hKc, hDc.weaken (fun _ _ _ _ => trivial)⟩⟩ rfl rfl hl.1 rfl (lv_room (Nat.le_of_ble_eq_true rfl)) dX3_wrap_79 ⟨show 0 + 0 + 0 + k10 + 0 + k21 + 0 + 0 + (phB w2) ≤ (phB w + phB w2 + 6) from by omega, show 0 + 0 + 0 + n11 + 0 + n22 + 0 + 0 + (phB w2) ≤ (phB w + phB w2 + 6) from by omega⟩) hS (fun q _ h => hFc q h) hFc (fun v39 u k37 n38 tS H1 locs ht hvm hw hB hz1 hk1 hS => ?_)
      obtain ⟨r40, cA41, w42, t43, z44⟩ := u
      obtain ⟨hP1, hK1, hD1⟩ := hB
      rw [ht] at hP1
      have hK1 := va_K.moved hvm.symm hK1
      try dsimp only at hw
      obtain ⟨hP, hD⟩ := va_join (wr := [(rr, .inr (3, [.ref tp, .ref b, .ref nda, .ref ndb]))]) (w1 := [(tp, .inr (0, [.ref r40, .int (iI z44)])), (r40, .inl (cA41, w42, .inl (fun j => bI (t43 j)))), (b, .inr (0, [.ref r24, .int (iI z28)])), (r24, .inl (cA25, w26, .inl (fun j => bI (t27 j))))]) hP hD [4, 0, 3, 2] [1] rfl rfl (by decide) (by decide) hk1 hFc hP1 hD1
      have hK := (hK.sub (tys' := []) [] rfl).app hK1
      generalize H1 = H at hP hS ⊢
      have hP : va_P (dC, dI) vwCl [(rr, .inr (3, [.ref tp, .ref b, .ref nda, .ref ndb])), (tp, .inr (0, [.ref r40, .int (iI z44)])), (r40, .inl (cA41, w42, .inl (fun j => bI (t43 j)))), (b, .inr (0, [.ref r24, .int (iI z28)])), (r24, .inl (cA25, w26, .inl (fun j => bI (t27 j))))] H := hP
      have hD : va_D A [(rr, .inr (3, [.ref tp, .ref b, .ref nda, .ref ndb])), (tp, .inr (0, [.ref r40, .int (iI z44)])), (r40, .inl (cA41, w42, .inl (fun j => bI (t43 j)))), (b, .inr (0, [.ref r24, .int (iI z28)])), (r24, .inl (cA25, w26, .inl (fun j => bI (t27 j))))] := hD
      have hK : va_K (dC, dI) vwCl [(cA41, .byte), (cA25, .byte)] s := hK
      obtain ⟨hokv39, hNv39, rfl, hFv39, hGv39⟩ := hw
      refine W.eq (g2 := F0 m 82 ls []) rfl ?_
      refine lv_aload_n hx hb dX3_wrap_82 rfl (lv_at hl 0 rfl) ?_
      refine va_get (D := (dC, dI)) (ci := 3) (v := .ref tp) (C := RX3) (T := TX3) (N := 4) hx hb hT inX3 hown hK hP 0 rfl rfl 0 (by decide) (hT _ wd120) (fun _ h9 => h9) rfl dX3_wrap_83 ?_
      have hPc := hP.sub (ws' := [(tp, .inr (0, [.ref r40, .int (iI z44)]))]) [1] rfl
      have hDc := hD.sub (ws' := [(tp, .inr (0, [.ref r40, .int (iI z44)]))]) [1] (by decide) rfl
      have hKc := hK.sub (tys' := []) [] rfl
      have hFc := va_free (wc := [(tp, .inr (0, [.ref r40, .int (iI z44)]))]) hD hS hA [1] rfl
      refine mv_call (mv_runV (As := []) (rest := []) ⟨hx, hb, hml, hown, hT⟩ (c_B_size l dC dI H.size tp r40 z44 ) (cwV 0 hT (gV wd250 wd251 wd252 wd27 wd253) rfl rfl rfl (by decide +kernel) ⟨show 0 + 1 ≤ 8 from by omega, show 8 + (1 + 11) + 0 ≤ 300 from by omega⟩) ⟨fun a U g mk q => by obtain ⟨q0, q1, qP, qK, qD⟩ := q; exact ⟨q0, q1, qP, va_K.moved (u := U) (U := U.calling g mk a) (Vm.Alike.refl U.vm) qK, qD⟩, va_recv hKc hPc (ci := 0) (q0 := 0) rfl rfl, fun U hU hW => ⟨rfl, by rw [hU], by rw [hU]; exact hPc, va_K.moved hW.alike hKc, hDc.weaken (fun _ _ _ _ => trivial)⟩⟩ rfl rfl hl.1 rfl (lv_room (Nat.le_of_ble_eq_true rfl)) dX3_wrap_86 ⟨show 0 + 0 + 0 + k10 + 0 + k21 + 0 + 0 + k37 + 0 ≤ (phB w + phB w2 + 6) from by omega, show 0 + 0 + 0 + n11 + 0 + n22 + 0 + 0 + n38 + 0 ≤ (phB w + phB w2 + 6) from by omega⟩) hS (fun q _ h => hFc q h) hFc (fun v47 u k45 n46 tS H1 locs ht hvm hw hB hz1 hk1 hS => ?_)
      obtain ⟨hP1, hK1, hD1⟩ := hB
      rw [ht] at hP1
      have hK1 := va_K.moved hvm.symm hK1
      try dsimp only at hw
      obtain ⟨hP, hD⟩ := va_join (wr := [(rr, .inr (3, [.ref tp, .ref b, .ref nda, .ref ndb])), (r40, .inl (cA41, w42, .inl (fun j => bI (t43 j)))), (b, .inr (0, [.ref r24, .int (iI z28)])), (r24, .inl (cA25, w26, .inl (fun j => bI (t27 j))))]) (w1 := [(tp, .inr (0, [.ref r40, .int (iI z44)]))]) hP hD [1] [0, 2, 3, 4] rfl rfl (by decide) (by decide) hk1 hFc hP1 hD1
      have hK := (hK.sub (tys' := [(cA41, .byte), (cA25, .byte)]) [0, 1] rfl).app hK1
      generalize H1 = H at hP hS ⊢
      have hP : va_P (dC, dI) vwCl [(rr, .inr (3, [.ref tp, .ref b, .ref nda, .ref ndb])), (r40, .inl (cA41, w42, .inl (fun j => bI (t43 j)))), (b, .inr (0, [.ref r24, .int (iI z28)])), (r24, .inl (cA25, w26, .inl (fun j => bI (t27 j)))), (tp, .inr (0, [.ref r40, .int (iI z44)]))] H := hP
      have hD : va_D A [(rr, .inr (3, [.ref tp, .ref b, .ref nda, .ref ndb])), (r40, .inl (cA41, w42, .inl (fun j => bI (t43 j)))), (b, .inr (0, [.ref r24, .int (iI z28)])), (r24, .inl (cA25, w26, .inl (fun j => bI (t27 j)))), (tp, .inr (0, [.ref r40, .int (iI z44)]))] := hD
      have hK : va_K (dC, dI) vwCl [(cA41, .byte), (cA25, .byte)] s := hK
      obtain ⟨rfl, rfl, rfl⟩ := hw
      refine W.eq (g2 := F0 m 89 ls [.int (iI z44)]) rfl ?_
      have hln := hokv23.2.2.1
      have hln2 := hokv39.2.2.1
      simp only [List.length_append] at hln2
      have hend : (((([] : List Int) ++ idB x y cs) ++ lnB z2) ++ L2) = ((wrL x y cs z2) ++ L2) := by first | rfl | (simp only [wrL, adL, List.nil_append]; done) | (simp only [wrL, adL, List.nil_append, hqw])
      have hlq : (((([] : List Int) ++ idB x y cs) ++ lnB z2).length : Int) = ((wrL x y cs z2).length : Int) := by first | rfl | (simp only [wrL, adL, List.nil_append]; done) | (simp only [wrL, adL, List.nil_append, hqw])
      have hP9 := hP.sub (ws' := [(rr, .inr (3, [.ref tp, .ref b, .ref nda, .ref ndb])), (tp, .inr (0, [.ref r40, .int (iI z44)])), (r40, .inl (cA41, w42, .inl (fun j => bI (t43 j)))), (b, .inr (0, [.ref r24, .int (iI z28)])), (r24, .inl (cA25, w26, .inl (fun j => bI (t27 j))))]) [0, 4, 1, 2, 3] rfl
      have hD9 := hD.sub (ws' := [(rr, .inr (3, [.ref tp, .ref b, .ref nda, .ref ndb])), (tp, .inr (0, [.ref r40, .int (iI z44)])), (r40, .inl (cA41, w42, .inl (fun j => bI (t43 j)))), (b, .inr (0, [.ref r24, .int (iI z28)])), (r24, .inl (cA25, w26, .inl (fun j => bI (t27 j))))]) [0, 4, 1, 2, 3] (by decide) rfl
      have hK9 := hK.sub (tys' := [(cA41, .byte), (cA25, .byte)]) [0, 1] rfl
      exact mx_ret (mv_iret hx hb hr hlocks (fun tS ht hW => ⟨⟨_, (r24, cA25, w26, t27, z28, r40, cA41, w42, t43, z44), rfl, ⟨rfl, ⟨⟨_, hokv23⟩, hend ▸ hokv39, by omega, by omega, by omega, by omega⟩, by omega, by omega⟩, by rw [ht]; exact hP9, va_K.moved hW.alike hK9, hD9⟩, hS.F ht⟩) hS.2.2 dX3_wrap_89)
    · skip
      have hln := hokv23.2.2.1
      have hlq : (((([] : List Int) ++ idB x y cs) ++ lnB z2).length : Int) = ((wrL x y cs z2).length : Int) := by first | rfl | (simp only [wrL, adL, List.nil_append]; done) | (simp only [wrL, adL, List.nil_append, hqw])
      have hP9 := hP.sub (ws' := [(rr, .inr (3, [.ref tp, .ref b, .ref nda, .ref ndb])), (tp, .inr (0, [.ref r2, .int (iI z2)])), (r2, .inl (cA2, w2, .inl (fun j => bI (t2 j)))), (b, .inr (0, [.ref r24, .int (iI z28)])), (r24, .inl (cA25, w26, .inl (fun j => bI (t27 j))))]) [1, 4, 0, 3, 2] rfl
      have hD9 := hD.sub (ws' := [(rr, .inr (3, [.ref tp, .ref b, .ref nda, .ref ndb])), (tp, .inr (0, [.ref r2, .int (iI z2)])), (r2, .inl (cA2, w2, .inl (fun j => bI (t2 j)))), (b, .inr (0, [.ref r24, .int (iI z28)])), (r24, .inl (cA25, w26, .inl (fun j => bI (t27 j))))]) [1, 4, 0, 3, 2] (by decide) rfl
      have hK9 := hK.sub (tys' := [(cA2, .byte), (cA25, .byte)]) [0, 1] rfl
      obtain ⟨sa, hstr⟩ := xs_s35 hX.2.1
      exact mx_thr (vx_throwS (own := RX3) (cls := "java/lang/IndexOutOfBoundsException") (text := "the tape would have more than 4096 bytes") (names := exN) (ik := 33) (is := 35) (ic := 37) (A := A) (mc := 0 + 0 + 0 + k10 + 0 + k21 + 0 + 0 + 1) (ms := 0 + 0 + 0 + n11 + 0 + n22 + 0 + 0 + 6) hx hb hl9 hown (by decide) (by decide) (hT _ wd145) (hT _ wd34) hstr (xa_IOOBE hT hX.2.1) xg_IOOBE hX.2.2.1 hX.2.2.2 hS (hl.1.trans hml.symm) dX3_wrap_61 dX3_wrap_64 dX3_wrap_65 dX3_wrap_67 dX3_wrap_70 (fun x hx9 => (ht9 x hx9).elim) (show 2 + 3 < 8 from by decide) (show 0 + (13 * (2 + 1) + 43) ≤ 300 from by decide) (by show 0 + 0 + 0 + k10 + 0 + k21 + 0 + 0 + 1 ≤ (phB w + phB w2 + 6); omega) (by show 0 + 0 + 0 + n11 + 0 + n22 + 0 + 0 + 6 ≤ (phB w + phB w2 + 6); omega) hlocks (fun tS hv9 hz9 hq9 => ⟨(r24, cA25, w26, t27, z28, r2, cA2, w2, t2, z2), ⟨Or.inr (⟨rfl, ⟨⟨_, hokv23⟩, hok2, rfl, by omega, by omega, by omega, by omega⟩⟩), by omega, by omega⟩, ⟨xs_P hP9 hq9, va_K.moved hv9 hK9, hD9⟩, xs_F hS hz9 hq9⟩) hS.2.2 (Nat.le_refl _) (Nat.le_refl _))
  · skip
    have hP9 := hP.sub (ws' := [(rr, .inr (3, [.ref tp, .ref b, .ref nda, .ref ndb])), (tp, .inr (0, [.ref r2, .int (iI z2)])), (r2, .inl (cA2, w2, .inl (fun j => bI (t2 j)))), (b, .inr (0, [.ref r, .int (iI z)])), (r, .inl (cA, w, .inl (fun j => bI (t j))))]) [0, 1, 2, 3, 4] rfl
    have hD9 := hD.sub (ws' := [(rr, .inr (3, [.ref tp, .ref b, .ref nda, .ref ndb])), (tp, .inr (0, [.ref r2, .int (iI z2)])), (r2, .inl (cA2, w2, .inl (fun j => bI (t2 j)))), (b, .inr (0, [.ref r, .int (iI z)])), (r, .inl (cA, w, .inl (fun j => bI (t j))))]) [0, 1, 2, 3, 4] (by decide) rfl
    have hK9 := hK.sub (tys' := [(cA2, .byte), (cA, .byte)]) [0, 1] rfl
    obtain ⟨sa, hstr⟩ := xs_s96 hX.2.1
    exact mx_thr (vx_throwS (own := RX3) (cls := "java/lang/IllegalArgumentException") (text := "class 0 to 3, number 0 to 2^31 - 1") (names := exN) (ik := 48) (is := 96) (ic := 52) (A := A) (mc := 0 + 0 + 1) (ms := 0 + 0 + 6) hx hb hl9 hown (by decide) (by decide) (hT _ wd262) (hT _ wd38) hstr (xa_IAE hT hX.2.1) xg_IAE hX.2.2.1 hX.2.2.2 hS (hl.1.trans hml.symm) dX3_wrap_8 dX3_wrap_11 dX3_wrap_12 dX3_wrap_14 dX3_wrap_17 (fun x hx9 => (ht9 x hx9).elim) (show 2 + 3 < 8 from by decide) (show 0 + (13 * (2 + 1) + 43) ≤ 300 from by decide) (by show 0 + 0 + 1 ≤ (phB w + phB w2 + 6); omega) (by show 0 + 0 + 6 ≤ (phB w + phB w2 + 6); omega) hlocks (fun tS hv9 hz9 hq9 => ⟨(r, cA, w, t, z, r2, cA2, w2, t2, z2), ⟨Or.inl ⟨rfl, ⟨⟨_, hok⟩, hok2, rfl, by omega⟩⟩, by omega, by omega⟩, ⟨xs_P hP9 hq9, va_K.moved hv9 hK9, hD9⟩, xs_F hS hz9 hq9⟩) hS.2.2 (Nat.le_refl _) (Nat.le_refl _))
set_option maxHeartbeats 4000000 in
set_option maxRecDepth 100000 in
theorem c_R_add (l : Launch) (hl9 : l.stackTraces = false) (dC : Nat → ClassId) (dI : Nat → Nat → Nat) (sz : Nat) (rr : Nat) (tp : Nat) (nda : Nat) (ndb : Nat) (b : Nat) (r : Nat) (cA : ClassId) (w : Nat) (t : Nat → Int) (z : Int) (L : List Int) (r2 : Nat) (cA2 : ClassId) (w2 : Nat) (t2 : Nat → Int) (z2 : Int) (L2 : List Int) (x : Int) (y : Int) (q : Int) (hok : okB w t z L) (hok2 : okB w2 t2 z2 L2) (hx4 : -2147483648 ≤ x ∧ x < 2147483648) (hy : -2147483648 ≤ y ∧ y < 2147483648) (hq : -9223372036854775808 ≤ q ∧ q < 9223372036854775808) : mx_Met l yX3_add wsX3_add ({ frames := 8, cells := (phB w + phB w2 + 6), slots := (phB w + phB w2 + 6), locals := 300 }) (va_Pc [.ref rr, .int (iI x), .int (iI y), .long (lI q)] (fun U => U.heap.size = sz ∧ va_P (dC, dI) vwCl [(rr, .inr (3, [.ref tp, .ref b, .ref nda, .ref ndb])), (tp, .inr (0, [.ref r2, .int (iI z2)])), (r2, .inl (cA2, w2, .inl (fun j => bI (t2 j)))), (b, .inr (0, [.ref r, .int (iI z)])), (r, .inl (cA, w, .inl (fun j => bI (t j))))] U.heap ∧ va_K (dC, dI) vwCl [(cA2, .byte), (cA, .byte)] U ∧ va_D (fun _ => True) [(rr, .inr (3, [.ref tp, .ref b, .ref nda, .ref ndb])), (tp, .inr (0, [.ref r2, .int (iI z2)])), (r2, .inl (cA2, w2, .inl (fun j => bI (t2 j)))), (b, .inr (0, [.ref r, .int (iI z)])), (r, .inl (cA, w, .inl (fun j => bI (t j))))] ∧ xsE (va_A [(rr, .inr (3, [.ref tp, .ref b, .ref nda, .ref ndb])), (tp, .inr (0, [.ref r2, .int (iI z2)])), (r2, .inl (cA2, w2, .inl (fun j => bI (t2 j)))), (b, .inr (0, [.ref r, .int (iI z)])), (r, .inl (cA, w, .inl (fun j => bI (t j))))] sz) U)) (mv_Q (fun (v : Option Value) (u : Nat × ClassId × Nat × (Nat → Int) × Int × Nat × ClassId × Nat × (Nat → Int) × Int) (k n : Nat) => match u with | (r', cA', w', t', z', r2', cA2', w2', t2', z2') => v = some (.int (iI z2')) ∧ (okp w' t' z' ∧ okB w2' t2' z2' (L2 ++ (adL x y q)) ∧ 0 ≤ x ∧ x ≤ 3 ∧ 0 ≤ y ∧ z2' = z2 + ((adL x y q).length : Int)) ∧ n + phB w' + phB w2' ≤ phB w + phB w2 ∧ k ≤ n) (fun (u : Nat × ClassId × Nat × (Nat → Int) × Int × Nat × ClassId × Nat × (Nat → Int) × Int) (tS : State) => match u with | (r', cA', w', t', z', r2', cA2', w2', t2', z2') => va_P (dC, dI) vwCl [(rr, .inr (3, [.ref tp, .ref b, .ref nda, .ref ndb])), (tp, .inr (0, [.ref r2', .int (iI z2')])), (r2', .inl (cA2', w2', .inl (fun j => bI (t2' j)))), (b, .inr (0, [.ref r', .int (iI z')])), (r', .inl (cA', w', .inl (fun j => bI (t' j))))] tS.heap ∧ va_K (dC, dI) vwCl [(cA2', .byte), (cA', .byte)] tS ∧ va_D (va_A [(rr, .inr (3, [.ref tp, .ref b, .ref nda, .ref ndb])), (tp, .inr (0, [.ref r2, .int (iI z2)])), (r2, .inl (cA2, w2, .inl (fun j => bI (t2 j)))), (b, .inr (0, [.ref r, .int (iI z)])), (r, .inl (cA, w, .inl (fun j => bI (t j))))] sz) [(rr, .inr (3, [.ref tp, .ref b, .ref nda, .ref ndb])), (tp, .inr (0, [.ref r2', .int (iI z2')])), (r2', .inl (cA2', w2', .inl (fun j => bI (t2' j)))), (b, .inr (0, [.ref r', .int (iI z')])), (r', .inl (cA', w', .inl (fun j => bI (t' j))))]) (va_A [(rr, .inr (3, [.ref tp, .ref b, .ref nda, .ref ndb])), (tp, .inr (0, [.ref r2, .int (iI z2)])), (r2, .inl (cA2, w2, .inl (fun j => bI (t2 j)))), (b, .inr (0, [.ref r, .int (iI z)])), (r, .inl (cA, w, .inl (fun j => bI (t j))))] sz)) (mx_X (fun (E : String) (u : Nat × ClassId × Nat × (Nat → Int) × Int × Nat × ClassId × Nat × (Nat → Int) × Int) (k n : Nat) => match u with | (r', cA', w', t', z', r2', cA2', w2', t2', z2') => ((E = "java/lang/IllegalArgumentException" ∧ (okp w' t' z' ∧ okB w2' t2' z2' L2 ∧ z2' = z2 ∧ (x < 0 ∨ 3 < x ∨ y < 0))) ∨ (E = "java/lang/IndexOutOfBoundsException" ∧ (okp w' t' z' ∧ okB w2' t2' z2' L2 ∧ z2' = z2 ∧ 0 ≤ x ∧ x ≤ 3 ∧ 0 ≤ y ∧ 4096 < z2 + ((adL x y q).length : Int)))) ∧ n + phB w' + phB w2' ≤ phB w + phB w2 + 6 ∧ k ≤ n) (fun (u : Nat × ClassId × Nat × (Nat → Int) × Int × Nat × ClassId × Nat × (Nat → Int) × Int) (tS : State) => match u with | (r', cA', w', t', z', r2', cA2', w2', t2', z2') => va_P (dC, dI) vwCl [(rr, .inr (3, [.ref tp, .ref b, .ref nda, .ref ndb])), (tp, .inr (0, [.ref r2', .int (iI z2')])), (r2', .inl (cA2', w2', .inl (fun j => bI (t2' j)))), (b, .inr (0, [.ref r', .int (iI z')])), (r', .inl (cA', w', .inl (fun j => bI (t' j))))] tS.heap ∧ va_K (dC, dI) vwCl [(cA2', .byte), (cA', .byte)] tS ∧ va_D (va_A [(rr, .inr (3, [.ref tp, .ref b, .ref nda, .ref ndb])), (tp, .inr (0, [.ref r2, .int (iI z2)])), (r2, .inl (cA2, w2, .inl (fun j => bI (t2 j)))), (b, .inr (0, [.ref r, .int (iI z)])), (r, .inl (cA, w, .inl (fun j => bI (t j))))] sz) [(rr, .inr (3, [.ref tp, .ref b, .ref nda, .ref ndb])), (tp, .inr (0, [.ref r2', .int (iI z2')])), (r2', .inl (cA2', w2', .inl (fun j => bI (t2' j)))), (b, .inr (0, [.ref r', .int (iI z')])), (r', .inl (cA', w', .inl (fun j => bI (t' j))))]) (va_A [(rr, .inr (3, [.ref tp, .ref b, .ref nda, .ref ndb])), (tp, .inr (0, [.ref r2, .int (iI z2)])), (r2, .inl (cA2, w2, .inl (fun j => bI (t2 j)))), (b, .inr (0, [.ref r, .int (iI z)])), (r, .inl (cA, w, .inl (fun j => bI (t j))))] sz)) (va_A [(rr, .inr (3, [.ref tp, .ref b, .ref nda, .ref ndb])), (tp, .inr (0, [.ref r2, .int (iI z2)])), (r2, .inl (cA2, w2, .inl (fun j => bI (t2 j)))), (b, .inr (0, [.ref r, .int (iI z)])), (r, .inl (cA, w, .inl (fun j => bI (t j))))] sz) := by
  refine mx_ofW (cc := cX3_add) (maxL := 6) (ret := (some .int)) (by decide) rfl ?_
  intro p e s m args below meth c s₁ B hml ht9 hv
  obtain ⟨rfl, hsz, hP, hK, hD0, hX⟩ := hv
  have hx := B.exec
  have hb := B.bytes
  have hr := B.returns
  have hT : ∀ w ∈ wT, w.before _ s = true := fun w h => atoms_spec (ws := wsX3_add) B.pre w (List.mem_cons_of_mem _ h)
  have hown : s.vm.findClass RX3 = some m.cls := findClass_of_methodNamed B.named
  have hlocks := B.notSynchronized
  subst hsz
  have hD := hD0.self (sz := s.heap.size)
  generalize hAe : va_A [(rr, .inr (3, [.ref tp, .ref b, .ref nda, .ref ndb])), (tp, .inr (0, [.ref r2, .int (iI z2)])), (r2, .inl (cA2, w2, .inl (fun j => bI (t2 j)))), (b, .inr (0, [.ref r, .int (iI z)])), (r, .inl (cA, w, .inl (fun j => bI (t j))))] s.heap.size = A at hD hX ⊢
  have hA : ∀ q : Nat, s.heap.size ≤ q → A q := fun q h => by rw [← hAe]; exact Or.inr h
  have hS : va_S A s.heap s.heap [] := va_S.rf
  have hP : va_P (dC, dI) vwCl [(rr, .inr (3, [.ref tp, .ref b, .ref nda, .ref ndb])), (tp, .inr (0, [.ref r2, .int (iI z2)])), (r2, .inl (cA2, w2, .inl (fun j => bI (t2 j)))), (b, .inr (0, [.ref r, .int (iI z)])), (r, .inl (cA, w, .inl (fun j => bI (t j))))] s.heap := hP
  have hl := lv_entry ([.ref rr, .int (iI x), .int (iI y), .long (lI q)]) (n := 6) (Nat.le_of_ble_eq_true rfl)
  rw [lg_entry_eq]
  generalize (lg_sl ([.ref rr, .int (iI x), .int (iI y), .long (lI q)]) ++ List.replicate (6 - (lg_sl ([.ref rr, .int (iI x), .int (iI y), .long (lI q)])).length) Slot.unset).toArray = ls at hl ⊢
  have hl : lv_has ls 6 [(0, .ref rr), (1, .int (iI x)), (2, .int (iI y)), (3, .long (lI q))] := hl
  have hN := hX.1
  obtain ⟨hw1, hw2, hw3, hw4, hw5, hw6⟩ := id hok
  obtain ⟨hv1, hv2, hv3, hv4, hv5, hv6⟩ := id hok2
  refine lv_iload_n hx hb dX3_add_0 rfl (lv_at hl 1 rfl) ?_
  refine lv_iload_n hx hb dX3_add_1 rfl (lv_at hl 2 rfl) ?_
  have hPc := hP.sub (ws' := []) [] rfl
  have hDc := hD.sub (ws' := []) [] (by decide) rfl
  have hKc := hK.sub (tys' := []) [] rfl
  have hFc := va_free (wc := []) hD hS hA [] rfl
  refine mv_call (mv_runS (As := [.int (iI x), .int (iI y)]) (rest := []) ⟨hx, hb, hml, hown, hT⟩ (c_R_isid l dC dI s.heap.size x y (by omega) (by omega)) (cwS 2 hT (gS wd450 wd451 wd26 wd452) rfl rfl rfl (by decide +kernel) ⟨show 0 + 1 ≤ 8 from by omega, show 8 + (2 + 11) + 0 ≤ 300 from by omega⟩) ⟨fun a U g mk q => by obtain ⟨q0, q1, qP, qK, qD⟩ := q; exact ⟨q0, q1, qP, va_K.moved (u := U) (U := U.calling g mk a) (Vm.Alike.refl U.vm) qK, qD⟩, fun U hU hW => ⟨rfl, by rw [hU], by rw [hU]; exact hPc, va_K.moved hW.alike hKc, hDc.weaken (fun _ _ _ _ => trivial)⟩⟩ rfl rfl hl.1 rfl (lv_room (Nat.le_of_ble_eq_true rfl)) dX3_add_2 ⟨show 0 + 0 ≤ (phB w + phB w2 + 6) from by omega, show 0 + 0 ≤ (phB w + phB w2 + 6) from by omega⟩) hS (fun q _ h => hFc q h) hFc (fun v3 u k1 n2 tS H1 locs ht hvm hw hB hz1 hk1 hS => ?_)
  obtain ⟨q4, rfl⟩ : ∃ y, y = u := ⟨_, rfl⟩
  obtain ⟨hP1, hK1, hD1⟩ := hB
  rw [ht] at hP1
  have hK1 := va_K.moved hvm.symm hK1
  try dsimp only at hw
  obtain ⟨hP, hD⟩ := va_join (wr := [(rr, .inr (3, [.ref tp, .ref b, .ref nda, .ref ndb])), (tp, .inr (0, [.ref r2, .int (iI z2)])), (r2, .inl (cA2, w2, .inl (fun j => bI (t2 j)))), (b, .inr (0, [.ref r, .int (iI z)])), (r, .inl (cA, w, .inl (fun j => bI (t j))))]) (w1 := []) hP hD [] [0, 1, 2, 3, 4] rfl rfl (by decide) (by decide) hk1 hFc hP1 hD1
  have hK := (hK.sub (tys' := [(cA2, .byte), (cA, .byte)]) [0, 1] rfl).app hK1
  generalize H1 = H at hP hS ⊢
  have hP : va_P (dC, dI) vwCl [(rr, .inr (3, [.ref tp, .ref b, .ref nda, .ref ndb])), (tp, .inr (0, [.ref r2, .int (iI z2)])), (r2, .inl (cA2, w2, .inl (fun j => bI (t2 j)))), (b, .inr (0, [.ref r, .int (iI z)])), (r, .inl (cA, w, .inl (fun j => bI (t j))))] H := hP
  have hD : va_D A [(rr, .inr (3, [.ref tp, .ref b, .ref nda, .ref ndb])), (tp, .inr (0, [.ref r2, .int (iI z2)])), (r2, .inl (cA2, w2, .inl (fun j => bI (t2 j)))), (b, .inr (0, [.ref r, .int (iI z)])), (r, .inl (cA, w, .inl (fun j => bI (t j))))] := hD
  have hK : va_K (dC, dI) vwCl [(cA2, .byte), (cA, .byte)] s := hK
  obtain ⟨rfl, hqv3, rfl, rfl⟩ := hw
  refine W.eq (g2 := F0 m 5 ls [.int (iI q4)]) rfl ?_
  refine li_if_ne (tgt := 18) hx hb (by omega) dX3_add_5 (by decide) (fun c5 => ?_) (fun c5 => ?_)
  · skip
    refine lv_lload_n hx hb dX3_add_18 rfl (lv_at hl 3 rfl) ?_
    have hPc := hP.sub (ws' := []) [] rfl
    have hDc := hD.sub (ws' := []) [] (by decide) rfl
    have hKc := hK.sub (tys' := []) [] rfl
    have hFc := va_free (wc := []) hD hS hA [] rfl
    refine mv_call (mv_runS (As := [.long (lI q)]) (rest := []) ⟨hx, hb, hml, hown, hT⟩ (c_R_few l dC dI H.size q (by omega)) (cwS 1 hT (gS wd474 wd475 wd26 wd476) rfl rfl rfl (by decide +kernel) ⟨show 0 + 1 ≤ 8 from by omega, show 8 + (5 + 11) + 0 ≤ 300 from by omega⟩) ⟨fun a U g mk q => by obtain ⟨q0, q1, qP, qK, qD⟩ := q; exact ⟨q0, q1, qP, va_K.moved (u := U) (U := U.calling g mk a) (Vm.Alike.refl U.vm) qK, qD⟩, fun U hU hW => ⟨rfl, by rw [hU], by rw [hU]; exact hPc, va_K.moved hW.alike hKc, hDc.weaken (fun _ _ _ _ => trivial)⟩⟩ rfl rfl hl.1 rfl (lv_room (Nat.le_of_ble_eq_true rfl)) dX3_add_19 ⟨show 0 + 0 + 0 ≤ (phB w + phB w2 + 6) from by omega, show 0 + 0 + 0 ≤ (phB w + phB w2 + 6) from by omega⟩) hS (fun q _ h => hFc q h) hFc (fun v8 u k6 n7 tS H1 locs ht hvm hw hB hz1 hk1 hS => ?_)
    obtain ⟨q9, rfl⟩ : ∃ y, y = u := ⟨_, rfl⟩
    obtain ⟨hP1, hK1, hD1⟩ := hB
    rw [ht] at hP1
    have hK1 := va_K.moved hvm.symm hK1
    try dsimp only at hw
    obtain ⟨hP, hD⟩ := va_join (wr := [(rr, .inr (3, [.ref tp, .ref b, .ref nda, .ref ndb])), (tp, .inr (0, [.ref r2, .int (iI z2)])), (r2, .inl (cA2, w2, .inl (fun j => bI (t2 j)))), (b, .inr (0, [.ref r, .int (iI z)])), (r, .inl (cA, w, .inl (fun j => bI (t j))))]) (w1 := []) hP hD [] [0, 1, 2, 3, 4] rfl rfl (by decide) (by decide) hk1 hFc hP1 hD1
    have hK := (hK.sub (tys' := [(cA2, .byte), (cA, .byte)]) [0, 1] rfl).app hK1
    generalize H1 = H at hP hS ⊢
    have hP : va_P (dC, dI) vwCl [(rr, .inr (3, [.ref tp, .ref b, .ref nda, .ref ndb])), (tp, .inr (0, [.ref r2, .int (iI z2)])), (r2, .inl (cA2, w2, .inl (fun j => bI (t2 j)))), (b, .inr (0, [.ref r, .int (iI z)])), (r, .inl (cA, w, .inl (fun j => bI (t j))))] H := hP
    have hD : va_D A [(rr, .inr (3, [.ref tp, .ref b, .ref nda, .ref ndb])), (tp, .inr (0, [.ref r2, .int (iI z2)])), (r2, .inl (cA2, w2, .inl (fun j => bI (t2 j)))), (b, .inr (0, [.ref r, .int (iI z)])), (r, .inl (cA, w, .inl (fun j => bI (t j))))] := hD
    have hK : va_K (dC, dI) vwCl [(cA2, .byte), (cA, .byte)] s := hK
    obtain ⟨rfl, hqv8, hav8, hbv8, rfl, rfl⟩ := hw
    refine W.eq (g2 := F0 m 22 ls [.int (iI q9)]) rfl ?_
    refine lv_istore (lv' := [(5, .int (iI q9)), (0, .ref rr), (1, .int (iI x)), (2, .int (iI y)), (3, .long (lI q))]) hx hb dX3_add_22 hl (by decide) rfl (fun ls hl => ?_)
    have hqw : q9 = fwb q 7 1 := hqv8
    refine lv_aload_n hx hb dX3_add_24 rfl (lv_at hl 1 rfl) ?_
    refine va_get (D := (dC, dI)) (ci := 3) (v := .ref b) (C := RX3) (T := TX3) (N := 4) hx hb hT inX3 hown hK hP 0 rfl rfl 1 (by decide) (hT _ wd121) (fun _ h9 => h9) rfl dX3_add_25 ?_
    refine lv_iconst (v := iI 0) hx hb dX3_add_28 rfl ?_
    have hPc := hP.sub (ws' := [(b, .inr (0, [.ref r, .int (iI z)]))]) [3] rfl
    have hDc := hD.sub (ws' := [(b, .inr (0, [.ref r, .int (iI z)]))]) [3] (by decide) rfl
    have hKc := hK.sub (tys' := []) [] rfl
    have hFc := va_free (wc := [(b, .inr (0, [.ref r, .int (iI z)]))]) hD hS hA [3] rfl
    refine mv_call (mv_runV (As := [.int (iI 0)]) (rest := []) ⟨hx, hb, hml, hown, hT⟩ (c_B_cut l dC dI H.size b r z 0 (by omega) (by omega)) (cwV 1 hT (gV wd278 wd279 wd280 wd27 wd281) rfl rfl rfl (by decide +kernel) ⟨show 0 + 1 ≤ 8 from by omega, show 8 + (2 + 11) + 0 ≤ 300 from by omega⟩) ⟨fun a U g mk q => by obtain ⟨q0, q1, qP, qK, qD⟩ := q; exact ⟨q0, q1, qP, va_K.moved (u := U) (U := U.calling g mk a) (Vm.Alike.refl U.vm) qK, qD⟩, va_recv hKc hPc (ci := 0) (q0 := 0) rfl rfl, fun U hU hW => ⟨rfl, by rw [hU], by rw [hU]; exact hPc, va_K.moved hW.alike hKc, hDc.weaken (fun _ _ _ _ => trivial)⟩⟩ rfl rfl hl.1 rfl (lv_room (Nat.le_of_ble_eq_true rfl)) dX3_add_29 ⟨show 0 + 0 + 0 + 0 ≤ (phB w + phB w2 + 6) from by omega, show 0 + 0 + 0 + 0 ≤ (phB w + phB w2 + 6) from by omega⟩) hS (fun q _ h => hFc q h) hFc (fun v12 u k10 n11 tS H1 locs ht hvm hw hB hz1 hk1 hS => ?_)
    obtain ⟨y13, rfl⟩ : ∃ y, y = u := ⟨_, rfl⟩
    obtain ⟨hP1, hK1, hD1⟩ := hB
    rw [ht] at hP1
    have hK1 := va_K.moved hvm.symm hK1
    try dsimp only at hw
    obtain ⟨hP, hD⟩ := va_join (wr := [(rr, .inr (3, [.ref tp, .ref b, .ref nda, .ref ndb])), (tp, .inr (0, [.ref r2, .int (iI z2)])), (r2, .inl (cA2, w2, .inl (fun j => bI (t2 j)))), (r, .inl (cA, w, .inl (fun j => bI (t j))))]) (w1 := [(b, .inr (0, [.ref r, .int (iI y13)]))]) hP hD [3] [0, 1, 2, 4] rfl rfl (by decide) (by decide) hk1 hFc hP1 hD1
    have hK := (hK.sub (tys' := [(cA2, .byte), (cA, .byte)]) [0, 1] rfl).app hK1
    generalize H1 = H at hP hS ⊢
    have hP : va_P (dC, dI) vwCl [(rr, .inr (3, [.ref tp, .ref b, .ref nda, .ref ndb])), (tp, .inr (0, [.ref r2, .int (iI z2)])), (r2, .inl (cA2, w2, .inl (fun j => bI (t2 j)))), (r, .inl (cA, w, .inl (fun j => bI (t j)))), (b, .inr (0, [.ref r, .int (iI y13)]))] H := hP
    have hD : va_D A [(rr, .inr (3, [.ref tp, .ref b, .ref nda, .ref ndb])), (tp, .inr (0, [.ref r2, .int (iI z2)])), (r2, .inl (cA2, w2, .inl (fun j => bI (t2 j)))), (r, .inl (cA, w, .inl (fun j => bI (t j)))), (b, .inr (0, [.ref r, .int (iI y13)]))] := hD
    have hK : va_K (dC, dI) vwCl [(cA2, .byte), (cA, .byte)] s := hK
    obtain ⟨hy13, rfl, rfl, rfl⟩ := hw
    refine W.eq (g2 := F0 m 32 ls []) rfl ?_
    have hok0 : okB w t y13 [] := (show L.take (y13 : Int).toNat = [] by rw [show (y13 : Int).toNat = 0 by omega]; rfl) ▸ okB_cut hok (by omega)
    refine lv_aload_n hx hb dX3_add_32 rfl (lv_at hl 1 rfl) ?_
    refine lv_iload_n hx hb dX3_add_33 rfl (lv_at hl 2 rfl) ?_
    refine lv_iload_n hx hb dX3_add_34 rfl (lv_at hl 3 rfl) ?_
    refine lv_iconst (v := iI 0) hx hb dX3_add_35 rfl ?_
    have hPc := hP.sub (ws' := [(rr, .inr (3, [.ref tp, .ref b, .ref nda, .ref ndb])), (b, .inr (0, [.ref r, .int (iI y13)])), (r, .inl (cA, w, .inl (fun j => bI (t j))))]) [0, 4, 3] rfl
    have hDc := hD.sub (ws' := [(rr, .inr (3, [.ref tp, .ref b, .ref nda, .ref ndb])), (b, .inr (0, [.ref r, .int (iI y13)])), (r, .inl (cA, w, .inl (fun j => bI (t j))))]) [0, 4, 3] (by decide) rfl
    have hKc := hK.sub (tys' := [(cA, .byte)]) [1] rfl
    have hFc := va_free (wc := [(rr, .inr (3, [.ref tp, .ref b, .ref nda, .ref ndb])), (b, .inr (0, [.ref r, .int (iI y13)])), (r, .inl (cA, w, .inl (fun j => bI (t j))))]) hD hS hA [0, 4, 3] rfl
    refine mv_call (mv_runV (As := [.int (iI x), .int (iI y), .int (iI 0)]) (rest := []) ⟨hx, hb, hml, hown, hT⟩ (c_R_wid l dC dI H.size rr tp nda ndb b r cA w t y13 ([] : List Int) x y 0 (hok0) (by omega) (by omega) (by omega) (by omega)) (cwV 3 hT (gV wd454 wd456 wd14 wd26 wd457) rfl rfl rfl (by decide +kernel) ⟨show 5 + 1 ≤ 8 from by omega, show 8 + (6 + 11) + 190 ≤ 300 from by omega⟩) ⟨fun a U g mk q => by obtain ⟨q0, q1, qP, qK, qD⟩ := q; exact ⟨q0, q1, qP, va_K.moved (u := U) (U := U.calling g mk a) (Vm.Alike.refl U.vm) qK, qD⟩, va_recv hKc hPc (ci := 3) (q0 := 0) rfl rfl, fun U hU hW => ⟨rfl, by rw [hU], by rw [hU]; exact hPc, va_K.moved hW.alike hKc, hDc.weaken (fun _ _ _ _ => trivial)⟩⟩ rfl rfl hl.1 rfl (lv_room (Nat.le_of_ble_eq_true rfl)) dX3_add_36 ⟨show 0 + 0 + 0 + 0 + (phB w) ≤ (phB w + phB w2 + 6) from by omega, show 0 + 0 + 0 + 0 + (phB w) ≤ (phB w + phB w2 + 6) from by omega⟩) hS (fun q _ h => hFc q h) hFc (fun v16 u k14 n15 tS H1 locs ht hvm hw hB hz1 hk1 hS => ?_)
    obtain ⟨r17, cA18, w19, t20, z21⟩ := u
    obtain ⟨hP1, hK1, hD1⟩ := hB
    rw [ht] at hP1
    have hK1 := va_K.moved hvm.symm hK1
    try dsimp only at hw
    obtain ⟨hP, hD⟩ := va_join (wr := [(tp, .inr (0, [.ref r2, .int (iI z2)])), (r2, .inl (cA2, w2, .inl (fun j => bI (t2 j))))]) (w1 := [(rr, .inr (3, [.ref tp, .ref b, .ref nda, .ref ndb])), (b, .inr (0, [.ref r17, .int (iI z21)])), (r17, .inl (cA18, w19, .inl (fun j => bI (t20 j))))]) hP hD [0, 4, 3] [1, 2] rfl rfl (by decide) (by decide) hk1 hFc hP1 hD1
    have hK := (hK.sub (tys' := [(cA2, .byte)]) [0] rfl).app hK1
    generalize H1 = H at hP hS ⊢
    have hP : va_P (dC, dI) vwCl [(tp, .inr (0, [.ref r2, .int (iI z2)])), (r2, .inl (cA2, w2, .inl (fun j => bI (t2 j)))), (rr, .inr (3, [.ref tp, .ref b, .ref nda, .ref ndb])), (b, .inr (0, [.ref r17, .int (iI z21)])), (r17, .inl (cA18, w19, .inl (fun j => bI (t20 j))))] H := hP
    have hD : va_D A [(tp, .inr (0, [.ref r2, .int (iI z2)])), (r2, .inl (cA2, w2, .inl (fun j => bI (t2 j)))), (rr, .inr (3, [.ref tp, .ref b, .ref nda, .ref ndb])), (b, .inr (0, [.ref r17, .int (iI z21)])), (r17, .inl (cA18, w19, .inl (fun j => bI (t20 j))))] := hD
    have hK : va_K (dC, dI) vwCl [(cA2, .byte), (cA18, .byte)] s := hK
    obtain ⟨hokv16, hNv16, rfl, hFv16, hGv16⟩ := hw
    refine W.eq (g2 := F0 m 39 ls []) rfl ?_
    refine lv_aload_n hx hb dX3_add_39 rfl (lv_at hl 1 rfl) ?_
    refine lv_iload hx hb dX3_add_40 (lv_at hl 0 rfl) ?_
    have hPc := hP.sub (ws' := [(rr, .inr (3, [.ref tp, .ref b, .ref nda, .ref ndb])), (b, .inr (0, [.ref r17, .int (iI z21)])), (r17, .inl (cA18, w19, .inl (fun j => bI (t20 j))))]) [2, 3, 4] rfl
    have hDc := hD.sub (ws' := [(rr, .inr (3, [.ref tp, .ref b, .ref nda, .ref ndb])), (b, .inr (0, [.ref r17, .int (iI z21)])), (r17, .inl (cA18, w19, .inl (fun j => bI (t20 j))))]) [2, 3, 4] (by decide) rfl
    have hKc := hK.sub (tys' := [(cA18, .byte)]) [1] rfl
    have hFc := va_free (wc := [(rr, .inr (3, [.ref tp, .ref b, .ref nda, .ref ndb])), (b, .inr (0, [.ref r17, .int (iI z21)])), (r17, .inl (cA18, w19, .inl (fun j => bI (t20 j))))]) hD hS hA [2, 3, 4] rfl
    refine mv_call (mv_runV (As := [.int (iI q9)]) (rest := []) ⟨hx, hb, hml, hown, hT⟩ (c_R_wlen l dC dI H.size rr tp nda ndb b r17 cA18 w19 t20 z21 (([] : List Int) ++ idB x y 0) q9 (hokv16) (by omega) (by omega)) (cwV 1 hT (gV wd459 wd461 wd15 wd26 wd462) rfl rfl rfl (by decide +kernel) ⟨show 5 + 1 ≤ 8 from by omega, show 8 + (2 + 11) + 190 ≤ 300 from by omega⟩) ⟨fun a U g mk q => by obtain ⟨q0, q1, qP, qK, qD⟩ := q; exact ⟨q0, q1, qP, va_K.moved (u := U) (U := U.calling g mk a) (Vm.Alike.refl U.vm) qK, qD⟩, va_recv hKc hPc (ci := 3) (q0 := 0) rfl rfl, fun U hU hW => ⟨rfl, by rw [hU], by rw [hU]; exact hPc, va_K.moved hW.alike hKc, hDc.weaken (fun _ _ _ _ => trivial)⟩⟩ rfl rfl hl.1 rfl (lv_room (Nat.le_of_ble_eq_true rfl)) dX3_add_42 ⟨show 0 + 0 + 0 + 0 + k14 + (phB w19) ≤ (phB w + phB w2 + 6) from by omega, show 0 + 0 + 0 + 0 + n15 + (phB w19) ≤ (phB w + phB w2 + 6) from by omega⟩) hS (fun q _ h => hFc q h) hFc (fun v24 u k22 n23 tS H1 locs ht hvm hw hB hz1 hk1 hS => ?_)
    obtain ⟨r25, cA26, w27, t28, z29⟩ := u
    obtain ⟨hP1, hK1, hD1⟩ := hB
    rw [ht] at hP1
    have hK1 := va_K.moved hvm.symm hK1
    try dsimp only at hw
    obtain ⟨hP, hD⟩ := va_join (wr := [(tp, .inr (0, [.ref r2, .int (iI z2)])), (r2, .inl (cA2, w2, .inl (fun j => bI (t2 j))))]) (w1 := [(rr, .inr (3, [.ref tp, .ref b, .ref nda, .ref ndb])), (b, .inr (0, [.ref r25, .int (iI z29)])), (r25, .inl (cA26, w27, .inl (fun j => bI (t28 j))))]) hP hD [2, 3, 4] [0, 1] rfl rfl (by decide) (by decide) hk1 hFc hP1 hD1
    have hK := (hK.sub (tys' := [(cA2, .byte)]) [0] rfl).app hK1
    generalize H1 = H at hP hS ⊢
    have hP : va_P (dC, dI) vwCl [(tp, .inr (0, [.ref r2, .int (iI z2)])), (r2, .inl (cA2, w2, .inl (fun j => bI (t2 j)))), (rr, .inr (3, [.ref tp, .ref b, .ref nda, .ref ndb])), (b, .inr (0, [.ref r25, .int (iI z29)])), (r25, .inl (cA26, w27, .inl (fun j => bI (t28 j))))] H := hP
    have hD : va_D A [(tp, .inr (0, [.ref r2, .int (iI z2)])), (r2, .inl (cA2, w2, .inl (fun j => bI (t2 j)))), (rr, .inr (3, [.ref tp, .ref b, .ref nda, .ref ndb])), (b, .inr (0, [.ref r25, .int (iI z29)])), (r25, .inl (cA26, w27, .inl (fun j => bI (t28 j))))] := hD
    have hK : va_K (dC, dI) vwCl [(cA2, .byte), (cA26, .byte)] s := hK
    obtain ⟨hokv24, hNv24, rfl, hFv24, hGv24⟩ := hw
    refine W.eq (g2 := F0 m 45 ls []) rfl ?_
    refine lv_aload_n hx hb dX3_add_45 rfl (lv_at hl 1 rfl) ?_
    refine va_get (D := (dC, dI)) (ci := 3) (v := .ref b) (C := RX3) (T := TX3) (N := 4) hx hb hT inX3 hown hK hP 2 rfl rfl 1 (by decide) (hT _ wd121) (fun _ h9 => h9) rfl dX3_add_46 ?_
    refine lv_lload_n hx hb dX3_add_49 rfl (lv_at hl 4 rfl) ?_
    refine lv_iload hx hb dX3_add_50 (lv_at hl 0 rfl) ?_
    have hPc := hP.sub (ws' := [(b, .inr (0, [.ref r25, .int (iI z29)])), (r25, .inl (cA26, w27, .inl (fun j => bI (t28 j))))]) [3, 4] rfl
    have hDc := hD.sub (ws' := [(b, .inr (0, [.ref r25, .int (iI z29)])), (r25, .inl (cA26, w27, .inl (fun j => bI (t28 j))))]) [3, 4] (by decide) rfl
    have hKc := hK.sub (tys' := [(cA26, .byte)]) [1] rfl
    have hFc := va_free (wc := [(b, .inr (0, [.ref r25, .int (iI z29)])), (r25, .inl (cA26, w27, .inl (fun j => bI (t28 j))))]) hD hS hA [3, 4] rfl
    refine mv_call (mv_runV (As := [.long (lI q), .int (iI q9)]) (rest := []) ⟨hx, hb, hml, hown, hT⟩ (c_B_num l dC dI H.size b r25 cA26 w27 t28 z29 ((([] : List Int) ++ idB x y 0) ++ lnB q9) q q9 (hokv24) (by omega) (by omega) (by omega)) (cwV 2 hT (gV wd213 wd214 wd215 wd27 wd216) rfl rfl rfl (by decide +kernel) ⟨show 4 + 1 ≤ 8 from by omega, show 8 + (5 + 11) + 160 ≤ 300 from by omega⟩) ⟨fun a U g mk q => by obtain ⟨q0, q1, qP, qK, qD⟩ := q; exact ⟨q0, q1, qP, va_K.moved (u := U) (U := U.calling g mk a) (Vm.Alike.refl U.vm) qK, qD⟩, va_recv hKc hPc (ci := 0) (q0 := 0) rfl rfl, fun U hU hW => ⟨rfl, by rw [hU], by rw [hU]; exact hPc, va_K.moved hW.alike hKc, hDc.weaken (fun _ _ _ _ => trivial)⟩⟩ rfl rfl hl.1 rfl (lv_room (Nat.le_of_ble_eq_true rfl)) dX3_add_52 ⟨show 0 + 0 + 0 + 0 + k14 + k22 + (phB w27) ≤ (phB w + phB w2 + 6) from by omega, show 0 + 0 + 0 + 0 + n15 + n23 + (phB w27) ≤ (phB w + phB w2 + 6) from by omega⟩) hS (fun q _ h => hFc q h) hFc (fun v32 u k30 n31 tS H1 locs ht hvm hw hB hz1 hk1 hS => ?_)
    obtain ⟨r33, cA34, w35, t36, z37⟩ := u
    obtain ⟨hP1, hK1, hD1⟩ := hB
    rw [ht] at hP1
    have hK1 := va_K.moved hvm.symm hK1
    try dsimp only at hw
    obtain ⟨hP, hD⟩ := va_join (wr := [(tp, .inr (0, [.ref r2, .int (iI z2)])), (r2, .inl (cA2, w2, .inl (fun j => bI (t2 j)))), (rr, .inr (3, [.ref tp, .ref b, .ref nda, .ref ndb]))]) (w1 := [(b, .inr (0, [.ref r33, .int (iI z37)])), (r33, .inl (cA34, w35, .inl (fun j => bI (t36 j))))]) hP hD [3, 4] [0, 1, 2] rfl rfl (by decide) (by decide) hk1 hFc hP1 hD1
    have hK := (hK.sub (tys' := [(cA2, .byte)]) [0] rfl).app hK1
    generalize H1 = H at hP hS ⊢
    have hP : va_P (dC, dI) vwCl [(tp, .inr (0, [.ref r2, .int (iI z2)])), (r2, .inl (cA2, w2, .inl (fun j => bI (t2 j)))), (rr, .inr (3, [.ref tp, .ref b, .ref nda, .ref ndb])), (b, .inr (0, [.ref r33, .int (iI z37)])), (r33, .inl (cA34, w35, .inl (fun j => bI (t36 j))))] H := hP
    have hD : va_D A [(tp, .inr (0, [.ref r2, .int (iI z2)])), (r2, .inl (cA2, w2, .inl (fun j => bI (t2 j)))), (rr, .inr (3, [.ref tp, .ref b, .ref nda, .ref ndb])), (b, .inr (0, [.ref r33, .int (iI z37)])), (r33, .inl (cA34, w35, .inl (fun j => bI (t36 j))))] := hD
    have hK : va_K (dC, dI) vwCl [(cA2, .byte), (cA34, .byte)] s := hK
    obtain ⟨hokv32, hNv32, rfl, hFv32, hGv32⟩ := hw
    refine W.eq (g2 := F0 m 55 ls []) rfl ?_
    refine lv_aload_n hx hb dX3_add_55 rfl (lv_at hl 1 rfl) ?_
    refine va_get (D := (dC, dI)) (ci := 3) (v := .ref tp) (C := RX3) (T := TX3) (N := 4) hx hb hT inX3 hown hK hP 2 rfl rfl 0 (by decide) (hT _ wd120) (fun _ h9 => h9) rfl dX3_add_56 ?_
    refine lv_aload_n hx hb dX3_add_59 rfl (lv_at hl 1 rfl) ?_
    refine va_get (D := (dC, dI)) (ci := 3) (v := .ref b) (C := RX3) (T := TX3) (N := 4) hx hb hT inX3 hown hK hP 2 rfl rfl 1 (by decide) (hT _ wd121) (fun _ h9 => h9) rfl dX3_add_60 ?_
    have hPc := hP.sub (ws' := [(b, .inr (0, [.ref r33, .int (iI z37)]))]) [3] rfl
    have hDc := hD.sub (ws' := [(b, .inr (0, [.ref r33, .int (iI z37)]))]) [3] (by decide) rfl
    have hKc := hK.sub (tys' := []) [] rfl
    have hFc := va_free (wc := [(b, .inr (0, [.ref r33, .int (iI z37)]))]) hD hS hA [3] rfl
    refine mv_call (mv_runV (As := []) (rest := [.ref tp]) ⟨hx, hb, hml, hown, hT⟩ (c_B_size l dC dI H.size b r33 z37 ) (cwV 0 hT (gV wd250 wd251 wd252 wd27 wd253) rfl rfl rfl (by decide +kernel) ⟨show 0 + 1 ≤ 8 from by omega, show 8 + (1 + 11) + 0 ≤ 300 from by omega⟩) ⟨fun a U g mk q => by obtain ⟨q0, q1, qP, qK, qD⟩ := q; exact ⟨q0, q1, qP, va_K.moved (u := U) (U := U.calling g mk a) (Vm.Alike.refl U.vm) qK, qD⟩, va_recv hKc hPc (ci := 0) (q0 := 0) rfl rfl, fun U hU hW => ⟨rfl, by rw [hU], by rw [hU]; exact hPc, va_K.moved hW.alike hKc, hDc.weaken (fun _ _ _ _ => trivial)⟩⟩ rfl rfl hl.1 rfl (lv_room (Nat.le_of_ble_eq_true rfl)) dX3_add_63 ⟨show 0 + 0 + 0 + 0 + k14 + k22 + k30 + 0 ≤ (phB w + phB w2 + 6) from by omega, show 0 + 0 + 0 + 0 + n15 + n23 + n31 + 0 ≤ (phB w + phB w2 + 6) from by omega⟩) hS (fun q _ h => hFc q h) hFc (fun v40 u k38 n39 tS H1 locs ht hvm hw hB hz1 hk1 hS => ?_)
    obtain ⟨hP1, hK1, hD1⟩ := hB
    rw [ht] at hP1
    have hK1 := va_K.moved hvm.symm hK1
    try dsimp only at hw
    obtain ⟨hP, hD⟩ := va_join (wr := [(tp, .inr (0, [.ref r2, .int (iI z2)])), (r2, .inl (cA2, w2, .inl (fun j => bI (t2 j)))), (rr, .inr (3, [.ref tp, .ref b, .ref nda, .ref ndb])), (r33, .inl (cA34, w35, .inl (fun j => bI (t36 j))))]) (w1 := [(b, .inr (0, [.ref r33, .int (iI z37)]))]) hP hD [3] [0, 1, 2, 4] rfl rfl (by decide) (by decide) hk1 hFc hP1 hD1
    have hK := (hK.sub (tys' := [(cA2, .byte), (cA34, .byte)]) [0, 1] rfl).app hK1
    generalize H1 = H at hP hS ⊢
    have hP : va_P (dC, dI) vwCl [(tp, .inr (0, [.ref r2, .int (iI z2)])), (r2, .inl (cA2, w2, .inl (fun j => bI (t2 j)))), (rr, .inr (3, [.ref tp, .ref b, .ref nda, .ref ndb])), (r33, .inl (cA34, w35, .inl (fun j => bI (t36 j)))), (b, .inr (0, [.ref r33, .int (iI z37)]))] H := hP
    have hD : va_D A [(tp, .inr (0, [.ref r2, .int (iI z2)])), (r2, .inl (cA2, w2, .inl (fun j => bI (t2 j)))), (rr, .inr (3, [.ref tp, .ref b, .ref nda, .ref ndb])), (r33, .inl (cA34, w35, .inl (fun j => bI (t36 j)))), (b, .inr (0, [.ref r33, .int (iI z37)]))] := hD
    have hK : va_K (dC, dI) vwCl [(cA2, .byte), (cA34, .byte)] s := hK
    obtain ⟨rfl, rfl, rfl⟩ := hw
    refine W.eq (g2 := F0 m 66 ls [.int (iI z37), .ref tp]) rfl ?_
    have hPc := hP.sub (ws' := [(tp, .inr (0, [.ref r2, .int (iI z2)]))]) [0] rfl
    have hDc := hD.sub (ws' := [(tp, .inr (0, [.ref r2, .int (iI z2)]))]) [0] (by decide) rfl
    have hKc := hK.sub (tys' := []) [] rfl
    have hFc := va_free (wc := [(tp, .inr (0, [.ref r2, .int (iI z2)]))]) hD hS hA [0] rfl
    refine mv_call (mv_runV (As := [.int (iI z37)]) (rest := []) ⟨hx, hb, hml, hown, hT⟩ (c_B_room l dC dI H.size tp r2 z2 z37 (by omega) (by omega)) (cwV 1 hT (gV wd141 wd142 wd143 wd27 wd144) rfl rfl rfl (by decide +kernel) ⟨show 0 + 1 ≤ 8 from by omega, show 8 + (2 + 11) + 0 ≤ 300 from by omega⟩) ⟨fun a U g mk q => by obtain ⟨q0, q1, qP, qK, qD⟩ := q; exact ⟨q0, q1, qP, va_K.moved (u := U) (U := U.calling g mk a) (Vm.Alike.refl U.vm) qK, qD⟩, va_recv hKc hPc (ci := 0) (q0 := 0) rfl rfl, fun U hU hW => ⟨rfl, by rw [hU], by rw [hU]; exact hPc, va_K.moved hW.alike hKc, hDc.weaken (fun _ _ _ _ => trivial)⟩⟩ rfl rfl hl.1 rfl (lv_room (Nat.le_of_ble_eq_true rfl)) dX3_add_66 ⟨show 0 + 0 + 0 + 0 + k14 + k22 + k30 + 0 + 0 ≤ (phB w + phB w2 + 6) from by omega, show 0 + 0 + 0 + 0 + n15 + n23 + n31 + 0 + 0 ≤ (phB w + phB w2 + 6) from by omega⟩) hS (fun q _ h => hFc q h) hFc (fun v43 u k41 n42 tS H1 locs ht hvm hw hB hz1 hk1 hS => ?_)
    obtain ⟨q44, rfl⟩ : ∃ y, y = u := ⟨_, rfl⟩
    obtain ⟨hP1, hK1, hD1⟩ := hB
    rw [ht] at hP1
    have hK1 := va_K.moved hvm.symm hK1
    try dsimp only at hw
    obtain ⟨hP, hD⟩ := va_join (wr := [(r2, .inl (cA2, w2, .inl (fun j => bI (t2 j)))), (rr, .inr (3, [.ref tp, .ref b, .ref nda, .ref ndb])), (r33, .inl (cA34, w35, .inl (fun j => bI (t36 j)))), (b, .inr (0, [.ref r33, .int (iI z37)]))]) (w1 := [(tp, .inr (0, [.ref r2, .int (iI z2)]))]) hP hD [0] [1, 2, 3, 4] rfl rfl (by decide) (by decide) hk1 hFc hP1 hD1
    have hK := (hK.sub (tys' := [(cA2, .byte), (cA34, .byte)]) [0, 1] rfl).app hK1
    generalize H1 = H at hP hS ⊢
    have hP : va_P (dC, dI) vwCl [(r2, .inl (cA2, w2, .inl (fun j => bI (t2 j)))), (rr, .inr (3, [.ref tp, .ref b, .ref nda, .ref ndb])), (r33, .inl (cA34, w35, .inl (fun j => bI (t36 j)))), (b, .inr (0, [.ref r33, .int (iI z37)])), (tp, .inr (0, [.ref r2, .int (iI z2)]))] H := hP
    have hD : va_D A [(r2, .inl (cA2, w2, .inl (fun j => bI (t2 j)))), (rr, .inr (3, [.ref tp, .ref b, .ref nda, .ref ndb])), (r33, .inl (cA34, w35, .inl (fun j => bI (t36 j)))), (b, .inr (0, [.ref r33, .int (iI z37)])), (tp, .inr (0, [.ref r2, .int (iI z2)]))] := hD
    have hK : va_K (dC, dI) vwCl [(cA2, .byte), (cA34, .byte)] s := hK
    obtain ⟨rfl, hq44, rfl, rfl⟩ := hw
    refine W.eq (g2 := F0 m 69 ls [.int (iI q44)]) rfl ?_
    refine li_if_ne (tgt := 82) hx hb (by omega) dX3_add_69 (by decide) (fun c45 => ?_) (fun c45 => ?_)
    · skip
      refine lv_aload_n hx hb dX3_add_82 rfl (lv_at hl 1 rfl) ?_
      refine va_get (D := (dC, dI)) (ci := 3) (v := .ref tp) (C := RX3) (T := TX3) (N := 4) hx hb hT inX3 hown hK hP 1 rfl rfl 0 (by decide) (hT _ wd120) (fun _ h9 => h9) rfl dX3_add_83 ?_
      refine lv_aload_n hx hb dX3_add_86 rfl (lv_at hl 1 rfl) ?_
      refine va_get (D := (dC, dI)) (ci := 3) (v := .ref b) (C := RX3) (T := TX3) (N := 4) hx hb hT inX3 hown hK hP 1 rfl rfl 1 (by decide) (hT _ wd121) (fun _ h9 => h9) rfl dX3_add_87 ?_
      have hPc := hP.sub (ws' := [(tp, .inr (0, [.ref r2, .int (iI z2)])), (r2, .inl (cA2, w2, .inl (fun j => bI (t2 j)))), (b, .inr (0, [.ref r33, .int (iI z37)])), (r33, .inl (cA34, w35, .inl (fun j => bI (t36 j))))]) [4, 0, 3, 2] rfl
      have hDc := hD.sub (ws' := [(tp, .inr (0, [.ref r2, .int (iI z2)])), (r2, .inl (cA2, w2, .inl (fun j => bI (t2 j)))), (b, .inr (0, [.ref r33, .int (iI z37)])), (r33, .inl (cA34, w35, .inl (fun j => bI (t36 j))))]) [4, 0, 3, 2] (by decide) rfl
      have hKc := hK.sub (tys' := [(cA2, .byte), (cA34, .byte)]) [0, 1] rfl
      have hFc := va_free (wc := [(tp, .inr (0, [.ref r2, .int (iI z2)])), (r2, .inl (cA2, w2, .inl (fun j => bI (t2 j)))), (b, .inr (0, [.ref r33, .int (iI z37)])), (r33, .inl (cA34, w35, .inl (fun j => bI (t36 j))))]) hD hS hA [4, 0, 3, 2] rfl
      refine mv_call (mv_runV (As := [.ref b]) (rest := []) ⟨hx, hb, hml, hown, hT⟩ (c_B_put l dC dI H.size tp r2 cA2 w2 t2 z2 L2 b r33 cA34 w35 t36 z37 (((([] : List Int) ++ idB x y 0) ++ lnB q9) ++ nb q (q9 : Int).toNat) (hok2) (hokv32) (by omega)) (cwV 1 hT (gV wd478 wd300 wd301 wd27 wd302) rfl rfl rfl (by decide +kernel) ⟨show 3 + 1 ≤ 8 from by omega, show 8 + (3 + 11) + 130 ≤ 300 from by omega⟩) ⟨fun a U g mk q => by obtain ⟨q0, q1, qP, qK, qD⟩ := q; exact ⟨q0, q1, qP, va_K.moved (u := U) (U := U.calling g mk a) (Vm.Alike.refl U.vm) qK, qD⟩, va_recv hKc hPc (ci := 0) (q0 := 0) rfl rfl, fun U hU hW => ⟨rfl, by rw [hU], by rw [hU]; exact hPc, va_K.moved hW.alike hKc, hDc.weaken (fun _ _ _ _ => trivial)⟩⟩ rfl rfl hl.1 rfl (lv_room (Nat.le_of_ble_eq_true rfl)) dX3_add_90 ⟨show 0 + 0 + 0 + 0 + k14 + k22 + k30 + 0 + 0 + (phB w2) ≤ (phB w + phB w2 + 6) from by omega, show 0 + 0 + 0 + 0 + n15 + n23 + n31 + 0 + 0 + (phB w2) ≤ (phB w + phB w2 + 6) from by omega⟩) hS (fun q _ h => hFc q h) hFc (fun v48 u k46 n47 tS H1 locs ht hvm hw hB hz1 hk1 hS => ?_)
      obtain ⟨r49, cA50, w51, t52, z53⟩ := u
      obtain ⟨hP1, hK1, hD1⟩ := hB
      rw [ht] at hP1
      have hK1 := va_K.moved hvm.symm hK1
      try dsimp only at hw
      obtain ⟨hP, hD⟩ := va_join (wr := [(rr, .inr (3, [.ref tp, .ref b, .ref nda, .ref ndb]))]) (w1 := [(tp, .inr (0, [.ref r49, .int (iI z53)])), (r49, .inl (cA50, w51, .inl (fun j => bI (t52 j)))), (b, .inr (0, [.ref r33, .int (iI z37)])), (r33, .inl (cA34, w35, .inl (fun j => bI (t36 j))))]) hP hD [4, 0, 3, 2] [1] rfl rfl (by decide) (by decide) hk1 hFc hP1 hD1
      have hK := (hK.sub (tys' := []) [] rfl).app hK1
      generalize H1 = H at hP hS ⊢
      have hP : va_P (dC, dI) vwCl [(rr, .inr (3, [.ref tp, .ref b, .ref nda, .ref ndb])), (tp, .inr (0, [.ref r49, .int (iI z53)])), (r49, .inl (cA50, w51, .inl (fun j => bI (t52 j)))), (b, .inr (0, [.ref r33, .int (iI z37)])), (r33, .inl (cA34, w35, .inl (fun j => bI (t36 j))))] H := hP
      have hD : va_D A [(rr, .inr (3, [.ref tp, .ref b, .ref nda, .ref ndb])), (tp, .inr (0, [.ref r49, .int (iI z53)])), (r49, .inl (cA50, w51, .inl (fun j => bI (t52 j)))), (b, .inr (0, [.ref r33, .int (iI z37)])), (r33, .inl (cA34, w35, .inl (fun j => bI (t36 j))))] := hD
      have hK : va_K (dC, dI) vwCl [(cA50, .byte), (cA34, .byte)] s := hK
      obtain ⟨hokv48, hNv48, rfl, hFv48, hGv48⟩ := hw
      refine W.eq (g2 := F0 m 93 ls []) rfl ?_
      refine lv_aload_n hx hb dX3_add_93 rfl (lv_at hl 1 rfl) ?_
      refine va_get (D := (dC, dI)) (ci := 3) (v := .ref tp) (C := RX3) (T := TX3) (N := 4) hx hb hT inX3 hown hK hP 0 rfl rfl 0 (by decide) (hT _ wd120) (fun _ h9 => h9) rfl dX3_add_94 ?_
      have hPc := hP.sub (ws' := [(tp, .inr (0, [.ref r49, .int (iI z53)]))]) [1] rfl
      have hDc := hD.sub (ws' := [(tp, .inr (0, [.ref r49, .int (iI z53)]))]) [1] (by decide) rfl
      have hKc := hK.sub (tys' := []) [] rfl
      have hFc := va_free (wc := [(tp, .inr (0, [.ref r49, .int (iI z53)]))]) hD hS hA [1] rfl
      refine mv_call (mv_runV (As := []) (rest := []) ⟨hx, hb, hml, hown, hT⟩ (c_B_size l dC dI H.size tp r49 z53 ) (cwV 0 hT (gV wd250 wd251 wd252 wd27 wd253) rfl rfl rfl (by decide +kernel) ⟨show 0 + 1 ≤ 8 from by omega, show 8 + (1 + 11) + 0 ≤ 300 from by omega⟩) ⟨fun a U g mk q => by obtain ⟨q0, q1, qP, qK, qD⟩ := q; exact ⟨q0, q1, qP, va_K.moved (u := U) (U := U.calling g mk a) (Vm.Alike.refl U.vm) qK, qD⟩, va_recv hKc hPc (ci := 0) (q0 := 0) rfl rfl, fun U hU hW => ⟨rfl, by rw [hU], by rw [hU]; exact hPc, va_K.moved hW.alike hKc, hDc.weaken (fun _ _ _ _ => trivial)⟩⟩ rfl rfl hl.1 rfl (lv_room (Nat.le_of_ble_eq_true rfl)) dX3_add_97 ⟨show 0 + 0 + 0 + 0 + k14 + k22 + k30 + 0 + 0 + k46 + 0 ≤ (phB w + phB w2 + 6) from by omega, show 0 + 0 + 0 + 0 + n15 + n23 + n31 + 0 + 0 + n47 + 0 ≤ (phB w + phB w2 + 6) from by omega⟩) hS (fun q _ h => hFc q h) hFc (fun v56 u k54 n55 tS H1 locs ht hvm hw hB hz1 hk1 hS => ?_)
      obtain ⟨hP1, hK1, hD1⟩ := hB
      rw [ht] at hP1
      have hK1 := va_K.moved hvm.symm hK1
      try dsimp only at hw
      obtain ⟨hP, hD⟩ := va_join (wr := [(rr, .inr (3, [.ref tp, .ref b, .ref nda, .ref ndb])), (r49, .inl (cA50, w51, .inl (fun j => bI (t52 j)))), (b, .inr (0, [.ref r33, .int (iI z37)])), (r33, .inl (cA34, w35, .inl (fun j => bI (t36 j))))]) (w1 := [(tp, .inr (0, [.ref r49, .int (iI z53)]))]) hP hD [1] [0, 2, 3, 4] rfl rfl (by decide) (by decide) hk1 hFc hP1 hD1
      have hK := (hK.sub (tys' := [(cA50, .byte), (cA34, .byte)]) [0, 1] rfl).app hK1
      generalize H1 = H at hP hS ⊢
      have hP : va_P (dC, dI) vwCl [(rr, .inr (3, [.ref tp, .ref b, .ref nda, .ref ndb])), (r49, .inl (cA50, w51, .inl (fun j => bI (t52 j)))), (b, .inr (0, [.ref r33, .int (iI z37)])), (r33, .inl (cA34, w35, .inl (fun j => bI (t36 j)))), (tp, .inr (0, [.ref r49, .int (iI z53)]))] H := hP
      have hD : va_D A [(rr, .inr (3, [.ref tp, .ref b, .ref nda, .ref ndb])), (r49, .inl (cA50, w51, .inl (fun j => bI (t52 j)))), (b, .inr (0, [.ref r33, .int (iI z37)])), (r33, .inl (cA34, w35, .inl (fun j => bI (t36 j)))), (tp, .inr (0, [.ref r49, .int (iI z53)]))] := hD
      have hK : va_K (dC, dI) vwCl [(cA50, .byte), (cA34, .byte)] s := hK
      obtain ⟨rfl, rfl, rfl⟩ := hw
      refine W.eq (g2 := F0 m 100 ls [.int (iI z53)]) rfl ?_
      have hln := hokv32.2.2.1
      have hln2 := hokv48.2.2.1
      simp only [List.length_append] at hln2
      have hend : (L2 ++ (((([] : List Int) ++ idB x y 0) ++ lnB q9) ++ nb q (q9 : Int).toNat)) = (L2 ++ (adL x y q)) := by first | rfl | (simp only [wrL, adL, List.nil_append]; done) | (simp only [wrL, adL, List.nil_append, hqw])
      have hlq : ((((([] : List Int) ++ idB x y 0) ++ lnB q9) ++ nb q (q9 : Int).toNat).length : Int) = ((adL x y q).length : Int) := by first | rfl | (simp only [wrL, adL, List.nil_append]; done) | (simp only [wrL, adL, List.nil_append, hqw])
      have hP9 := hP.sub (ws' := [(rr, .inr (3, [.ref tp, .ref b, .ref nda, .ref ndb])), (tp, .inr (0, [.ref r49, .int (iI z53)])), (r49, .inl (cA50, w51, .inl (fun j => bI (t52 j)))), (b, .inr (0, [.ref r33, .int (iI z37)])), (r33, .inl (cA34, w35, .inl (fun j => bI (t36 j))))]) [0, 4, 1, 2, 3] rfl
      have hD9 := hD.sub (ws' := [(rr, .inr (3, [.ref tp, .ref b, .ref nda, .ref ndb])), (tp, .inr (0, [.ref r49, .int (iI z53)])), (r49, .inl (cA50, w51, .inl (fun j => bI (t52 j)))), (b, .inr (0, [.ref r33, .int (iI z37)])), (r33, .inl (cA34, w35, .inl (fun j => bI (t36 j))))]) [0, 4, 1, 2, 3] (by decide) rfl
      have hK9 := hK.sub (tys' := [(cA50, .byte), (cA34, .byte)]) [0, 1] rfl
      exact mx_ret (mv_iret hx hb hr hlocks (fun tS ht hW => ⟨⟨_, (r33, cA34, w35, t36, z37, r49, cA50, w51, t52, z53), rfl, ⟨rfl, ⟨⟨_, hokv32⟩, hend ▸ hokv48, by omega, by omega, by omega, by omega⟩, by omega, by omega⟩, by rw [ht]; exact hP9, va_K.moved hW.alike hK9, hD9⟩, hS.F ht⟩) hS.2.2 dX3_add_100)
    · skip
      have hln := hokv32.2.2.1
      have hlq : ((((([] : List Int) ++ idB x y 0) ++ lnB q9) ++ nb q (q9 : Int).toNat).length : Int) = ((adL x y q).length : Int) := by first | rfl | (simp only [wrL, adL, List.nil_append]; done) | (simp only [wrL, adL, List.nil_append, hqw])
      have hP9 := hP.sub (ws' := [(rr, .inr (3, [.ref tp, .ref b, .ref nda, .ref ndb])), (tp, .inr (0, [.ref r2, .int (iI z2)])), (r2, .inl (cA2, w2, .inl (fun j => bI (t2 j)))), (b, .inr (0, [.ref r33, .int (iI z37)])), (r33, .inl (cA34, w35, .inl (fun j => bI (t36 j))))]) [1, 4, 0, 3, 2] rfl
      have hD9 := hD.sub (ws' := [(rr, .inr (3, [.ref tp, .ref b, .ref nda, .ref ndb])), (tp, .inr (0, [.ref r2, .int (iI z2)])), (r2, .inl (cA2, w2, .inl (fun j => bI (t2 j)))), (b, .inr (0, [.ref r33, .int (iI z37)])), (r33, .inl (cA34, w35, .inl (fun j => bI (t36 j))))]) [1, 4, 0, 3, 2] (by decide) rfl
      have hK9 := hK.sub (tys' := [(cA2, .byte), (cA34, .byte)]) [0, 1] rfl
      obtain ⟨sa, hstr⟩ := xs_s35 hX.2.1
      exact mx_thr (vx_throwS (own := RX3) (cls := "java/lang/IndexOutOfBoundsException") (text := "the tape would have more than 4096 bytes") (names := exN) (ik := 33) (is := 35) (ic := 37) (A := A) (mc := 0 + 0 + 0 + 0 + k14 + k22 + k30 + 0 + 0 + 1) (ms := 0 + 0 + 0 + 0 + n15 + n23 + n31 + 0 + 0 + 6) hx hb hl9 hown (by decide) (by decide) (hT _ wd145) (hT _ wd34) hstr (xa_IOOBE hT hX.2.1) xg_IOOBE hX.2.2.1 hX.2.2.2 hS (hl.1.trans hml.symm) dX3_add_72 dX3_add_75 dX3_add_76 dX3_add_78 dX3_add_81 (fun x hx9 => (ht9 x hx9).elim) (show 2 + 3 < 8 from by decide) (show 0 + (13 * (2 + 1) + 43) ≤ 300 from by decide) (by show 0 + 0 + 0 + 0 + k14 + k22 + k30 + 0 + 0 + 1 ≤ (phB w + phB w2 + 6); omega) (by show 0 + 0 + 0 + 0 + n15 + n23 + n31 + 0 + 0 + 6 ≤ (phB w + phB w2 + 6); omega) hlocks (fun tS hv9 hz9 hq9 => ⟨(r33, cA34, w35, t36, z37, r2, cA2, w2, t2, z2), ⟨Or.inr (⟨rfl, ⟨⟨_, hokv32⟩, hok2, rfl, by omega, by omega, by omega, by omega⟩⟩), by omega, by omega⟩, ⟨xs_P hP9 hq9, va_K.moved hv9 hK9, hD9⟩, xs_F hS hz9 hq9⟩) hS.2.2 (Nat.le_refl _) (Nat.le_refl _))
  · skip
    have hP9 := hP.sub (ws' := [(rr, .inr (3, [.ref tp, .ref b, .ref nda, .ref ndb])), (tp, .inr (0, [.ref r2, .int (iI z2)])), (r2, .inl (cA2, w2, .inl (fun j => bI (t2 j)))), (b, .inr (0, [.ref r, .int (iI z)])), (r, .inl (cA, w, .inl (fun j => bI (t j))))]) [0, 1, 2, 3, 4] rfl
    have hD9 := hD.sub (ws' := [(rr, .inr (3, [.ref tp, .ref b, .ref nda, .ref ndb])), (tp, .inr (0, [.ref r2, .int (iI z2)])), (r2, .inl (cA2, w2, .inl (fun j => bI (t2 j)))), (b, .inr (0, [.ref r, .int (iI z)])), (r, .inl (cA, w, .inl (fun j => bI (t j))))]) [0, 1, 2, 3, 4] (by decide) rfl
    have hK9 := hK.sub (tys' := [(cA2, .byte), (cA, .byte)]) [0, 1] rfl
    obtain ⟨sa, hstr⟩ := xs_s96 hX.2.1
    exact mx_thr (vx_throwS (own := RX3) (cls := "java/lang/IllegalArgumentException") (text := "class 0 to 3, number 0 to 2^31 - 1") (names := exN) (ik := 48) (is := 96) (ic := 52) (A := A) (mc := 0 + 0 + 1) (ms := 0 + 0 + 6) hx hb hl9 hown (by decide) (by decide) (hT _ wd262) (hT _ wd38) hstr (xa_IAE hT hX.2.1) xg_IAE hX.2.2.1 hX.2.2.2 hS (hl.1.trans hml.symm) dX3_add_8 dX3_add_11 dX3_add_12 dX3_add_14 dX3_add_17 (fun x hx9 => (ht9 x hx9).elim) (show 2 + 3 < 8 from by decide) (show 0 + (13 * (2 + 1) + 43) ≤ 300 from by decide) (by show 0 + 0 + 1 ≤ (phB w + phB w2 + 6); omega) (by show 0 + 0 + 6 ≤ (phB w + phB w2 + 6); omega) hlocks (fun tS hv9 hz9 hq9 => ⟨(r, cA, w, t, z, r2, cA2, w2, t2, z2), ⟨Or.inl ⟨rfl, ⟨⟨_, hok⟩, hok2, rfl, by omega⟩⟩, by omega, by omega⟩, ⟨xs_P hP9 hq9, va_K.moved hv9 hK9, hD9⟩, xs_F hS hz9 hq9⟩) hS.2.2 (Nat.le_refl _) (Nat.le_refl _))
