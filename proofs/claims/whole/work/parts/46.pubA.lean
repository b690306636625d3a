set_option maxHeartbeats 4000000 in
set_option maxRecDepth 100000 in
theorem c_R_feed (l : Launch) (hl9 : l.stackTraces = false) (dC : Nat → ClassId) (dI : Nat → Nat → Nat) (sz : Nat) (x : Nat) (b : Nat) (pb : Nat) (nd : Nat) (sp : Nat) (r : Nat) (cA : ClassId) (w : Nat) (t : Nat → Int) (z : Int) (L : List Int) (p0 : Int) (p1 : Int) (p2 : Int) (p3 : Int) (p4 : Int) (hok : okB w t z L) (hp0 : -2147483648 ≤ p0 ∧ p0 < 2147483648) (hp1 : -2147483648 ≤ p1 ∧ p1 < 2147483648) (hp2 : -2147483648 ≤ p2 ∧ p2 < 2147483648) (hp3 : -2147483648 ≤ p3 ∧ p3 < 2147483648) (hp4 : -2147483648 ≤ p4 ∧ p4 < 2147483648) : mx_Met l yX3_feed wsX3_feed ({ frames := 6, cells := (phB w + 6), slots := (phB w + 6), locals := 250 }) (va_Pc [.ref x, .int (iI p0), .int (iI p1), .int (iI p2), .int (iI p3), .int (iI p4)] (fun U => U.heap.size = sz ∧ va_P (dC, dI) vwCl [(x, .inr (3, [.ref b, .ref pb, .ref nd, .ref sp])), (b, .inr (0, [.ref r, .int (iI z)])), (r, .inl (cA, w, .inl (fun j => bI (t j))))] U.heap ∧ va_K (dC, dI) vwCl [(cA, .byte)] U ∧ va_D (fun _ => True) [(x, .inr (3, [.ref b, .ref pb, .ref nd, .ref sp])), (b, .inr (0, [.ref r, .int (iI z)])), (r, .inl (cA, w, .inl (fun j => bI (t j))))] ∧ xsE (va_A [(x, .inr (3, [.ref b, .ref pb, .ref nd, .ref sp])), (b, .inr (0, [.ref r, .int (iI z)])), (r, .inl (cA, w, .inl (fun j => bI (t j))))] sz) U)) (mv_Q (fun (v : Option Value) (u : Nat × ClassId × Nat × (Nat → Int) × Int) (k n : Nat) => match u with | (r', cA', w', t', z') => v = some (.int (iI z')) ∧ (okB w' t' z' (feL L p0 p1 p2 p3 p4) ∧ z' = z + 20 ∧ z + 20 ≤ 4096) ∧ n + phB w' ≤ phB w ∧ k ≤ n) (fun (u : Nat × ClassId × Nat × (Nat → Int) × Int) (tS : State) => match u with | (r', cA', w', t', z') => va_P (dC, dI) vwCl [(x, .inr (3, [.ref b, .ref pb, .ref nd, .ref sp])), (b, .inr (0, [.ref r', .int (iI z')])), (r', .inl (cA', w', .inl (fun j => bI (t' j))))] tS.heap ∧ va_K (dC, dI) vwCl [(cA', .byte)] tS ∧ va_D (va_A [(x, .inr (3, [.ref b, .ref pb, .ref nd, .ref sp])), (b, .inr (0, [.ref r, .int (iI z)])), (r, .inl (cA, w, .inl (fun j => bI (t j))))] sz) [(x, .inr (3, [.ref b, .ref pb, .ref nd, .ref sp])), (b, .inr (0, [.ref r', .int (iI z')])), (r', .inl (cA', w', .inl (fun j => bI (t' j))))]) (va_A [(x, .inr (3, [.ref b, .ref pb, .ref nd, .ref sp])), (b, .inr (0, [.ref r, .int (iI z)])), (r, .inl (cA, w, .inl (fun j => bI (t j))))] sz)) (mx_X (fun (E : String) (u : Nat × ClassId × Nat × (Nat → Int) × Int) (k n : Nat) => match u with | (r', cA', w', t', z') => ((E = "java/lang/IndexOutOfBoundsException" ∧ (okB w' t' z' L ∧ z' = z ∧ 4096 < z + 20))) ∧ n + phB w' ≤ phB w + 6 ∧ k ≤ n) (fun (u : Nat × ClassId × Nat × (Nat → Int) × Int) (tS : State) => match u with | (r', cA', w', t', z') => va_P (dC, dI) vwCl [(x, .inr (3, [.ref b, .ref pb, .ref nd, .ref sp])), (b, .inr (0, [.ref r', .int (iI z')])), (r', .inl (cA', w', .inl (fun j => bI (t' j))))] tS.heap ∧ va_K (dC, dI) vwCl [(cA', .byte)] tS ∧ va_D (va_A [(x, .inr (3, [.ref b, .ref pb, .ref nd, .ref sp])), (b, .inr (0, [.ref r, .int (iI z)])), (r, .inl (cA, w, .inl (fun j => bI (t j))))] sz) [(x, .inr (3, [.ref b, .ref pb, .ref nd, .ref sp])), (b, .inr (0, [.ref r', .int (iI z')])), (r', .inl (cA', w', .inl (fun j => bI (t' j))))]) (va_A [(x, .inr (3, [.ref b, .ref pb, .ref nd, .ref sp])), (b, .inr (0, [.ref r, .int (iI z)])), (r, .inl (cA, w, .inl (fun j => bI (t j))))] sz)) (va_A [(x, .inr (3, [.ref b, .ref pb, .ref nd, .ref sp])), (b, .inr (0, [.ref r, .int (iI z)])), (r, .inl (cA, w, .inl (fun j => bI (t j))))] sz) := by
  refine mx_ofW (cc := cX3_feed) (maxL := 6) (ret := (some .int)) (by decide) rfl ?_
  intro p e s m args below meth c s₁ B hml ht9 hv
  obtain ⟨rfl, hsz, hP, hK, hD0, hX⟩ := hv
  have hx := B.exec
  have hb := B.bytes
  have hr := B.returns
  have hT : ∀ w ∈ wT, w.before _ s = true := fun w h => atoms_spec (ws := wsX3_feed) B.pre w (List.mem_cons_of_mem _ h)
  have hown : s.vm.findClass RX3 = some m.cls := findClass_of_methodNamed B.named
  have hlocks := B.notSynchronized
  subst hsz
  have hD := hD0.self (sz := s.heap.size)
  generalize hAe : va_A [(x, .inr (3, [.ref b, .ref pb, .ref nd, .ref sp])), (b, .inr (0, [.ref r, .int (iI z)])), (r, .inl (cA, w, .inl (fun j => bI (t j))))] s.heap.size = A at hD hX ⊢
  have hA : ∀ q : Nat, s.heap.size ≤ q → A q := fun q h => by rw [← hAe]; exact Or.inr h
  have hS : va_S A s.heap s.heap [] := va_S.rf
  have hP : va_P (dC, dI) vwCl [(x, .inr (3, [.ref b, .ref pb, .ref nd, .ref sp])), (b, .inr (0, [.ref r, .int (iI z)])), (r, .inl (cA, w, .inl (fun j => bI (t j))))] s.heap := hP
  have hl := lv_entry ([.ref x, .int (iI p0), .int (iI p1), .int (iI p2), .int (iI p3), .int (iI p4)]) (n := 6) (Nat.le_of_ble_eq_true rfl)
  rw [lg_entry_eq]
  generalize (lg_sl ([.ref x, .int (iI p0), .int (iI p1), .int (iI p2), .int (iI p3), .int (iI p4)]) ++ List.replicate (6 - (lg_sl ([.ref x, .int (iI p0), .int (iI p1), .int (iI p2), .int (iI p3), .int (iI p4)])).length) Slot.unset).toArray = ls at hl ⊢
  have hl : lv_has ls 6 [(0, .ref x), (1, .int (iI p0)), (2, .int (iI p1)), (3, .int (iI p2)), (4, .int (iI p3)), (5, .int (iI p4))] := hl
  have hN := hX.1
  obtain ⟨hw1, hw2, hw3, hw4, hw5, hw6⟩ := id hok
  refine lv_aload_n hx hb dX3_feed_0 rfl (lv_at hl 0 rfl) ?_
  refine va_get (D := (dC, dI)) (ci := 3) (v := .ref b) (C := RX3) (T := TX3) (N := 4) hx hb hT inX3 hown hK hP 0 rfl rfl 0 (by decide) (hT _ wd120) (fun _ h9 => h9) rfl dX3_feed_1 ?_
  refine lv_bipush (v := iI 20) hx hb dX3_feed_4 (by decide +kernel) ?_
  have hPc := hP.sub (ws' := [(b, .inr (0, [.ref r, .int (iI z)]))]) [1] rfl
  have hDc := hD.sub (ws' := [(b, .inr (0, [.ref r, .int (iI z)]))]) [1] (by decide) rfl
  have hKc := hK.sub (tys' := []) [] rfl
  have hFc := va_free (wc := [(b, .inr (0, [.ref r, .int (iI z)]))]) hD hS hA [1] rfl
  refine mv_call (mv_runV (As := [.int (iI 20)]) (rest := []) ⟨hx, hb, hml, hown, hT⟩ (c_B_room l dC dI s.heap.size b r z 20 (by omega) (by omega)) (cwV 1 hT (gV wd141 wd142 wd143 wd27 wd144) rfl rfl rfl (by decide +kernel) ⟨show 0 + 1 ≤ 6 from by omega, show 8 + (2 + 11) + 0 ≤ 250 from by omega⟩) ⟨fun a U g mk q => by obtain ⟨q0, q1, qP, qK, qD⟩ := q; exact ⟨q0, q1, qP, va_K.moved (u := U) (U := U.calling g mk a) (Vm.Alike.refl U.vm) qK, qD⟩, va_recv hKc hPc (ci := 0) (q0 := 0) rfl rfl, fun U hU hW => ⟨rfl, by rw [hU], by rw [hU]; exact hPc, va_K.moved hW.alike hKc, hDc.weaken (fun _ _ _ _ => trivial)⟩⟩ rfl rfl hl.1 rfl (lv_room (Nat.le_of_ble_eq_true rfl)) dX3_feed_6 ⟨show 0 + 0 ≤ (phB w + 6) from by omega, show 0 + 0 ≤ (phB w + 6) from by omega⟩) hS (fun q _ h => hFc q h) hFc (fun v3 u k1 n2 tS H1 locs ht hvm hw hB hz1 hk1 hS => ?_)
  obtain ⟨q4, rfl⟩ : ∃ y, y = u := ⟨_, rfl⟩
  obtain ⟨hP1, hK1, hD1⟩ := hB
  rw [ht] at hP1
  have hK1 := va_K.moved hvm.symm hK1
  try dsimp only at hw
  obtain ⟨hP, hD⟩ := va_join (wr := [(x, .inr (3, [.ref b, .ref pb, .ref nd, .ref sp])), (r, .inl (cA, w, .inl (fun j => bI (t j))))]) (w1 := [(b, .inr (0, [.ref r, .int (iI z)]))]) hP hD [1] [0, 2] rfl rfl (by decide) (by decide) hk1 hFc hP1 hD1
  have hK := (hK.sub (tys' := [(cA, .byte)]) [0] rfl).app hK1
  generalize H1 = H at hP hS ⊢
  have hP : va_P (dC, dI) vwCl [(x, .inr (3, [.ref b, .ref pb, .ref nd, .ref sp])), (r, .inl (cA, w, .inl (fun j => bI (t j)))), (b, .inr (0, [.ref r, .int (iI z)]))] H := hP
  have hD : va_D A [(x, .inr (3, [.ref b, .ref pb, .ref nd, .ref sp])), (r, .inl (cA, w, .inl (fun j => bI (t j)))), (b, .inr (0, [.ref r, .int (iI z)]))] := hD
  have hK : va_K (dC, dI) vwCl [(cA, .byte)] s := hK
  obtain ⟨rfl, hq4, rfl, rfl⟩ := hw
  refine W.eq (g2 := F0 m 9 ls [.int (iI q4)]) rfl ?_
  refine li_if_ne (tgt := 22) hx hb (by omega) dX3_feed_9 (by decide) (fun c5 => ?_) (fun c5 => ?_)
  · skip
    refine lv_aload_n hx hb dX3_feed_22 rfl (lv_at hl 0 rfl) ?_
    refine va_get (D := (dC, dI)) (ci := 3) (v := .ref b) (C := RX3) (T := TX3) (N := 4) hx hb hT inX3 hown hK hP 0 rfl rfl 0 (by decide) (hT _ wd120) (fun _ h9 => h9) rfl dX3_feed_23 ?_
    refine lv_iload_n hx hb dX3_feed_26 rfl (lv_at hl 1 rfl) ?_
    refine li_i2l hx hb (by omega) dX3_feed_27 ?_
    refine lv_iconst (v := iI 4) hx hb dX3_feed_28 rfl ?_
    have hPc := hP.sub (ws' := [(b, .inr (0, [.ref r, .int (iI z)])), (r, .inl (cA, w, .inl (fun j => bI (t j))))]) [2, 1] rfl
    have hDc := hD.sub (ws' := [(b, .inr (0, [.ref r, .int (iI z)])), (r, .inl (cA, w, .inl (fun j => bI (t j))))]) [2, 1] (by decide) rfl
    have hKc := hK.sub (tys' := [(cA, .byte)]) [0] rfl
    have hFc := va_free (wc := [(b, .inr (0, [.ref r, .int (iI z)])), (r, .inl (cA, w, .inl (fun j => bI (t j))))]) hD hS hA [2, 1] rfl
    refine mv_call (mv_runV (As := [.long (lI p0), .int (iI 4)]) (rest := []) ⟨hx, hb, hml, hown, hT⟩ (c_B_num l dC dI H.size b r cA w t z L p0 4 (hok) (by omega) (by omega) (by omega)) (cwV 2 hT (gV wd213 wd214 wd215 wd27 wd216) rfl rfl rfl (by decide +kernel) ⟨show 4 + 1 ≤ 6 from by omega, show 8 + (5 + 11) + 160 ≤ 250 from by omega⟩) ⟨fun a U g mk q => by obtain ⟨q0, q1, qP, qK, qD⟩ := q; exact ⟨q0, q1, qP, va_K.moved (u := U) (U := U.calling g mk a) (Vm.Alike.refl U.vm) qK, qD⟩, va_recv hKc hPc (ci := 0) (q0 := 0) rfl rfl, fun U hU hW => ⟨rfl, by rw [hU], by rw [hU]; exact hPc, va_K.moved hW.alike hKc, hDc.weaken (fun _ _ _ _ => trivial)⟩⟩ rfl rfl hl.1 rfl (lv_room (Nat.le_of_ble_eq_true rfl)) dX3_feed_29 ⟨show 0 + 0 + (phB w) ≤ (phB w + 6) from by omega, show 0 + 0 + (phB w) ≤ (phB w + 6) from by omega⟩) hS (fun q _ h => hFc q h) hFc (fun v8 u k6 n7 tS H1 locs ht hvm hw hB hz1 hk1 hS => ?_)
    obtain ⟨r9, cA10, w11, t12, z13⟩ := u
    obtain ⟨hP1, hK1, hD1⟩ := hB
    rw [ht] at hP1
    have hK1 := va_K.moved hvm.symm hK1
    try dsimp only at hw
    obtain ⟨hP, hD⟩ := va_join (wr := [(x, .inr (3, [.ref b, .ref pb, .ref nd, .ref sp]))]) (w1 := [(b, .inr (0, [.ref r9, .int (iI z13)])), (r9, .inl (cA10, w11, .inl (fun j => bI (t12 j))))]) hP hD [2, 1] [0] rfl rfl (by decide) (by decide) hk1 hFc hP1 hD1
    have hK := (hK.sub (tys' := []) [] rfl).app hK1
    generalize H1 = H at hP hS ⊢
    have hP : va_P (dC, dI) vwCl [(x, .inr (3, [.ref b, .ref pb, .ref nd, .ref sp])), (b, .inr (0, [.ref r9, .int (iI z13)])), (r9, .inl (cA10, w11, .inl (fun j => bI (t12 j))))] H := hP
    have hD : va_D A [(x, .inr (3, [.ref b, .ref pb, .ref nd, .ref sp])), (b, .inr (0, [.ref r9, .int (iI z13)])), (r9, .inl (cA10, w11, .inl (fun j => bI (t12 j))))] := hD
    have hK : va_K (dC, dI) vwCl [(cA10, .byte)] s := hK
    obtain ⟨hokv8, hNv8, rfl, hFv8, hGv8⟩ := hw
    refine W.eq (g2 := F0 m 32 ls []) rfl ?_
    refine lv_aload_n hx hb dX3_feed_32 rfl (lv_at hl 0 rfl) ?_
    refine va_get (D := (dC, dI)) (ci := 3) (v := .ref b) (C := RX3) (T := TX3) (N := 4) hx hb hT inX3 hown hK hP 0 rfl rfl 0 (by decide) (hT _ wd120) (fun _ h9 => h9) rfl dX3_feed_33 ?_
    refine lv_iload_n hx hb dX3_feed_36 rfl (lv_at hl 2 rfl) ?_
    refine li_i2l hx hb (by omega) dX3_feed_37 ?_
    refine lv_iconst (v := iI 4) hx hb dX3_feed_38 rfl ?_
    have hPc := hP.sub (ws' := [(b, .inr (0, [.ref r9, .int (iI z13)])), (r9, .inl (cA10, w11, .inl (fun j => bI (t12 j))))]) [1, 2] rfl
    have hDc := hD.sub (ws' := [(b, .inr (0, [.ref r9, .int (iI z13)])), (r9, .inl (cA10, w11, .inl (fun j => bI (t12 j))))]) [1, 2] (by decide) rfl
    have hKc := hK.sub (tys' := [(cA10, .byte)]) [0] rfl
    have hFc := va_free (wc := [(b, .inr (0, [.ref r9, .int (iI z13)])), (r9, .inl (cA10, w11, .inl (fun j => bI (t12 j))))]) hD hS hA [1, 2] rfl
    refine mv_call (mv_runV (As := [.long (lI p1), .int (iI 4)]) (rest := []) ⟨hx, hb, hml, hown, hT⟩ (c_B_num l dC dI H.size b r9 cA10 w11 t12 z13 (L ++ nb p0 (4 : Int).toNat) p1 4 (hokv8) (by omega) (by omega) (by omega)) (cwV 2 hT (gV wd213 wd214 wd215 wd27 wd216) rfl rfl rfl (by decide +kernel) ⟨show 4 + 1 ≤ 6 from by omega, show 8 + (5 + 11) + 160 ≤ 250 from by omega⟩) ⟨fun a U g mk q => by obtain ⟨q0, q1, qP, qK, qD⟩ := q; exact ⟨q0, q1, qP, va_K.moved (u := U) (U := U.calling g mk a) (Vm.Alike.refl U.vm) qK, qD⟩, va_recv hKc hPc (ci := 0) (q0 := 0) rfl rfl, fun U hU hW => ⟨rfl, by rw [hU], by rw [hU]; exact hPc, va_K.moved hW.alike hKc, hDc.weaken (fun _ _ _ _ => trivial)⟩⟩ rfl rfl hl.1 rfl (lv_room (Nat.le_of_ble_eq_true rfl)) dX3_feed_39 ⟨show 0 + 0 + k6 + (phB w11) ≤ (phB w + 6) from by omega, show 0 + 0 + n7 + (phB w11) ≤ (phB w + 6) from by omega⟩) hS (fun q _ h => hFc q h) hFc (fun v16 u k14 n15 tS H1 locs ht hvm hw hB hz1 hk1 hS => ?_)
    obtain ⟨r17, cA18, w19, t20, z21⟩ := u
    obtain ⟨hP1, hK1, hD1⟩ := hB
    rw [ht] at hP1
    have hK1 := va_K.moved hvm.symm hK1
    try dsimp only at hw
    obtain ⟨hP, hD⟩ := va_join (wr := [(x, .inr (3, [.ref b, .ref pb, .ref nd, .ref sp]))]) (w1 := [(b, .inr (0, [.ref r17, .int (iI z21)])), (r17, .inl (cA18, w19, .inl (fun j => bI (t20 j))))]) hP hD [1, 2] [0] rfl rfl (by decide) (by decide) hk1 hFc hP1 hD1
    have hK := (hK.sub (tys' := []) [] rfl).app hK1
    generalize H1 = H at hP hS ⊢
    have hP : va_P (dC, dI) vwCl [(x, .inr (3, [.ref b, .ref pb, .ref nd, .ref sp])), (b, .inr (0, [.ref r17, .int (iI z21)])), (r17, .inl (cA18, w19, .inl (fun j => bI (t20 j))))] H := hP
    have hD : va_D A [(x, .inr (3, [.ref b, .ref pb, .ref nd, .ref sp])), (b, .inr (0, [.ref r17, .int (iI z21)])), (r17, .inl (cA18, w19, .inl (fun j => bI (t20 j))))] := hD
    have hK : va_K (dC, dI) vwCl [(cA18, .byte)] s := hK
    obtain ⟨hokv16, hNv16, rfl, hFv16, hGv16⟩ := hw
    refine W.eq (g2 := F0 m 42 ls []) rfl ?_
    refine lv_aload_n hx hb dX3_feed_42 rfl (lv_at hl 0 rfl) ?_
    refine va_get (D := (dC, dI)) (ci := 3) (v := .ref b) (C := RX3) (T := TX3) (N := 4) hx hb hT inX3 hown hK hP 0 rfl rfl 0 (by decide) (hT _ wd120) (fun _ h9 => h9) rfl dX3_feed_43 ?_
    refine lv_iload_n hx hb dX3_feed_46 rfl (lv_at hl 3 rfl) ?_
    refine li_i2l hx hb (by omega) dX3_feed_47 ?_
    refine lv_iconst (v := iI 4) hx hb dX3_feed_48 rfl ?_
    have hPc := hP.sub (ws' := [(b, .inr (0, [.ref r17, .int (iI z21)])), (r17, .inl (cA18, w19, .inl (fun j => bI (t20 j))))]) [1, 2] rfl
    have hDc := hD.sub (ws' := [(b, .inr (0, [.ref r17, .int (iI z21)])), (r17, .inl (cA18, w19, .inl (fun j => bI (t20 j))))]) [1, 2] (by decide) rfl
    have hKc := hK.sub (tys' := [(cA18, .byte)]) [0] rfl
    have hFc := va_free (wc := [(b, .inr (0, [.ref r17, .int (iI z21)])), (r17, .inl (cA18, w19, .inl (fun j => bI (t20 j))))]) hD hS hA [1, 2] rfl
    refine mv_call (mv_runV (As := [.long (lI p2), .int (iI 4)]) (rest := []) ⟨hx, hb, hml, hown, hT⟩ (c_B_num l dC dI H.size b r17 cA18 w19 t20 z21 ((L ++ nb p0 (4 : Int).toNat) ++ nb p1 (4 : Int).toNat) p2 4 (hokv16) (by omega) (by omega) (by omega)) (cwV 2 hT (gV wd213 wd214 wd215 wd27 wd216) rfl rfl rfl (by decide +kernel) ⟨show 4 + 1 ≤ 6 from by omega, show 8 + (5 + 11) + 160 ≤ 250 from by omega⟩) ⟨fun a U g mk q => by obtain ⟨q0, q1, qP, qK, qD⟩ := q; exact ⟨q0, q1, qP, va_K.moved (u := U) (U := U.calling g mk a) (Vm.Alike.refl U.vm) qK, qD⟩, va_recv hKc hPc (ci := 0) (q0 := 0) rfl rfl, fun U hU hW => ⟨rfl, by rw [hU], by rw [hU]; exact hPc, va_K.moved hW.alike hKc, hDc.weaken (fun _ _ _ _ => trivial)⟩⟩ rfl rfl hl.1 rfl (lv_room (Nat.le_of_ble_eq_true rfl)) dX3_feed_49 ⟨show 0 + 0 + k6 + k14 + (phB w19) ≤ (phB w + 6) from by omega, show 0 + 0 + n7 + n15 + (phB w19) ≤ (phB w + 6) from by omega⟩) hS (fun q _ h => hFc q h) hFc (fun v24 u k22 n23 tS H1 locs ht hvm hw hB hz1 hk1 hS => ?_)
    obtain ⟨r25, cA26, w27, t28, z29⟩ := u
    obtain ⟨hP1, hK1, hD1⟩ := hB
    rw [ht] at hP1
    have hK1 := va_K.moved hvm.symm hK1
    try dsimp only at hw
    obtain ⟨hP, hD⟩ := va_join (wr := [(x, .inr (3, [.ref b, .ref pb, .ref nd, .ref sp]))]) (w1 := [(b, .inr (0, [.ref r25, .int (iI z29)])), (r25, .inl (cA26, w27, .inl (fun j => bI (t28 j))))]) hP hD [1, 2] [0] rfl rfl (by decide) (by decide) hk1 hFc hP1 hD1
    have hK := (hK.sub (tys' := []) [] rfl).app hK1
    generalize H1 = H at hP hS ⊢
    have hP : va_P (dC, dI) vwCl [(x, .inr (3, [.ref b, .ref pb, .ref nd, .ref sp])), (b, .inr (0, [.ref r25, .int (iI z29)])), (r25, .inl (cA26, w27, .inl (fun j => bI (t28 j))))] H := hP
    have hD : va_D A [(x, .inr (3, [.ref b, .ref pb, .ref nd, .ref sp])), (b, .inr (0, [.ref r25, .int (iI z29)])), (r25, .inl (cA26, w27, .inl (fun j => bI (t28 j))))] := hD
    have hK : va_K (dC, dI) vwCl [(cA26, .byte)] s := hK
    obtain ⟨hokv24, hNv24, rfl, hFv24, hGv24⟩ := hw
    refine W.eq (g2 := F0 m 52 ls []) rfl ?_
    refine lv_aload_n hx hb dX3_feed_52 rfl (lv_at hl 0 rfl) ?_
    refine va_get (D := (dC, dI)) (ci := 3) (v := .ref b) (C := RX3) (T := TX3) (N := 4) hx hb hT inX3 hown hK hP 0 rfl rfl 0 (by decide) (hT _ wd120) (fun _ h9 => h9) rfl dX3_feed_53 ?_
    refine lv_iload hx hb dX3_feed_56 (lv_at hl 4 rfl) ?_
    refine li_i2l hx hb (by omega) dX3_feed_58 ?_
    refine lv_iconst (v := iI 4) hx hb dX3_feed_59 rfl ?_
    have hPc := hP.sub (ws' := [(b, .inr (0, [.ref r25, .int (iI z29)])), (r25, .inl (cA26, w27, .inl (fun j => bI (t28 j))))]) [1, 2] rfl
    have hDc := hD.sub (ws' := [(b, .inr (0, [.ref r25, .int (iI z29)])), (r25, .inl (cA26, w27, .inl (fun j => bI (t28 j))))]) [1, 2] (by decide) rfl
    have hKc := hK.sub (tys' := [(cA26, .byte)]) [0] rfl
    have hFc := va_free (wc := [(b, .inr (0, [.ref r25, .int (iI z29)])), (r25, .inl (cA26, w27, .inl (fun j => bI (t28 j))))]) hD hS hA [1, 2] rfl
    refine mv_call (mv_runV (As := [.long (lI p3), .int (iI 4)]) (rest := []) ⟨hx, hb, hml, hown, hT⟩ (c_B_num l dC dI H.size b r25 cA26 w27 t28 z29 (((L ++ nb p0 (4 : Int).toNat) ++ nb p1 (4 : Int).toNat) ++ nb p2 (4 : Int).toNat) p3 4 (hokv24) (by omega) (by omega) (by omega)) (cwV 2 hT (gV wd213 wd214 wd215 wd27 wd216) rfl rfl rfl (by decide +kernel) ⟨show 4 + 1 ≤ 6 from by omega, show 8 + (5 + 11) + 160 ≤ 250 from by omega⟩) ⟨fun a U g mk q => by obtain ⟨q0, q1, qP, qK, qD⟩ := q; exact ⟨q0, q1, qP, va_K.moved (u := U) (U := U.calling g mk a) (Vm.Alike.refl U.vm) qK, qD⟩, va_recv hKc hPc (ci := 0) (q0 := 0) rfl rfl, fun U hU hW => ⟨rfl, by rw [hU], by rw [hU]; exact hPc, va_K.moved hW.alike hKc, hDc.weaken (fun _ _ _ _ => trivial)⟩⟩ rfl rfl hl.1 rfl (lv_room (Nat.le_of_ble_eq_true rfl)) dX3_feed_60 ⟨show 0 + 0 + k6 + k14 + k22 + (phB w27) ≤ (phB w + 6) from by omega, show 0 + 0 + n7 + n15 + n23 + (phB w27) ≤ (phB w + 6) from by omega⟩) hS (fun q _ h => hFc q h) hFc (fun v32 u k30 n31 tS H1 locs ht hvm hw hB hz1 hk1 hS => ?_)
    obtain ⟨r33, cA34, w35, t36, z37⟩ := u
    obtain ⟨hP1, hK1, hD1⟩ := hB
    rw [ht] at hP1
    have hK1 := va_K.moved hvm.symm hK1
    try dsimp only at hw
    obtain ⟨hP, hD⟩ := va_join (wr := [(x, .inr (3, [.ref b, .ref pb, .ref nd, .ref sp]))]) (w1 := [(b, .inr (0, [.ref r33, .int (iI z37)])), (r33, .inl (cA34, w35, .inl (fun j => bI (t36 j))))]) hP hD [1, 2] [0] rfl rfl (by decide) (by decide) hk1 hFc hP1 hD1
    have hK := (hK.sub (tys' := []) [] rfl).app hK1
    generalize H1 = H at hP hS ⊢
    have hP : va_P (dC, dI) vwCl [(x, .inr (3, [.ref b, .ref pb, .ref nd, .ref sp])), (b, .inr (0, [.ref r33, .int (iI z37)])), (r33, .inl (cA34, w35, .inl (fun j => bI (t36 j))))] H := hP
    have hD : va_D A [(x, .inr (3, [.ref b, .ref pb, .ref nd, .ref sp])), (b, .inr (0, [.ref r33, .int (iI z37)])), (r33, .inl (cA34, w35, .inl (fun j => bI (t36 j))))] := hD
    have hK : va_K (dC, dI) vwCl [(cA34, .byte)] s := hK
    obtain ⟨hokv32, hNv32, rfl, hFv32, hGv32⟩ := hw
    refine W.eq (g2 := F0 m 63 ls []) rfl ?_
    refine lv_aload_n hx hb dX3_feed_63 rfl (lv_at hl 0 rfl) ?_
    refine va_get (D := (dC, dI)) (ci := 3) (v := .ref b) (C := RX3) (T := TX3) (N := 4) hx hb hT inX3 hown hK hP 0 rfl rfl 0 (by decide) (hT _ wd120) (fun _ h9 => h9) rfl dX3_feed_64 ?_
    refine lv_iload hx hb dX3_feed_67 (lv_at hl 5 rfl) ?_
    refine li_i2l hx hb (by omega) dX3_feed_69 ?_
    refine lv_iconst (v := iI 4) hx hb dX3_feed_70 rfl ?_
    have hPc := hP.sub (ws' := [(b, .inr (0, [.ref r33, .int (iI z37)])), (r33, .inl (cA34, w35, .inl (fun j => bI (t36 j))))]) [1, 2] rfl
    have hDc := hD.sub (ws' := [(b, .inr (0, [.ref r33, .int (iI z37)])), (r33, .inl (cA34, w35, .inl (fun j => bI (t36 j))))]) [1, 2] (by decide) rfl
    have hKc := hK.sub (tys' := [(cA34, .byte)]) [0] rfl
    have hFc := va_free (wc := [(b, .inr (0, [.ref r33, .int (iI z37)])), (r33, .inl (cA34, w35, .inl (fun j => bI (t36 j))))]) hD hS hA [1, 2] rfl
    refine mv_call (mv_runV (As := [.long (lI p4), .int (iI 4)]) (rest := []) ⟨hx, hb, hml, hown, hT⟩ (c_B_num l dC dI H.size b r33 cA34 w35 t36 z37 ((((L ++ nb p0 (4 : Int).toNat) ++ nb p1 (4 : Int).toNat) ++ nb p2 (4 : Int).toNat) ++ nb p3 (4 : Int).toNat) p4 4 (hokv32) (by omega) (by omega) (by omega)) (cwV 2 hT (gV wd213 wd214 wd215 wd27 wd216) rfl rfl rfl (by decide +kernel) ⟨show 4 + 1 ≤ 6 from by omega, show 8 + (5 + 11) + 160 ≤ 250 from by omega⟩) ⟨fun a U g mk q => by obtain ⟨q0, q1, qP, qK, qD⟩ := q; exact ⟨q0, q1, qP, va_K.moved (u := U) (U := U.calling g mk a) (Vm.Alike.refl U.vm) qK, qD⟩, va_recv hKc hPc (ci := 0) (q0 := 0) rfl rfl, fun U hU hW => ⟨rfl, by rw [hU], by rw [hU]; exact hPc, va_K.moved hW.alike hKc, hDc.weaken (fun _ _ _ _ => trivial)⟩⟩ rfl rfl hl.1 rfl (lv_room (Nat.le_of_ble_eq_true rfl)) dX3_feed_71 ⟨show 0 + 0 + k6 + k14 + k22 + k30 + (phB w35) ≤ (phB w + 6) from by omega, show 0 + 0 + n7 + n15 + n23 + n31 + (phB w35) ≤ (phB w + 6) from by omega⟩) hS (fun q _ h => hFc q h) hFc (fun v40 u k38 n39 tS H1 locs ht hvm hw hB hz1 hk1 hS => ?_)
    obtain ⟨r41, cA42, w43, t44, z45⟩ := u
    obtain ⟨hP1, hK1, hD1⟩ := hB
    rw [ht] at hP1
    have hK1 := va_K.moved hvm.symm hK1
    try dsimp only at hw
    obtain ⟨hP, hD⟩ := va_join (wr := [(x, .inr (3, [.ref b, .ref pb, .ref nd, .ref sp]))]) (w1 := [(b, .inr (0, [.ref r41, .int (iI z45)])), (r41, .inl (cA42, w43, .inl (fun j => bI (t44 j))))]) hP hD [1, 2] [0] rfl rfl (by decide) (by decide) hk1 hFc hP1 hD1
    have hK := (hK.sub (tys' := []) [] rfl).app hK1
    generalize H1 = H at hP hS ⊢
    have hP : va_P (dC, dI) vwCl [(x, .inr (3, [.ref b, .ref pb, .ref nd, .ref sp])), (b, .inr (0, [.ref r41, .int (iI z45)])), (r41, .inl (cA42, w43, .inl (fun j => bI (t44 j))))] H := hP
    have hD : va_D A [(x, .inr (3, [.ref b, .ref pb, .ref nd, .ref sp])), (b, .inr (0, [.ref r41, .int (iI z45)])), (r41, .inl (cA42, w43, .inl (fun j => bI (t44 j))))] := hD
    have hK : va_K (dC, dI) vwCl [(cA42, .byte)] s := hK
    obtain ⟨hokv40, hNv40, rfl, hFv40, hGv40⟩ := hw
    refine W.eq (g2 := F0 m 74 ls []) rfl ?_
    refine lv_aload_n hx hb dX3_feed_74 rfl (lv_at hl 0 rfl) ?_
    refine va_get (D := (dC, dI)) (ci := 3) (v := .ref b) (C := RX3) (T := TX3) (N := 4) hx hb hT inX3 hown hK hP 0 rfl rfl 0 (by decide) (hT _ wd120) (fun _ h9 => h9) rfl dX3_feed_75 ?_
    have hPc := hP.sub (ws' := [(b, .inr (0, [.ref r41, .int (iI z45)]))]) [1] rfl
    have hDc := hD.sub (ws' := [(b, .inr (0, [.ref r41, .int (iI z45)]))]) [1] (by decide) rfl
    have hKc := hK.sub (tys' := []) [] rfl
    have hFc := va_free (wc := [(b, .inr (0, [.ref r41, .int (iI z45)]))]) hD hS hA [1] rfl
    refine mv_call (mv_runV (As := []) (rest := []) ⟨hx, hb, hml, hown, hT⟩ (c_B_size l dC dI H.size b r41 z45 ) (cwV 0 hT (gV wd250 wd251 wd252 wd27 wd253) rfl rfl rfl (by decide +kernel) ⟨show 0 + 1 ≤ 6 from by omega, show 8 + (1 + 11) + 0 ≤ 250 from by omega⟩) ⟨fun a U g mk q => by obtain ⟨q0, q1, qP, qK, qD⟩ := q; exact ⟨q0, q1, qP, va_K.moved (u := U) (U := U.calling g mk a) (Vm.Alike.refl U.vm) qK, qD⟩, va_recv hKc hPc (ci := 0) (q0 := 0) rfl rfl, fun U hU hW => ⟨rfl, by rw [hU], by rw [hU]; exact hPc, va_K.moved hW.alike hKc, hDc.weaken (fun _ _ _ _ => trivial)⟩⟩ rfl rfl hl.1 rfl (lv_room (Nat.le_of_ble_eq_true rfl)) dX3_feed_78 ⟨show 0 + 0 + k6 + k14 + k22 + k30 + k38 + 0 ≤ (phB w + 6) from by omega, show 0 + 0 + n7 + n15 + n23 + n31 + n39 + 0 ≤ (phB w + 6) from by omega⟩) hS (fun q _ h => hFc q h) hFc (fun v48 u k46 n47 tS H1 locs ht hvm hw hB hz1 hk1 hS => ?_)
    obtain ⟨hP1, hK1, hD1⟩ := hB
    rw [ht] at hP1
    have hK1 := va_K.moved hvm.symm hK1
    try dsimp only at hw
    obtain ⟨hP, hD⟩ := va_join (wr := [(x, .inr (3, [.ref b, .ref pb, .ref nd, .ref sp])), (r41, .inl (cA42, w43, .inl (fun j => bI (t44 j))))]) (w1 := [(b, .inr (0, [.ref r41, .int (iI z45)]))]) hP hD [1] [0, 2] rfl rfl (by decide) (by decide) hk1 hFc hP1 hD1
    have hK := (hK.sub (tys' := [(cA42, .byte)]) [0] rfl).app hK1
    generalize H1 = H at hP hS ⊢
    have hP : va_P (dC, dI) vwCl [(x, .inr (3, [.ref b, .ref pb, .ref nd, .ref sp])), (r41, .inl (cA42, w43, .inl (fun j => bI (t44 j)))), (b, .inr (0, [.ref r41, .int (iI z45)]))] H := hP
    have hD : va_D A [(x, .inr (3, [.ref b, .ref pb, .ref nd, .ref sp])), (r41, .inl (cA42, w43, .inl (fun j => bI (t44 j)))), (b, .inr (0, [.ref r41, .int (iI z45)]))] := hD
    have hK : va_K (dC, dI) vwCl [(cA42, .byte)] s := hK
    obtain ⟨rfl, rfl, rfl⟩ := hw
    refine W.eq (g2 := F0 m 81 ls [.int (iI z45)]) rfl ?_
    have hP9 := hP.sub (ws' := [(x, .inr (3, [.ref b, .ref pb, .ref nd, .ref sp])), (b, .inr (0, [.ref r41, .int (iI z45)])), (r41, .inl (cA42, w43, .inl (fun j => bI (t44 j))))]) [0, 2, 1] rfl
    have hD9 := hD.sub (ws' := [(x, .inr (3, [.ref b, .ref pb, .ref nd, .ref sp])), (b, .inr (0, [.ref r41, .int (iI z45)])), (r41, .inl (cA42, w43, .inl (fun j => bI (t44 j))))]) [0, 2, 1] (by decide) rfl
    have hK9 := hK.sub (tys' := [(cA42, .byte)]) [0] rfl
    exact mx_ret (mv_iret hx hb hr hlocks (fun tS ht hW => ⟨⟨_, (r41, cA42, w43, t44, z45), rfl, ⟨rfl, ⟨hokv40, by omega, by omega⟩, by omega, by omega⟩, by rw [ht]; exact hP9, va_K.moved hW.alike hK9, hD9⟩, hS.F ht⟩) hS.2.2 dX3_feed_81)
  · skip
    have hP9 := hP.sub (ws' := [(x, .inr (3, [.ref b, .ref pb, .ref nd, .ref sp])), (b, .inr (0, [.ref r, .int (iI z)])), (r, .inl (cA, w, .inl (fun j => bI (t j))))]) [0, 2, 1] rfl
    have hD9 := hD.sub (ws' := [(x, .inr (3, [.ref b, .ref pb, .ref nd, .ref sp])), (b, .inr (0, [.ref r, .int (iI z)])), (r, .inl (cA, w, .inl (fun j => bI (t j))))]) [0, 2, 1] (by decide) rfl
    have hK9 := hK.sub (tys' := [(cA, .byte)]) [0] rfl
    obtain ⟨sa, hstr⟩ := xs_s35 hX.2.1
    exact mx_thr (vx_throwS (own := RX3) (cls := "java/lang/IndexOutOfBoundsException") (text := "the tape would have more than 4096 bytes") (names := exN) (ik := 33) (is := 35) (ic := 37) (A := A) (mc := 0 + 0 + 1) (ms := 0 + 0 + 6) hx hb hl9 hown (by decide) (by decide) (hT _ wd145) (hT _ wd34) hstr (xa_IOOBE hT hX.2.1) xg_IOOBE hX.2.2.1 hX.2.2.2 hS (hl.1.trans hml.symm) dX3_feed_12 dX3_feed_15 dX3_feed_16 dX3_feed_18 dX3_feed_21 (fun x hx9 => (ht9 x hx9).elim) (show 2 + 3 < 6 from by decide) (show 0 + (13 * (2 + 1) + 43) ≤ 250 from by decide) (by show 0 + 0 + 1 ≤ (phB w + 6); omega) (by show 0 + 0 + 6 ≤ (phB w + 6); omega) hlocks (fun tS hv9 hz9 hq9 => ⟨(r, cA, w, t, z), ⟨⟨rfl, ⟨hok, by omega, by omega⟩⟩, by omega, by omega⟩, ⟨xs_P hP9 hq9, va_K.moved hv9 hK9, hD9⟩, xs_F hS hz9 hq9⟩) hS.2.2 (Nat.le_refl _) (Nat.le_refl _))
set_option maxHeartbeats 4000000 in
set_option maxRecDepth 100000 in
theorem c_R_end (l : Launch) (hl9 : l.stackTraces = false) (dC : Nat → ClassId) (dI : Nat → Nat → Nat) (sz : Nat) (x : Nat) (b : Nat) (pb : Nat) (nd : Nat) (sp : Nat) (r : Nat) (cA : ClassId) (w : Nat) (t : Nat → Int) (z : Int) (L : List Int) (i : Int) (hok : okB w t z L) (hi : -2147483648 ≤ i ∧ i < 2147483648) : mx_Met l yX3_end wsX3_end ({ frames := 6, cells := 1, slots := 6, locals := 150 }) (va_Pc [.ref x, .int (iI i)] (fun U => U.heap.size = sz ∧ va_P (dC, dI) vwCl [(x, .inr (3, [.ref b, .ref pb, .ref nd, .ref sp])), (b, .inr (0, [.ref r, .int (iI z)])), (r, .inl (cA, w, .inl (fun j => bI (t j))))] U.heap ∧ va_K (dC, dI) vwCl [(cA, .byte)] U ∧ va_D (fun _ => True) [(x, .inr (3, [.ref b, .ref pb, .ref nd, .ref sp])), (b, .inr (0, [.ref r, .int (iI z)])), (r, .inl (cA, w, .inl (fun j => bI (t j))))] ∧ xsE (va_A [(x, .inr (3, [.ref b, .ref pb, .ref nd, .ref sp])), (b, .inr (0, [.ref r, .int (iI z)])), (r, .inl (cA, w, .inl (fun j => bI (t j))))] sz) U)) (mv_Q (fun (v : Option Value) (u : Int) (k n : Nat) => match u with | (z') => v = some (.int (iI i)) ∧ (okB w t z' (L.take z'.toNat) ∧ z' = i ∧ 0 ≤ i ∧ i ≤ z) ∧ k = 0 ∧ n = 0) (fun (u : Int) (tS : State) => match u with | (z') => va_P (dC, dI) vwCl [(x, .inr (3, [.ref b, .ref pb, .ref nd, .ref sp])), (b, .inr (0, [.ref r, .int (iI z')])), (r, .inl (cA, w, .inl (fun j => bI (t j))))] tS.heap ∧ va_K (dC, dI) vwCl [(cA, .byte)] tS ∧ va_D (va_A [(x, .inr (3, [.ref b, .ref pb, .ref nd, .ref sp])), (b, .inr (0, [.ref r, .int (iI z)])), (r, .inl (cA, w, .inl (fun j => bI (t j))))] sz) [(x, .inr (3, [.ref b, .ref pb, .ref nd, .ref sp])), (b, .inr (0, [.ref r, .int (iI z')])), (r, .inl (cA, w, .inl (fun j => bI (t j))))]) (va_A [(x, .inr (3, [.ref b, .ref pb, .ref nd, .ref sp])), (b, .inr (0, [.ref r, .int (iI z)])), (r, .inl (cA, w, .inl (fun j => bI (t j))))] sz)) (mx_X (fun (E : String) (u : Int) (k n : Nat) => match u with | (z') => ((E = "java/lang/IllegalArgumentException" ∧ (z' = z ∧ (i < 0 ∨ z < i)))) ∧ k ≤ 1 ∧ n ≤ 6) (fun (u : Int) (tS : State) => match u with | (z') => va_P (dC, dI) vwCl [(x, .inr (3, [.ref b, .ref pb, .ref nd, .ref sp])), (b, .inr (0, [.ref r, .int (iI z')])), (r, .inl (cA, w, .inl (fun j => bI (t j))))] tS.heap ∧ va_K (dC, dI) vwCl [(cA, .byte)] tS ∧ va_D (va_A [(x, .inr (3, [.ref b, .ref pb, .ref nd, .ref sp])), (b, .inr (0, [.ref r, .int (iI z)])), (r, .inl (cA, w, .inl (fun j => bI (t j))))] sz) [(x, .inr (3, [.ref b, .ref pb, .ref nd, .ref sp])), (b, .inr (0, [.ref r, .int (iI z')])), (r, .inl (cA, w, .inl (fun j => bI (t j))))]) (va_A [(x, .inr (3, [.ref b, .ref pb, .ref nd, .ref sp])), (b, .inr (0, [.ref r, .int (iI z)])), (r, .inl (cA, w, .inl (fun j => bI (t j))))] sz)) (va_A [(x, .inr (3, [.ref b, .ref pb, .ref nd, .ref sp])), (b, .inr (0, [.ref r, .int (iI z)])), (r, .inl (cA, w, .inl (fun j => bI (t j))))] sz) := by
  refine mx_ofW (cc := cX3_end) (maxL := 2) (ret := (some .int)) (by decide) rfl ?_
  intro p e s m args below meth c s₁ B hml ht9 hv
  obtain ⟨rfl, hsz, hP, hK, hD0, hX⟩ := hv
  have hx := B.exec
  have hb := B.bytes
  have hr := B.returns
  have hT : ∀ w ∈ wT, w.before _ s = true := fun w h => atoms_spec (ws := wsX3_end) B.pre w (List.mem_cons_of_mem _ h)
  have hown : s.vm.findClass RX3 = some m.cls := findClass_of_methodNamed B.named
  have hlocks := B.notSynchronized
  subst hsz
  have hD := hD0.self (sz := s.heap.size)
  generalize hAe : va_A [(x, .inr (3, [.ref b, .ref pb, .ref nd, .ref sp])), (b, .inr (0, [.ref r, .int (iI z)])), (r, .inl (cA, w, .inl (fun j => bI (t j))))] s.heap.size = A at hD hX ⊢
  have hA : ∀ q : Nat, s.heap.size ≤ q → A q := fun q h => by rw [← hAe]; exact Or.inr h
  have hS : va_S A s.heap s.heap [] := va_S.rf
  have hP : va_P (dC, dI) vwCl [(x, .inr (3, [.ref b, .ref pb, .ref nd, .ref sp])), (b, .inr (0, [.ref r, .int (iI z)])), (r, .inl (cA, w, .inl (fun j => bI (t j))))] s.heap := hP
  have hl := lv_entry ([.ref x, .int (iI i)]) (n := 2) (Nat.le_of_ble_eq_true rfl)
  rw [lg_entry_eq]
  generalize (lg_sl ([.ref x, .int (iI i)]) ++ List.replicate (2 - (lg_sl ([.ref x, .int (iI i)])).length) Slot.unset).toArray = ls at hl ⊢
  have hl : lv_has ls 2 [(0, .ref x), (1, .int (iI i))] := hl
  have hN := hX.1
  obtain ⟨hw1, hw2, hw3, hw4, hw5, hw6⟩ := id hok
  refine lv_iload_n hx hb dX3_end_0 rfl (lv_at hl 1 rfl) ?_
  refine li_if_lt (tgt := 15) hx hb (by omega) dX3_end_1 (by decide) (fun c1 => ?_) (fun c1 => ?_)
  · skip
    have hP9 := hP.sub (ws' := [(x, .inr (3, [.ref b, .ref pb, .ref nd, .ref sp])), (b, .inr (0, [.ref r, .int (iI z)])), (r, .inl (cA, w, .inl (fun j => bI (t j))))]) [0, 1, 2] rfl
    have hD9 := hD.sub (ws' := [(x, .inr (3, [.ref b, .ref pb, .ref nd, .ref sp])), (b, .inr (0, [.ref r, .int (iI z)])), (r, .inl (cA, w, .inl (fun j => bI (t j))))]) [0, 1, 2] (by decide) rfl
    have hK9 := hK.sub (tys' := [(cA, .byte)]) [0] rfl
    obtain ⟨sa, hstr⟩ := xs_s50 hX.2.1
    exact mx_thr (vx_throwS (own := RX3) (cls := "java/lang/IllegalArgumentException") (text := "the tape has not so many bytes") (names := exN) (ik := 48) (is := 50) (ic := 52) (A := A) (mc := 0 + 1) (ms := 0 + 6) hx hb hl9 hown (by decide) (by decide) (hT _ wd262) (hT _ wd38) hstr (xa_IAE hT hX.2.1) xg_IAE hX.2.2.1 hX.2.2.2 hS (hl.1.trans hml.symm) dX3_end_15 dX3_end_18 dX3_end_19 dX3_end_21 dX3_end_24 (fun x hx9 => (ht9 x hx9).elim) (show 2 + 3 < 6 from by decide) (show 0 + (13 * (2 + 1) + 43) ≤ 150 from by decide) (by show 0 + 1 ≤ 1; omega) (by show 0 + 6 ≤ 6; omega) hlocks (fun tS hv9 hz9 hq9 => ⟨(z), ⟨⟨rfl, ⟨rfl, by omega⟩⟩, by omega, by omega⟩, ⟨xs_P hP9 hq9, va_K.moved hv9 hK9, hD9⟩, xs_F hS hz9 hq9⟩) hS.2.2 (Nat.le_refl _) (Nat.le_refl _))
  · skip
    refine lv_iload_n hx hb dX3_end_4 rfl (lv_at hl 1 rfl) ?_
    refine lv_aload_n hx hb dX3_end_5 rfl (lv_at hl 0 rfl) ?_
    refine va_get (D := (dC, dI)) (ci := 3) (v := .ref b) (C := RX3) (T := TX3) (N := 4) hx hb hT inX3 hown hK hP 0 rfl rfl 0 (by decide) (hT _ wd120) (fun _ h9 => h9) rfl dX3_end_6 ?_
    have hPc := hP.sub (ws' := [(b, .inr (0, [.ref r, .int (iI z)]))]) [1] rfl
    have hDc := hD.sub (ws' := [(b, .inr (0, [.ref r, .int (iI z)]))]) [1] (by decide) rfl
    have hKc := hK.sub (tys' := []) [] rfl
    have hFc := va_free (wc := [(b, .inr (0, [.ref r, .int (iI z)]))]) hD hS hA [1] rfl
    refine mv_call (mv_runV (As := []) (rest := [.int (iI i)]) ⟨hx, hb, hml, hown, hT⟩ (c_B_size l dC dI s.heap.size b r z ) (cwV 0 hT (gV wd250 wd251 wd252 wd27 wd253) rfl rfl rfl (by decide +kernel) ⟨show 0 + 1 ≤ 6 from by omega, show 8 + (1 + 11) + 0 ≤ 150 from by omega⟩) ⟨fun a U g mk q => by obtain ⟨q0, q1, qP, qK, qD⟩ := q; exact ⟨q0, q1, qP, va_K.moved (u := U) (U := U.calling g mk a) (Vm.Alike.refl U.vm) qK, qD⟩, va_recv hKc hPc (ci := 0) (q0 := 0) rfl rfl, fun U hU hW => ⟨rfl, by rw [hU], by rw [hU]; exact hPc, va_K.moved hW.alike hKc, hDc.weaken (fun _ _ _ _ => trivial)⟩⟩ rfl rfl hl.1 rfl (lv_room (Nat.le_of_ble_eq_true rfl)) dX3_end_9 ⟨show 0 + 0 ≤ 1 from by omega, show 0 + 0 ≤ 6 from by omega⟩) hS (fun q _ h => hFc q h) hFc (fun v4 u k2 n3 tS H1 locs ht hvm hw hB hz1 hk1 hS => ?_)
    obtain ⟨hP1, hK1, hD1⟩ := hB
    rw [ht] at hP1
    have hK1 := va_K.moved hvm.symm hK1
    try dsimp only at hw
    obtain ⟨hP, hD⟩ := va_join (wr := [(x, .inr (3, [.ref b, .ref pb, .ref nd, .ref sp])), (r, .inl (cA, w, .inl (fun j => bI (t j))))]) (w1 := [(b, .inr (0, [.ref r, .int (iI z)]))]) hP hD [1] [0, 2] rfl rfl (by decide) (by decide) hk1 hFc hP1 hD1
    have hK := (hK.sub (tys' := [(cA, .byte)]) [0] rfl).app hK1
    generalize H1 = H at hP hS ⊢
    have hP : va_P (dC, dI) vwCl [(x, .inr (3, [.ref b, .ref pb, .ref nd, .ref sp])), (r, .inl (cA, w, .inl (fun j => bI (t j)))), (b, .inr (0, [.ref r, .int (iI z)]))] H := hP
    have hD : va_D A [(x, .inr (3, [.ref b, .ref pb, .ref nd, .ref sp])), (r, .inl (cA, w, .inl (fun j => bI (t j)))), (b, .inr (0, [.ref r, .int (iI z)]))] := hD
    have hK : va_K (dC, dI) vwCl [(cA, .byte)] s := hK
    obtain ⟨rfl, rfl, rfl⟩ := hw
    refine W.eq (g2 := F0 m 12 ls [.int (iI z), .int (iI i)]) rfl ?_
    refine li_icmp_le (tgt := 25) hx hb (by omega) (by omega) dX3_end_12 (by decide) (fun c5 => ?_) (fun c5 => ?_)
    · skip
      refine lv_aload_n hx hb dX3_end_25 rfl (lv_at hl 0 rfl) ?_
      refine va_get (D := (dC, dI)) (ci := 3) (v := .ref b) (C := RX3) (T := TX3) (N := 4) hx hb hT inX3 hown hK hP 0 rfl rfl 0 (by decide) (hT _ wd120) (fun _ h9 => h9) rfl dX3_end_26 ?_
      refine lv_iload_n hx hb dX3_end_29 rfl (lv_at hl 1 rfl) ?_
      have hPc := hP.sub (ws' := [(b, .inr (0, [.ref r, .int (iI z)]))]) [2] rfl
      have hDc := hD.sub (ws' := [(b, .inr (0, [.ref r, .int (iI z)]))]) [2] (by decide) rfl
      have hKc := hK.sub (tys' := []) [] rfl
      have hFc := va_free (wc := [(b, .inr (0, [.ref r, .int (iI z)]))]) hD hS hA [2] rfl
      refine mv_call (mv_runV (As := [.int (iI i)]) (rest := []) ⟨hx, hb, hml, hown, hT⟩ (c_B_cut l dC dI H.size b r z i (by omega) (by omega)) (cwV 1 hT (gV wd278 wd279 wd280 wd27 wd281) rfl rfl rfl (by decide +kernel) ⟨show 0 + 1 ≤ 6 from by omega, show 8 + (2 + 11) + 0 ≤ 150 from by omega⟩) ⟨fun a U g mk q => by obtain ⟨q0, q1, qP, qK, qD⟩ := q; exact ⟨q0, q1, qP, va_K.moved (u := U) (U := U.calling g mk a) (Vm.Alike.refl U.vm) qK, qD⟩, va_recv hKc hPc (ci := 0) (q0 := 0) rfl rfl, fun U hU hW => ⟨rfl, by rw [hU], by rw [hU]; exact hPc, va_K.moved hW.alike hKc, hDc.weaken (fun _ _ _ _ => trivial)⟩⟩ rfl rfl hl.1 rfl (lv_room (Nat.le_of_ble_eq_true rfl)) dX3_end_30 ⟨show 0 + 0 + 0 ≤ 1 from by omega, show 0 + 0 + 0 ≤ 6 from by omega⟩) hS (fun q _ h => hFc q h) hFc (fun v8 u k6 n7 tS H1 locs ht hvm hw hB hz1 hk1 hS => ?_)
      obtain ⟨y9, rfl⟩ : ∃ y, y = u := ⟨_, rfl⟩
      obtain ⟨hP1, hK1, hD1⟩ := hB
      rw [ht] at hP1
      have hK1 := va_K.moved hvm.symm hK1
      try dsimp only at hw
      obtain ⟨hP, hD⟩ := va_join (wr := [(x, .inr (3, [.ref b, .ref pb, .ref nd, .ref sp])), (r, .inl (cA, w, .inl (fun j => bI (t j))))]) (w1 := [(b, .inr (0, [.ref r, .int (iI y9)]))]) hP hD [2] [0, 1] rfl rfl (by decide) (by decide) hk1 hFc hP1 hD1
      have hK := (hK.sub (tys' := [(cA, .byte)]) [0] rfl).app hK1
      generalize H1 = H at hP hS ⊢
      have hP : va_P (dC, dI) vwCl [(x, .inr (3, [.ref b, .ref pb, .ref nd, .ref sp])), (r, .inl (cA, w, .inl (fun j => bI (t j)))), (b, .inr (0, [.ref r, .int (iI y9)]))] H := hP
      have hD : va_D A [(x, .inr (3, [.ref b, .ref pb, .ref nd, .ref sp])), (r, .inl (cA, w, .inl (fun j => bI (t j)))), (b, .inr (0, [.ref r, .int (iI y9)]))] := hD
      have hK : va_K (dC, dI) vwCl [(cA, .byte)] s := hK
      obtain ⟨hy9, rfl, rfl, rfl⟩ := hw
      refine W.eq (g2 := F0 m 33 ls []) rfl ?_
      refine lv_iload_n hx hb dX3_end_33 rfl (lv_at hl 1 rfl) ?_
      have hP9 := hP.sub (ws' := [(x, .inr (3, [.ref b, .ref pb, .ref nd, .ref sp])), (b, .inr (0, [.ref r, .int (iI y9)])), (r, .inl (cA, w, .inl (fun j => bI (t j))))]) [0, 2, 1] rfl
      have hD9 := hD.sub (ws' := [(x, .inr (3, [.ref b, .ref pb, .ref nd, .ref sp])), (b, .inr (0, [.ref r, .int (iI y9)])), (r, .inl (cA, w, .inl (fun j => bI (t j))))]) [0, 2, 1] (by decide) rfl
      have hK9 := hK.sub (tys' := [(cA, .byte)]) [0] rfl
      exact mx_ret (mv_iret hx hb hr hlocks (fun tS ht hW => ⟨⟨_, (y9), rfl, ⟨rfl, ⟨okB_cut hok (by omega), by omega, by omega, by omega⟩, by omega, by omega⟩, by rw [ht]; exact hP9, va_K.moved hW.alike hK9, hD9⟩, hS.F ht⟩) hS.2.2 dX3_end_34)
    · skip
      have hP9 := hP.sub (ws' := [(x, .inr (3, [.ref b, .ref pb, .ref nd, .ref sp])), (b, .inr (0, [.ref r, .int (iI z)])), (r, .inl (cA, w, .inl (fun j => bI (t j))))]) [0, 2, 1] rfl
      have hD9 := hD.sub (ws' := [(x, .inr (3, [.ref b, .ref pb, .ref nd, .ref sp])), (b, .inr (0, [.ref r, .int (iI z)])), (r, .inl (cA, w, .inl (fun j => bI (t j))))]) [0, 2, 1] (by decide) rfl
      have hK9 := hK.sub (tys' := [(cA, .byte)]) [0] rfl
      obtain ⟨sa, hstr⟩ := xs_s50 hX.2.1
      exact mx_thr (vx_throwS (own := RX3) (cls := "java/lang/IllegalArgumentException") (text := "the tape has not so many bytes") (names := exN) (ik := 48) (is := 50) (ic := 52) (A := A) (mc := 0 + 0 + 1) (ms := 0 + 0 + 6) hx hb hl9 hown (by decide) (by decide) (hT _ wd262) (hT _ wd38) hstr (xa_IAE hT hX.2.1) xg_IAE hX.2.2.1 hX.2.2.2 hS (hl.1.trans hml.symm) dX3_end_15 dX3_end_18 dX3_end_19 dX3_end_21 dX3_end_24 (fun x hx9 => (ht9 x hx9).elim) (show 2 + 3 < 6 from by decide) (show 0 + (13 * (2 + 1) + 43) ≤ 150 from by decide) (by show 0 + 0 + 1 ≤ 1; omega) (by show 0 + 0 + 6 ≤ 6; omega) hlocks (fun tS hv9 hz9 hq9 => ⟨(z), ⟨⟨rfl, ⟨rfl, by omega⟩⟩, by omega, by omega⟩, ⟨xs_P hP9 hq9, va_K.moved hv9 hK9, hD9⟩, xs_F hS hz9 hq9⟩) hS.2.2 (Nat.le_refl _) (Nat.le_refl _))
set_option maxHeartbeats 4000000 in
set_option maxRecDepth 100000 in
theorem c_R_read (l : Launch) (hl9 : l.stackTraces = false) (dC : Nat → ClassId) (dI : Nat → Nat → Nat) (sz : Nat) (x : Nat) (pb : Nat) (n0 : Nat) (nd : Nat) (b : Nat) (h : Nat) (rw : Nat) (mn : Int) (sx : Int) (cR : ClassId) (M : Nat) (V : Nat → Int) (kd : Int) (cs : Int) (tg : Int) (op : Int) (sz1 : Int) (ct : Int) (r : Nat) (cA : ClassId) (w : Nat) (t : Nat → Int) (z : Int) (L : List Int) (b2 : Nat) (r2 : Nat) (cA2 : ClassId) (w2 : Nat) (t2 : Nat → Int) (z2 : Int) (L2 : List Int) (sy : Int) (hoM : okM M V mn) (hok : okB w t z L) (hok2 : okB w2 t2 z2 L2) (hsy : sy = 0 ∨ sy = 1) : mx_Met l yX3_read wsX3_read ({ frames := 92, cells := (phR M + phB w + 6), slots := (phR M + phB w + 6), locals := 2500 }) (va_Pc [.ref x, .int (iI sy)] (fun U => U.heap.size = sz ∧ va_P (dC, dI) vwCl [(x, .inr (3, [.ref b2, .ref pb, .ref n0, .ref nd])), (nd, .inr (2, [.ref b, .ref h, .ref rw, .int (iI mn), .int (iI sx)])), (rw, .inl (cR, M, .inl (fun j => iI (V j)))), (h, .inr (1, [.int (iI kd), .int (iI cs), .int (iI tg), .int (iI op), .int (iI sz1), .int (iI ct)])), (b, .inr (0, [.ref r, .int (iI z)])), (r, .inl (cA, w, .inl (fun j => bI (t j)))), (b2, .inr (0, [.ref r2, .int (iI z2)])), (r2, .inl (cA2, w2, .inl (fun j => bI (t2 j))))] U.heap ∧ va_K (dC, dI) vwCl [(cR, .int), (cA, .byte), (cA2, .byte)] U ∧ va_D (fun _ => True) [(x, .inr (3, [.ref b2, .ref pb, .ref n0, .ref nd])), (nd, .inr (2, [.ref b, .ref h, .ref rw, .int (iI mn), .int (iI sx)])), (rw, .inl (cR, M, .inl (fun j => iI (V j)))), (h, .inr (1, [.int (iI kd), .int (iI cs), .int (iI tg), .int (iI op), .int (iI sz1), .int (iI ct)])), (b, .inr (0, [.ref r, .int (iI z)])), (r, .inl (cA, w, .inl (fun j => bI (t j)))), (b2, .inr (0, [.ref r2, .int (iI z2)])), (r2, .inl (cA2, w2, .inl (fun j => bI (t2 j))))] ∧ xsE (va_A [(x, .inr (3, [.ref b2, .ref pb, .ref n0, .ref nd])), (nd, .inr (2, [.ref b, .ref h, .ref rw, .int (iI mn), .int (iI sx)])), (rw, .inl (cR, M, .inl (fun j => iI (V j)))), (h, .inr (1, [.int (iI kd), .int (iI cs), .int (iI tg), .int (iI op), .int (iI sz1), .int (iI ct)])), (b, .inr (0, [.ref r, .int (iI z)])), (r, .inl (cA, w, .inl (fun j => bI (t j)))), (b2, .inr (0, [.ref r2, .int (iI z2)])), (r2, .inl (cA2, w2, .inl (fun j => bI (t2 j))))] sz) U)) (mv_Q (fun (v : Option Value) (u : Nat × ClassId × Nat × (Nat → Int) × Int × Int × Int × Int × Int × Int × Int × Nat × ClassId × Nat × (Nat → Int) × Nat × Nat × Int) (k n : Nat) => match u with | (rw', cR', M', V', mn', kd', cs', tg', op', sz1', ct', r', cA', w', t', n1', n2', sx') => v = some (.int (iI mn')) ∧ (n1' = nd ∧ n2' = n0 ∧ (∃ W : Nat → Int, rdS L2 sy = some (mn', W) ∧ eqN V' W mn') ∧ okN M' V' mn' ∧ okB w' t' z2 L2) ∧ n + phR M' + phB w' ≤ phR M + phB w ∧ k ≤ n) (fun (u : Nat × ClassId × Nat × (Nat → Int) × Int × Int × Int × Int × Int × Int × Int × Nat × ClassId × Nat × (Nat → Int) × Nat × Nat × Int) (tS : State) => match u with | (rw', cR', M', V', mn', kd', cs', tg', op', sz1', ct', r', cA', w', t', n1', n2', sx') => va_P (dC, dI) vwCl [(x, .inr (3, [.ref b2, .ref pb, .ref n1', .ref n2'])), (nd, .inr (2, [.ref b, .ref h, .ref rw', .int (iI mn'), .int (iI sx')])), (rw', .inl (cR', M', .inl (fun j => iI (V' j)))), (h, .inr (1, [.int (iI kd'), .int (iI cs'), .int (iI tg'), .int (iI op'), .int (iI sz1'), .int (iI ct')])), (b, .inr (0, [.ref r', .int (iI z2)])), (r', .inl (cA', w', .inl (fun j => bI (t' j)))), (b2, .inr (0, [.ref r2, .int (iI z2)])), (r2, .inl (cA2, w2, .inl (fun j => bI (t2 j))))] tS.heap ∧ va_K (dC, dI) vwCl [(cR', .int), (cA', .byte), (cA2, .byte)] tS ∧ va_D (va_A [(x, .inr (3, [.ref b2, .ref pb, .ref n0, .ref nd])), (nd, .inr (2, [.ref b, .ref h, .ref rw, .int (iI mn), .int (iI sx)])), (rw, .inl (cR, M, .inl (fun j => iI (V j)))), (h, .inr (1, [.int (iI kd), .int (iI cs), .int (iI tg), .int (iI op), .int (iI sz1), .int (iI ct)])), (b, .inr (0, [.ref r, .int (iI z)])), (r, .inl (cA, w, .inl (fun j => bI (t j)))), (b2, .inr (0, [.ref r2, .int (iI z2)])), (r2, .inl (cA2, w2, .inl (fun j => bI (t2 j))))] sz) [(x, .inr (3, [.ref b2, .ref pb, .ref n1', .ref n2'])), (nd, .inr (2, [.ref b, .ref h, .ref rw', .int (iI mn'), .int (iI sx')])), (rw', .inl (cR', M', .inl (fun j => iI (V' j)))), (h, .inr (1, [.int (iI kd'), .int (iI cs'), .int (iI tg'), .int (iI op'), .int (iI sz1'), .int (iI ct')])), (b, .inr (0, [.ref r', .int (iI z2)])), (r', .inl (cA', w', .inl (fun j => bI (t' j)))), (b2, .inr (0, [.ref r2, .int (iI z2)])), (r2, .inl (cA2, w2, .inl (fun j => bI (t2 j))))]) (va_A [(x, .inr (3, [.ref b2, .ref pb, .ref n0, .ref nd])), (nd, .inr (2, [.ref b, .ref h, .ref rw, .int (iI mn), .int (iI sx)])), (rw, .inl (cR, M, .inl (fun j => iI (V j)))), (h, .inr (1, [.int (iI kd), .int (iI cs), .int (iI tg), .int (iI op), .int (iI sz1), .int (iI ct)])), (b, .inr (0, [.ref r, .int (iI z)])), (r, .inl (cA, w, .inl (fun j => bI (t j)))), (b2, .inr (0, [.ref r2, .int (iI z2)])), (r2, .inl (cA2, w2, .inl (fun j => bI (t2 j))))] sz)) (mx_X (fun (E : String) (u : Nat × ClassId × Nat × (Nat → Int) × Int × Int × Int × Int × Int × Int × Int × Nat × ClassId × Nat × (Nat → Int) × Nat × Nat × Int) (k n : Nat) => match u with | (rw', cR', M', V', mn', kd', cs', tg', op', sz1', ct', r', cA', w', t', n1', n2', sx') => ((E = "java/lang/UnsupportedOperationException" ∧ (n1' = n0 ∧ n2' = nd ∧ rdS L2 sy = none ∧ okM M' V' mn' ∧ okB w' t' z2 L2))) ∧ n + phR M' + phB w' ≤ phR M + phB w + 6 ∧ k ≤ n) (fun (u : Nat × ClassId × Nat × (Nat → Int) × Int × Int × Int × Int × Int × Int × Int × Nat × ClassId × Nat × (Nat → Int) × Nat × Nat × Int) (tS : State) => match u with | (rw', cR', M', V', mn', kd', cs', tg', op', sz1', ct', r', cA', w', t', n1', n2', sx') => va_P (dC, dI) vwCl [(x, .inr (3, [.ref b2, .ref pb, .ref n1', .ref n2'])), (nd, .inr (2, [.ref b, .ref h, .ref rw', .int (iI mn'), .int (iI sx')])), (rw', .inl (cR', M', .inl (fun j => iI (V' j)))), (h, .inr (1, [.int (iI kd'), .int (iI cs'), .int (iI tg'), .int (iI op'), .int (iI sz1'), .int (iI ct')])), (b, .inr (0, [.ref r', .int (iI z2)])), (r', .inl (cA', w', .inl (fun j => bI (t' j)))), (b2, .inr (0, [.ref r2, .int (iI z2)])), (r2, .inl (cA2, w2, .inl (fun j => bI (t2 j))))] tS.heap ∧ va_K (dC, dI) vwCl [(cR', .int), (cA', .byte), (cA2, .byte)] tS ∧ va_D (va_A [(x, .inr (3, [.ref b2, .ref pb, .ref n0, .ref nd])), (nd, .inr (2, [.ref b, .ref h, .ref rw, .int (iI mn), .int (iI sx)])), (rw, .inl (cR, M, .inl (fun j => iI (V j)))), (h, .inr (1, [.int (iI kd), .int (iI cs), .int (iI tg), .int (iI op), .int (iI sz1), .int (iI ct)])), (b, .inr (0, [.ref r, .int (iI z)])), (r, .inl (cA, w, .inl (fun j => bI (t j)))), (b2, .inr (0, [.ref r2, .int (iI z2)])), (r2, .inl (cA2, w2, .inl (fun j => bI (t2 j))))] sz) [(x, .inr (3, [.ref b2, .ref pb, .ref n1', .ref n2'])), (nd, .inr (2, [.ref b, .ref h, .ref rw', .int (iI mn'), .int (iI sx')])), (rw', .inl (cR', M', .inl (fun j => iI (V' j)))), (h, .inr (1, [.int (iI kd'), .int (iI cs'), .int (iI tg'), .int (iI op'), .int (iI sz1'), .int (iI ct')])), (b, .inr (0, [.ref r', .int (iI z2)])), (r', .inl (cA', w', .inl (fun j => bI (t' j)))), (b2, .inr (0, [.ref r2, .int (iI z2)])), (r2, .inl (cA2, w2, .inl (fun j => bI (t2 j))))]) (va_A [(x, .inr (3, [.ref b2, .ref pb, .ref n0, .ref nd])), (nd, .inr (2, [.ref b, .ref h, .ref rw, .int (iI mn), .int (iI sx)])), (rw, .inl (cR, M, .inl (fun j => iI (V j)))), (h, .inr (1, [.int (iI kd), .int (iI cs), .int (iI tg), .int (iI op), .int (iI sz1), .int (iI ct)])), (b, .inr (0, [.ref r, .int (iI z)])), (r, .inl (cA, w, .inl (fun j => bI (t j)))), (b2, .inr (0, [.ref r2, .int (iI z2)])), (r2, .inl (cA2, w2, .inl (fun j => bI (t2 j))))] sz)) (va_A [(x, .inr (3, [.ref b2, .ref pb, .ref n0, .ref nd])), (nd, .inr (2, [.ref b, .ref h, .ref rw, .int (iI mn), .int (iI sx)])), (rw, .inl (cR, M, .inl (fun j => iI (V j)))), (h, .inr (1, [.int (iI kd), .int (iI cs), .int (iI tg), .int (iI op), .int (iI sz1), .int (iI ct)])), (b, .inr (0, [.ref r, .int (iI z)])), (r, .inl (cA, w, .inl (fun j => bI (t j)))), (b2, .inr (0, [.ref r2, .int (iI z2)])), (r2, .inl (cA2, w2, .inl (fun j => bI (t2 j))))] sz) := by
  refine mx_ofW (cc := cX3_read) (maxL := 3) (ret := (some .int)) (by decide) rfl ?_
  intro p e s m args below meth c s₁ B hml ht9 hv
  obtain ⟨rfl, hsz, hP, hK, hD0, hX⟩ := hv
  have hx := B.exec
  have hb := B.bytes
  have hr := B.returns
  have hT : ∀ w ∈ wT, w.before _ s = true := fun w h => atoms_spec (ws := wsX3_read) B.pre w (List.mem_cons_of_mem _ h)
  have hown : s.vm.findClass RX3 = some m.cls := findClass_of_methodNamed B.named
  have hlocks := B.notSynchronized
  subst hsz
  have hD := hD0.self (sz := s.heap.size)
  generalize hAe : va_A [(x, .inr (3, [.ref b2, .ref pb, .ref n0, .ref nd])), (nd, .inr (2, [.ref b, .ref h, .ref rw, .int (iI mn), .int (iI sx)])), (rw, .inl (cR, M, .inl (fun j => iI (V j)))), (h, .inr (1, [.int (iI kd), .int (iI cs), .int (iI tg), .int (iI op), .int (iI sz1), .int (iI ct)])), (b, .inr (0, [.ref r, .int (iI z)])), (r, .inl (cA, w, .inl (fun j => bI (t j)))), (b2, .inr (0, [.ref r2, .int (iI z2)])), (r2, .inl (cA2, w2, .inl (fun j => bI (t2 j))))] s.heap.size = A at hD hX ⊢
  have hA : ∀ q : Nat, s.heap.size ≤ q → A q := fun q h => by rw [← hAe]; exact Or.inr h
  have hS : va_S A s.heap s.heap [] := va_S.rf
  have hP : va_P (dC, dI) vwCl [(x, .inr (3, [.ref b2, .ref pb, .ref n0, .ref nd])), (nd, .inr (2, [.ref b, .ref h, .ref rw, .int (iI mn), .int (iI sx)])), (rw, .inl (cR, M, .inl (fun j => iI (V j)))), (h, .inr (1, [.int (iI kd), .int (iI cs), .int (iI tg), .int (iI op), .int (iI sz1), .int (iI ct)])), (b, .inr (0, [.ref r, .int (iI z)])), (r, .inl (cA, w, .inl (fun j => bI (t j)))), (b2, .inr (0, [.ref r2, .int (iI z2)])), (r2, .inl (cA2, w2, .inl (fun j => bI (t2 j))))] s.heap := hP
  have hl := lv_entry ([.ref x, .int (iI sy)]) (n := 3) (Nat.le_of_ble_eq_true rfl)
  rw [lg_entry_eq]
  generalize (lg_sl ([.ref x, .int (iI sy)]) ++ List.replicate (3 - (lg_sl ([.ref x, .int (iI sy)])).length) Slot.unset).toArray = ls at hl ⊢
  have hl : lv_has ls 3 [(0, .ref x), (1, .int (iI sy))] := hl
  have hN := hX.1
  refine lv_aload_n hx hb dX3_read_0 rfl (lv_at hl 0 rfl) ?_
  refine va_get (D := (dC, dI)) (ci := 3) (v := .ref nd) (C := RX3) (T := TX3) (N := 4) hx hb hT inX3 hown hK hP 0 rfl rfl 3 (by decide) (hT _ wd123) (fun _ h9 => h9) rfl dX3_read_1 ?_
  refine lv_aload_n hx hb dX3_read_4 rfl (lv_at hl 0 rfl) ?_
  refine va_get (D := (dC, dI)) (ci := 3) (v := .ref b2) (C := RX3) (T := TX3) (N := 4) hx hb hT inX3 hown hK hP 0 rfl rfl 0 (by decide) (hT _ wd120) (fun _ h9 => h9) rfl dX3_read_5 ?_
  refine lv_iload_n hx hb dX3_read_8 rfl (lv_at hl 1 rfl) ?_
  have hPc := hP.sub (ws' := [(nd, .inr (2, [.ref b, .ref h, .ref rw, .int (iI mn), .int (iI sx)])), (rw, .inl (cR, M, .inl (fun j => iI (V j)))), (h, .inr (1, [.int (iI kd), .int (iI cs), .int (iI tg), .int (iI op), .int (iI sz1), .int (iI ct)])), (b, .inr (0, [.ref r, .int (iI z)])), (r, .inl (cA, w, .inl (fun j => bI (t j)))), (b2, .inr (0, [.ref r2, .int (iI z2)])), (r2, .inl (cA2, w2, .inl (fun j => bI (t2 j))))]) [1, 2, 3, 4, 5, 6, 7] rfl
  have hDc := hD.sub (ws' := [(nd, .inr (2, [.ref b, .ref h, .ref rw, .int (iI mn), .int (iI sx)])), (rw, .inl (cR, M, .inl (fun j => iI (V j)))), (h, .inr (1, [.int (iI kd), .int (iI cs), .int (iI tg), .int (iI op), .int (iI sz1), .int (iI ct)])), (b, .inr (0, [.ref r, .int (iI z)])), (r, .inl (cA, w, .inl (fun j => bI (t j)))), (b2, .inr (0, [.ref r2, .int (iI z2)])), (r2, .inl (cA2, w2, .inl (fun j => bI (t2 j))))]) [1, 2, 3, 4, 5, 6, 7] (by decide) rfl
  have hKc := hK.sub (tys' := [(cR, .int), (cA, .byte), (cA2, .byte)]) [0, 1, 2] rfl
  have hFc := va_free (wc := [(nd, .inr (2, [.ref b, .ref h, .ref rw, .int (iI mn), .int (iI sx)])), (rw, .inl (cR, M, .inl (fun j => iI (V j)))), (h, .inr (1, [.int (iI kd), .int (iI cs), .int (iI tg), .int (iI op), .int (iI sz1), .int (iI ct)])), (b, .inr (0, [.ref r, .int (iI z)])), (r, .inl (cA, w, .inl (fun j => bI (t j)))), (b2, .inr (0, [.ref r2, .int (iI z2)])), (r2, .inl (cA2, w2, .inl (fun j => bI (t2 j))))]) hD hS hA [1, 2, 3, 4, 5, 6, 7] rfl
  refine mv_call (mv_runV (As := [.ref b2, .int (iI sy)]) (rest := []) ⟨hx, hb, hml, hown, hT⟩ (c_N_lay l dC dI s.heap.size nd b h rw mn sx cR M V kd cs tg op sz1 ct r cA w t z L b2 r2 cA2 w2 t2 z2 L2 sy (hoM) (hok) (hok2) (hsy)) (cwV 2 hT (gV wd290 wd291 wd292 wd28 wd293) rfl rfl rfl (by decide +kernel) ⟨show 90 + 1 ≤ 92 from by omega, show 8 + (4 + 11) + 2400 ≤ 2500 from by omega⟩) ⟨fun a U g mk q => by obtain ⟨q0, q1, qP, qK, qD, qN⟩ := q; exact ⟨q0, q1, qP, va_K.moved (u := U) (U := U.calling g mk a) (Vm.Alike.refl U.vm) qK, qD, nsW_same rfl qN⟩, va_recv hKc hPc (ci := 2) (q0 := 0) rfl rfl, fun U hU hW => ⟨rfl, by rw [hU], by rw [hU]; exact hPc, va_K.moved hW.alike hKc, hDc.weaken (fun _ _ _ _ => trivial), nsW_warm hW hN⟩⟩ rfl rfl hl.1 rfl (lv_room (Nat.le_of_ble_eq_true rfl)) dX3_read_9 ⟨show 0 + (phR M + phB w) ≤ (phR M + phB w + 6) from by omega, show 0 + (phR M + phB w) ≤ (phR M + phB w + 6) from by omega⟩) hS (fun q _ h => hFc q h) hFc (fun v3 u k1 n2 tS H1 locs ht hvm hw hB hz1 hk1 hS => ?_)
  obtain ⟨rw4, cR5, M6, V7, mn8, kd9, cs10, tg11, op12, sz13, ct14, r15, cA16, w17, t18, q19⟩ := u
  obtain ⟨hP1, hK1, hD1⟩ := hB
  rw [ht] at hP1
  have hK1 := va_K.moved hvm.symm hK1
  try dsimp only at hw
  obtain ⟨hP, hD⟩ := va_join (wr := [(x, .inr (3, [.ref b2, .ref pb, .ref n0, .ref nd]))]) (w1 := [(nd, .inr (2, [.ref b, .ref h, .ref rw4, .int (iI mn8), .int (iI sy)])), (rw4, .inl (cR5, M6, .inl (fun j => iI (V7 j)))), (h, .inr (1, [.int (iI kd9), .int (iI cs10), .int (iI tg11), .int (iI op12), .int (iI sz13), .int (iI ct14)])), (b, .inr (0, [.ref r15, .int (iI z2)])), (r15, .inl (cA16, w17, .inl (fun j => bI (t18 j)))), (b2, .inr (0, [.ref r2, .int (iI z2)])), (r2, .inl (cA2, w2, .inl (fun j => bI (t2 j))))]) hP hD [1, 2, 3, 4, 5, 6, 7] [0] rfl rfl (by decide) (by decide) hk1 hFc hP1 hD1
  have hK := (hK.sub (tys' := []) [] rfl).app hK1
  generalize H1 = H at hP hS ⊢
  have hP : va_P (dC, dI) vwCl [(x, .inr (3, [.ref b2, .ref pb, .ref n0, .ref nd])), (nd, .inr (2, [.ref b, .ref h, .ref rw4, .int (iI mn8), .int (iI sy)])), (rw4, .inl (cR5, M6, .inl (fun j => iI (V7 j)))), (h, .inr (1, [.int (iI kd9), .int (iI cs10), .int (iI tg11), .int (iI op12), .int (iI sz13), .int (iI ct14)])), (b, .inr (0, [.ref r15, .int (iI z2)])), (r15, .inl (cA16, w17, .inl (fun j => bI (t18 j)))), (b2, .inr (0, [.ref r2, .int (iI z2)])), (r2, .inl (cA2, w2, .inl (fun j => bI (t2 j))))] H := hP
  have hD : va_D A [(x, .inr (3, [.ref b2, .ref pb, .ref n0, .ref nd])), (nd, .inr (2, [.ref b, .ref h, .ref rw4, .int (iI mn8), .int (iI sy)])), (rw4, .inl (cR5, M6, .inl (fun j => iI (V7 j)))), (h, .inr (1, [.int (iI kd9), .int (iI cs10), .int (iI tg11), .int (iI op12), .int (iI sz13), .int (iI ct14)])), (b, .inr (0, [.ref r15, .int (iI z2)])), (r15, .inl (cA16, w17, .inl (fun j => bI (t18 j)))), (b2, .inr (0, [.ref r2, .int (iI z2)])), (r2, .inl (cA2, w2, .inl (fun j => bI (t2 j))))] := hD
  have hK : va_K (dC, dI) vwCl [(cR5, .int), (cA16, .byte), (cA2, .byte)] s := hK
  obtain ⟨rfl, hqv3, hokv3, hFv3, hGv3⟩ := hw
  refine W.eq (g2 := F0 m 12 ls [.int (iI q19)]) rfl ?_
  refine li_if_ne (tgt := 25) hx hb (by omega) dX3_read_12 (by decide) (fun c20 => ?_) (fun c20 => ?_)
  · skip
    refine lv_aload_n hx hb dX3_read_25 rfl (lv_at hl 0 rfl) ?_
    refine va_get (D := (dC, dI)) (ci := 3) (v := .ref n0) (C := RX3) (T := TX3) (N := 4) hx hb hT inX3 hown hK hP 0 rfl rfl 2 (by decide) (hT _ wd122) (fun _ h9 => h9) rfl dX3_read_26 ?_
    refine lv_astore_n (lv' := [(2, .ref n0), (0, .ref x), (1, .int (iI sy))]) hx hb dX3_read_29 rfl hl (by decide) rfl (fun ls hl => ?_)
    refine lv_aload_n hx hb dX3_read_30 rfl (lv_at hl 1 rfl) ?_
    refine lv_aload_n hx hb dX3_read_31 rfl (lv_at hl 1 rfl) ?_
    refine va_get (D := (dC, dI)) (ci := 3) (v := .ref nd) (C := RX3) (T := TX3) (N := 4) hx hb hT inX3 hown hK hP 0 rfl rfl 3 (by decide) (hT _ wd123) (fun _ h9 => h9) rfl dX3_read_32 ?_
    refine va_put (D := (dC, dI)) (ci := 3) (v := .ref nd) (ty := .object "RuleReader$Nodes") (C := RX3) (T := TX3) (N := 4) hx hb hT inX3 tyX3 tyX3_ok nX3 hown hK hP hD hS 0 rfl rfl 2 (by decide) (hT _ wd122) (fun _ h9 => h9) rfl (by decide +kernel) rfl rfl (Nat.le_of_ble_eq_true rfl) dX3_read_35 (fun H locs hP hD hS => ?_)
    have hP : va_P (dC, dI) vwCl [(x, .inr (3, [.ref b2, .ref pb, .ref nd, .ref nd])), (nd, .inr (2, [.ref b, .ref h, .ref rw4, .int (iI mn8), .int (iI sy)])), (rw4, .inl (cR5, M6, .inl (fun j => iI (V7 j)))), (h, .inr (1, [.int (iI kd9), .int (iI cs10), .int (iI tg11), .int (iI op12), .int (iI sz13), .int (iI ct14)])), (b, .inr (0, [.ref r15, .int (iI z2)])), (r15, .inl (cA16, w17, .inl (fun j => bI (t18 j)))), (b2, .inr (0, [.ref r2, .int (iI z2)])), (r2, .inl (cA2, w2, .inl (fun j => bI (t2 j))))] H := hP
    have hD : va_D A [(x, .inr (3, [.ref b2, .ref pb, .ref nd, .ref nd])), (nd, .inr (2, [.ref b, .ref h, .ref rw4, .int (iI mn8), .int (iI sy)])), (rw4, .inl (cR5, M6, .inl (fun j => iI (V7 j)))), (h, .inr (1, [.int (iI kd9), .int (iI cs10), .int (iI tg11), .int (iI op12), .int (iI sz13), .int (iI ct14)])), (b, .inr (0, [.ref r15, .int (iI z2)])), (r15, .inl (cA16, w17, .inl (fun j => bI (t18 j)))), (b2, .inr (0, [.ref r2, .int (iI z2)])), (r2, .inl (cA2, w2, .inl (fun j => bI (t2 j))))] := hD
    refine lv_aload_n hx hb dX3_read_38 rfl (lv_at hl 1 rfl) ?_
    refine lv_aload_n hx hb dX3_read_39 rfl (lv_at hl 0 rfl) ?_
    refine va_put (D := (dC, dI)) (ci := 3) (v := .ref n0) (ty := .object "RuleReader$Nodes") (C := RX3) (T := TX3) (N := 4) hx hb hT inX3 tyX3 tyX3_ok nX3 hown hK hP hD hS 0 rfl rfl 3 (by decide) (hT _ wd123) (fun _ h9 => h9) rfl (by decide +kernel) rfl rfl (Nat.le_of_ble_eq_true rfl) dX3_read_40 (fun H locs hP hD hS => ?_)
    have hP : va_P (dC, dI) vwCl [(x, .inr (3, [.ref b2, .ref pb, .ref nd, .ref n0])), (nd, .inr (2, [.ref b, .ref h, .ref rw4, .int (iI mn8), .int (iI sy)])), (rw4, .inl (cR5, M6, .inl (fun j => iI (V7 j)))), (h, .inr (1, [.int (iI kd9), .int (iI cs10), .int (iI tg11), .int (iI op12), .int (iI sz13), .int (iI ct14)])), (b, .inr (0, [.ref r15, .int (iI z2)])), (r15, .inl (cA16, w17, .inl (fun j => bI (t18 j)))), (b2, .inr (0, [.ref r2, .int (iI z2)])), (r2, .inl (cA2, w2, .inl (fun j => bI (t2 j))))] H := hP
    have hD : va_D A [(x, .inr (3, [.ref b2, .ref pb, .ref nd, .ref n0])), (nd, .inr (2, [.ref b, .ref h, .ref rw4, .int (iI mn8), .int (iI sy)])), (rw4, .inl (cR5, M6, .inl (fun j => iI (V7 j)))), (h, .inr (1, [.int (iI kd9), .int (iI cs10), .int (iI tg11), .int (iI op12), .int (iI sz13), .int (iI ct14)])), (b, .inr (0, [.ref r15, .int (iI z2)])), (r15, .inl (cA16, w17, .inl (fun j => bI (t18 j)))), (b2, .inr (0, [.ref r2, .int (iI z2)])), (r2, .inl (cA2, w2, .inl (fun j => bI (t2 j))))] := hD
    refine lv_aload_n hx hb dX3_read_43 rfl (lv_at hl 1 rfl) ?_
    refine va_get (D := (dC, dI)) (ci := 3) (v := .ref nd) (C := RX3) (T := TX3) (N := 4) hx hb hT inX3 hown hK hP 0 rfl rfl 2 (by decide) (hT _ wd122) (fun _ h9 => h9) rfl dX3_read_44 ?_
    have hPc := hP.sub (ws' := [(nd, .inr (2, [.ref b, .ref h, .ref rw4, .int (iI mn8), .int (iI sy)]))]) [1] rfl
    have hDc := hD.sub (ws' := [(nd, .inr (2, [.ref b, .ref h, .ref rw4, .int (iI mn8), .int (iI sy)]))]) [1] (by decide) rfl
    have hKc := hK.sub (tys' := []) [] rfl
    have hFc := va_free (wc := [(nd, .inr (2, [.ref b, .ref h, .ref rw4, .int (iI mn8), .int (iI sy)]))]) hD hS hA [1] rfl
    refine mv_call (mv_runV (As := []) (rest := []) ⟨hx, hb, hml, hown, hT⟩ (c_N_size l dC dI H.size nd b h rw4 mn8 sy ) (cwV 0 hT (gV wd390 wd391 wd392 wd28 wd393) rfl rfl rfl (by decide +kernel) ⟨show 0 + 1 ≤ 92 from by omega, show 8 + (1 + 11) + 0 ≤ 2500 from by omega⟩) ⟨fun a U g mk q => by obtain ⟨q0, q1, qP, qK, qD⟩ := q; exact ⟨q0, q1, qP, va_K.moved (u := U) (U := U.calling g mk a) (Vm.Alike.refl U.vm) qK, qD⟩, va_recv hKc hPc (ci := 2) (q0 := 0) rfl rfl, fun U hU hW => ⟨rfl, by rw [hU], by rw [hU]; exact hPc, va_K.moved hW.alike hKc, hDc.weaken (fun _ _ _ _ => trivial)⟩⟩ rfl rfl hl.1 rfl (lv_room (Nat.le_of_ble_eq_true rfl)) dX3_read_47 ⟨show 0 + k1 + 0 ≤ (phR M + phB w + 6) from by omega, show 0 + n2 + 0 ≤ (phR M + phB w + 6) from by omega⟩) hS (fun q _ h => hFc q h) hFc (fun v23 u k21 n22 tS H1 locs ht hvm hw hB hz1 hk1 hS => ?_)
    obtain ⟨hP1, hK1, hD1⟩ := hB
    rw [ht] at hP1
    have hK1 := va_K.moved hvm.symm hK1
    try dsimp only at hw
    obtain ⟨hP, hD⟩ := va_join (wr := [(x, .inr (3, [.ref b2, .ref pb, .ref nd, .ref n0])), (rw4, .inl (cR5, M6, .inl (fun j => iI (V7 j)))), (h, .inr (1, [.int (iI kd9), .int (iI cs10), .int (iI tg11), .int (iI op12), .int (iI sz13), .int (iI ct14)])), (b, .inr (0, [.ref r15, .int (iI z2)])), (r15, .inl (cA16, w17, .inl (fun j => bI (t18 j)))), (b2, .inr (0, [.ref r2, .int (iI z2)])), (r2, .inl (cA2, w2, .inl (fun j => bI (t2 j))))]) (w1 := [(nd, .inr (2, [.ref b, .ref h, .ref rw4, .int (iI mn8), .int (iI sy)]))]) hP hD [1] [0, 2, 3, 4, 5, 6, 7] rfl rfl (by decide) (by decide) hk1 hFc hP1 hD1
    have hK := (hK.sub (tys' := [(cR5, .int), (cA16, .byte), (cA2, .byte)]) [0, 1, 2] rfl).app hK1
    generalize H1 = H at hP hS ⊢
    have hP : va_P (dC, dI) vwCl [(x, .inr (3, [.ref b2, .ref pb, .ref nd, .ref n0])), (rw4, .inl (cR5, M6, .inl (fun j => iI (V7 j)))), (h, .inr (1, [.int (iI kd9), .int (iI cs10), .int (iI tg11), .int (iI op12), .int (iI sz13), .int (iI ct14)])), (b, .inr (0, [.ref r15, .int (iI z2)])), (r15, .inl (cA16, w17, .inl (fun j => bI (t18 j)))), (b2, .inr (0, [.ref r2, .int (iI z2)])), (r2, .inl (cA2, w2, .inl (fun j => bI (t2 j)))), (nd, .inr (2, [.ref b, .ref h, .ref rw4, .int (iI mn8), .int (iI sy)]))] H := hP
    have hD : va_D A [(x, .inr (3, [.ref b2, .ref pb, .ref nd, .ref n0])), (rw4, .inl (cR5, M6, .inl (fun j => iI (V7 j)))), (h, .inr (1, [.int (iI kd9), .int (iI cs10), .int (iI tg11), .int (iI op12), .int (iI sz13), .int (iI ct14)])), (b, .inr (0, [.ref r15, .int (iI z2)])), (r15, .inl (cA16, w17, .inl (fun j => bI (t18 j)))), (b2, .inr (0, [.ref r2, .int (iI z2)])), (r2, .inl (cA2, w2, .inl (fun j => bI (t2 j)))), (nd, .inr (2, [.ref b, .ref h, .ref rw4, .int (iI mn8), .int (iI sy)]))] := hD
    have hK : va_K (dC, dI) vwCl [(cR5, .int), (cA16, .byte), (cA2, .byte)] s := hK
    obtain ⟨rfl, rfl, rfl⟩ := hw
    refine W.eq (g2 := F0 m 50 ls [.int (iI mn8)]) rfl ?_
    obtain ⟨y0, W9, y1, y2, y3⟩ := hqv3.resolve_right (fun h => absurd h.1 (by omega))
    have hP9 := hP.sub (ws' := [(x, .inr (3, [.ref b2, .ref pb, .ref nd, .ref n0])), (nd, .inr (2, [.ref b, .ref h, .ref rw4, .int (iI mn8), .int (iI sy)])), (rw4, .inl (cR5, M6, .inl (fun j => iI (V7 j)))), (h, .inr (1, [.int (iI kd9), .int (iI cs10), .int (iI tg11), .int (iI op12), .int (iI sz13), .int (iI ct14)])), (b, .inr (0, [.ref r15, .int (iI z2)])), (r15, .inl (cA16, w17, .inl (fun j => bI (t18 j)))), (b2, .inr (0, [.ref r2, .int (iI z2)])), (r2, .inl (cA2, w2, .inl (fun j => bI (t2 j))))]) [0, 7, 1, 2, 3, 4, 5, 6] rfl
    have hD9 := hD.sub (ws' := [(x, .inr (3, [.ref b2, .ref pb, .ref nd, .ref n0])), (nd, .inr (2, [.ref b, .ref h, .ref rw4, .int (iI mn8), .int (iI sy)])), (rw4, .inl (cR5, M6, .inl (fun j => iI (V7 j)))), (h, .inr (1, [.int (iI kd9), .int (iI cs10), .int (iI tg11), .int (iI op12), .int (iI sz13), .int (iI ct14)])), (b, .inr (0, [.ref r15, .int (iI z2)])), (r15, .inl (cA16, w17, .inl (fun j => bI (t18 j)))), (b2, .inr (0, [.ref r2, .int (iI z2)])), (r2, .inl (cA2, w2, .inl (fun j => bI (t2 j))))]) [0, 7, 1, 2, 3, 4, 5, 6] (by decide) rfl
    have hK9 := hK.sub (tys' := [(cR5, .int), (cA16, .byte), (cA2, .byte)]) [0, 1, 2] rfl
    exact mx_ret (mv_iret hx hb hr hlocks (fun tS ht hW => ⟨⟨_, (rw4, cR5, M6, V7, mn8, kd9, cs10, tg11, op12, sz13, ct14, r15, cA16, w17, t18, nd, n0, sy), rfl, ⟨rfl, ⟨rfl, rfl, ⟨W9, y1, y2⟩, y3, hokv3⟩, by omega, by omega⟩, by rw [ht]; exact hP9, va_K.moved hW.alike hK9, hD9⟩, hS.F ht⟩) hS.2.2 dX3_read_50)
  · skip
    obtain ⟨y0, y1, y2⟩ := hqv3.resolve_left (fun h => absurd h.1 (by omega))
    have hP9 := hP.sub (ws' := [(x, .inr (3, [.ref b2, .ref pb, .ref n0, .ref nd])), (nd, .inr (2, [.ref b, .ref h, .ref rw4, .int (iI mn8), .int (iI sy)])), (rw4, .inl (cR5, M6, .inl (fun j => iI (V7 j)))), (h, .inr (1, [.int (iI kd9), .int (iI cs10), .int (iI tg11), .int (iI op12), .int (iI sz13), .int (iI ct14)])), (b, .inr (0, [.ref r15, .int (iI z2)])), (r15, .inl (cA16, w17, .inl (fun j => bI (t18 j)))), (b2, .inr (0, [.ref r2, .int (iI z2)])), (r2, .inl (cA2, w2, .inl (fun j => bI (t2 j))))]) [0, 1, 2, 3, 4, 5, 6, 7] rfl
    have hD9 := hD.sub (ws' := [(x, .inr (3, [.ref b2, .ref pb, .ref n0, .ref nd])), (nd, .inr (2, [.ref b, .ref h, .ref rw4, .int (iI mn8), .int (iI sy)])), (rw4, .inl (cR5, M6, .inl (fun j => iI (V7 j)))), (h, .inr (1, [.int (iI kd9), .int (iI cs10), .int (iI tg11), .int (iI op12), .int (iI sz13), .int (iI ct14)])), (b, .inr (0, [.ref r15, .int (iI z2)])), (r15, .inl (cA16, w17, .inl (fun j => bI (t18 j)))), (b2, .inr (0, [.ref r2, .int (iI z2)])), (r2, .inl (cA2, w2, .inl (fun j => bI (t2 j))))]) [0, 1, 2, 3, 4, 5, 6, 7] (by decide) rfl
    have hK9 := hK.sub (tys' := [(cR5, .int), (cA16, .byte), (cA2, .byte)]) [0, 1, 2] rfl
    obtain ⟨sa, hstr⟩ := xs_s63 hX.2.1
    exact mx_thr (vx_throwS (own := RX3) (cls := "java/lang/UnsupportedOperationException") (text := "the tape is not just one value") (names := exN) (ik := 61) (is := 63) (ic := 65) (A := A) (mc := 0 + k1 + 1) (ms := 0 + n2 + 6) hx hb hl9 hown (by decide) (by decide) (hT _ wd374) (hT _ wd39) hstr (xa_UOE hT hX.2.1) xg_UOE hX.2.2.1 hX.2.2.2 hS (hl.1.trans hml.symm) dX3_read_15 dX3_read_18 dX3_read_19 dX3_read_21 dX3_read_24 (fun x hx9 => (ht9 x hx9).elim) (show 2 + 3 < 92 from by decide) (show 0 + (13 * (2 + 1) + 43) ≤ 2500 from by decide) (by show 0 + k1 + 1 ≤ (phR M + phB w + 6); omega) (by show 0 + n2 + 6 ≤ (phR M + phB w + 6); omega) hlocks (fun tS hv9 hz9 hq9 => ⟨(rw4, cR5, M6, V7, mn8, kd9, cs10, tg11, op12, sz13, ct14, r15, cA16, w17, t18, n0, nd, sy), ⟨⟨rfl, ⟨rfl, rfl, y1, y2, hokv3⟩⟩, by omega, by omega⟩, ⟨xs_P hP9 hq9, va_K.moved hv9 hK9, hD9⟩, xs_F hS hz9 hq9⟩) hS.2.2 (Nat.le_refl _) (Nat.le_refl _))
set_option maxHeartbeats 4000000 in
set_option maxRecDepth 100000 in
theorem c_R_node (l : Launch) (hl9 : l.stackTraces = false) (dC : Nat → ClassId) (dI : Nat → Nat → Nat) (sz : Nat) (x : Nat) (tb : Nat) (pb : Nat) (nd : Nat) (sp : Nat) (b : Nat) (h : Nat) (rw : Nat) (mn : Int) (sx : Int) (cR : ClassId) (M : Nat) (V : Nat → Int) (a : Int) (f : Int) (hoN : okN M V mn) (ha : -2147483648 ≤ a ∧ a < 2147483648) (hf : -2147483648 ≤ f ∧ f < 2147483648) : mx_Met l yX3_node wsX3_node ({ frames := 6, cells := 1, slots := 6, locals := 150 }) (va_Pc [.ref x, .int (iI a), .int (iI f)] (fun U => U.heap.size = sz ∧ va_P (dC, dI) vwCl [(x, .inr (3, [.ref tb, .ref pb, .ref nd, .ref sp])), (nd, .inr (2, [.ref b, .ref h, .ref rw, .int (iI mn), .int (iI sx)])), (rw, .inl (cR, M, .inl (fun j => iI (V j))))] U.heap ∧ va_K (dC, dI) vwCl [(cR, .int)] U ∧ va_D (fun _ => True) [(x, .inr (3, [.ref tb, .ref pb, .ref nd, .ref sp])), (nd, .inr (2, [.ref b, .ref h, .ref rw, .int (iI mn), .int (iI sx)])), (rw, .inl (cR, M, .inl (fun j => iI (V j))))] ∧ xsE (va_A [(x, .inr (3, [.ref tb, .ref pb, .ref nd, .ref sp])), (nd, .inr (2, [.ref b, .ref h, .ref rw, .int (iI mn), .int (iI sx)])), (rw, .inl (cR, M, .inl (fun j => iI (V j))))] sz) U)) (mv_Q (fun (v : Option Value) (_ : Unit) (k n : Nat) => v = some (.int (iI (V (a * 8 + f).toNat))) ∧ (0 ≤ a ∧ a < mn ∧ 0 ≤ f ∧ f < 8) ∧ k = 0 ∧ n = 0) (fun (_ : Unit) (tS : State) => va_P (dC, dI) vwCl [(x, .inr (3, [.ref tb, .ref pb, .ref nd, .ref sp])), (nd, .inr (2, [.ref b, .ref h, .ref rw, .int (iI mn), .int (iI sx)])), (rw, .inl (cR, M, .inl (fun j => iI (V j))))] tS.heap ∧ va_K (dC, dI) vwCl [(cR, .int)] tS ∧ va_D (va_A [(x, .inr (3, [.ref tb, .ref pb, .ref nd, .ref sp])), (nd, .inr (2, [.ref b, .ref h, .ref rw, .int (iI mn), .int (iI sx)])), (rw, .inl (cR, M, .inl (fun j => iI (V j))))] sz) [(x, .inr (3, [.ref tb, .ref pb, .ref nd, .ref sp])), (nd, .inr (2, [.ref b, .ref h, .ref rw, .int (iI mn), .int (iI sx)])), (rw, .inl (cR, M, .inl (fun j => iI (V j))))]) (va_A [(x, .inr (3, [.ref tb, .ref pb, .ref nd, .ref sp])), (nd, .inr (2, [.ref b, .ref h, .ref rw, .int (iI mn), .int (iI sx)])), (rw, .inl (cR, M, .inl (fun j => iI (V j))))] sz)) (mx_X (fun (E : String) (_ : Unit) (k n : Nat) => ((E = "java/lang/IllegalArgumentException" ∧ (a < 0 ∨ mn ≤ a ∨ f < 0 ∨ 8 ≤ f))) ∧ k ≤ 1 ∧ n ≤ 6) (fun (_ : Unit) (tS : State) => va_P (dC, dI) vwCl [(x, .inr (3, [.ref tb, .ref pb, .ref nd, .ref sp])), (nd, .inr (2, [.ref b, .ref h, .ref rw, .int (iI mn), .int (iI sx)])), (rw, .inl (cR, M, .inl (fun j => iI (V j))))] tS.heap ∧ va_K (dC, dI) vwCl [(cR, .int)] tS ∧ va_D (va_A [(x, .inr (3, [.ref tb, .ref pb, .ref nd, .ref sp])), (nd, .inr (2, [.ref b, .ref h, .ref rw, .int (iI mn), .int (iI sx)])), (rw, .inl (cR, M, .inl (fun j => iI (V j))))] sz) [(x, .inr (3, [.ref tb, .ref pb, .ref nd, .ref sp])), (nd, .inr (2, [.ref b, .ref h, .ref rw, .int (iI mn), .int (iI sx)])), (rw, .inl (cR, M, .inl (fun j => iI (V j))))]) (va_A [(x, .inr (3, [.ref tb, .ref pb, .ref nd, .ref sp])), (nd, .inr (2, [.ref b, .ref h, .ref rw, .int (iI mn), .int (iI sx)])), (rw, .inl (cR, M, .inl (fun j => iI (V j))))] sz)) (va_A [(x, .inr (3, [.ref tb, .ref pb, .ref nd, .ref sp])), (nd, .inr (2, [.ref b, .ref h, .ref rw, .int (iI mn), .int (iI sx)])), (rw, .inl (cR, M, .inl (fun j => iI (V j))))] sz) := by
  refine mx_ofW (cc := cX3_node) (maxL := 3) (ret := (some .int)) (by decide) rfl ?_
  intro p e s m args below meth c s₁ B hml ht9 hv
  obtain ⟨rfl, hsz, hP, hK, hD0, hX⟩ := hv
  have hx := B.exec
  have hb := B.bytes
  have hr := B.returns
  have hT : ∀ w ∈ wT, w.before _ s = true := fun w h => atoms_spec (ws := wsX3_node) B.pre w (List.mem_cons_of_mem _ h)
  have hown : s.vm.findClass RX3 = some m.cls := findClass_of_methodNamed B.named
  have hlocks := B.notSynchronized
  subst hsz
  have hD := hD0.self (sz := s.heap.size)
  generalize hAe : va_A [(x, .inr (3, [.ref tb, .ref pb, .ref nd, .ref sp])), (nd, .inr (2, [.ref b, .ref h, .ref rw, .int (iI mn), .int (iI sx)])), (rw, .inl (cR, M, .inl (fun j => iI (V j))))] s.heap.size = A at hD hX ⊢
  have hA : ∀ q : Nat, s.heap.size ≤ q → A q := fun q h => by rw [← hAe]; exact Or.inr h
  have hS : va_S A s.heap s.heap [] := va_S.rf
  have hP : va_P (dC, dI) vwCl [(x, .inr (3, [.ref tb, .ref pb, .ref nd, .ref sp])), (nd, .inr (2, [.ref b, .ref h, .ref rw, .int (iI mn), .int (iI sx)])), (rw, .inl (cR, M, .inl (fun j => iI (V j))))] s.heap := hP
  have hl := lv_entry ([.ref x, .int (iI a), .int (iI f)]) (n := 3) (Nat.le_of_ble_eq_true rfl)
  rw [lg_entry_eq]
  generalize (lg_sl ([.ref x, .int (iI a), .int (iI f)]) ++ List.replicate (3 - (lg_sl ([.ref x, .int (iI a), .int (iI f)])).length) Slot.unset).toArray = ls at hl ⊢
  have hl : lv_has ls 3 [(0, .ref x), (1, .int (iI a)), (2, .int (iI f))] := hl
  have hN := hX.1
  obtain ⟨hn1, hn2, hn3, hn4, hn5, hn6, hn7⟩ := id hoN
  refine lv_aload_n hx hb dX3_node_0 rfl (lv_at hl 0 rfl) ?_
  refine va_get (D := (dC, dI)) (ci := 3) (v := .ref nd) (C := RX3) (T := TX3) (N := 4) hx hb hT inX3 hown hK hP 0 rfl rfl 2 (by decide) (hT _ wd122) (fun _ h9 => h9) rfl dX3_node_1 ?_
  refine lv_iload_n hx hb dX3_node_4 rfl (lv_at hl 1 rfl) ?_
  have hPc := hP.sub (ws' := [(nd, .inr (2, [.ref b, .ref h, .ref rw, .int (iI mn), .int (iI sx)]))]) [1] rfl
  have hDc := hD.sub (ws' := [(nd, .inr (2, [.ref b, .ref h, .ref rw, .int (iI mn), .int (iI sx)]))]) [1] (by decide) rfl
  have hKc := hK.sub (tys' := []) [] rfl
  have hFc := va_free (wc := [(nd, .inr (2, [.ref b, .ref h, .ref rw, .int (iI mn), .int (iI sx)]))]) hD hS hA [1] rfl
  refine mv_call (mv_runV (As := [.int (iI a)]) (rest := []) ⟨hx, hb, hml, hown, hT⟩ (c_N_has l dC dI s.heap.size nd b h rw mn sx a (by omega) (by omega)) (cwV 1 hT (gV wd401 wd358 wd359 wd28 wd360) rfl rfl rfl (by decide +kernel) ⟨show 0 + 1 ≤ 6 from by omega, show 8 + (2 + 11) + 0 ≤ 150 from by omega⟩) ⟨fun a U g mk q => by obtain ⟨q0, q1, qP, qK, qD⟩ := q; exact ⟨q0, q1, qP, va_K.moved (u := U) (U := U.calling g mk a) (Vm.Alike.refl U.vm) qK, qD⟩, va_recv hKc hPc (ci := 2) (q0 := 0) rfl rfl, fun U hU hW => ⟨rfl, by rw [hU], by rw [hU]; exact hPc, va_K.moved hW.alike hKc, hDc.weaken (fun _ _ _ _ => trivial)⟩⟩ rfl rfl hl.1 rfl (lv_room (Nat.le_of_ble_eq_true rfl)) dX3_node_5 ⟨show 0 + 0 ≤ 1 from by omega, show 0 + 0 ≤ 6 from by omega⟩) hS (fun q _ h => hFc q h) hFc (fun v3 u k1 n2 tS H1 locs ht hvm hw hB hz1 hk1 hS => ?_)
  obtain ⟨q4, rfl⟩ : ∃ y, y = u := ⟨_, rfl⟩
  obtain ⟨hP1, hK1, hD1⟩ := hB
  rw [ht] at hP1
  have hK1 := va_K.moved hvm.symm hK1
  try dsimp only at hw
  obtain ⟨hP, hD⟩ := va_join (wr := [(x, .inr (3, [.ref tb, .ref pb, .ref nd, .ref sp])), (rw, .inl (cR, M, .inl (fun j => iI (V j))))]) (w1 := [(nd, .inr (2, [.ref b, .ref h, .ref rw, .int (iI mn), .int (iI sx)]))]) hP hD [1] [0, 2] rfl rfl (by decide) (by decide) hk1 hFc hP1 hD1
  have hK := (hK.sub (tys' := [(cR, .int)]) [0] rfl).app hK1
  generalize H1 = H at hP hS ⊢
  have hP : va_P (dC, dI) vwCl [(x, .inr (3, [.ref tb, .ref pb, .ref nd, .ref sp])), (rw, .inl (cR, M, .inl (fun j => iI (V j)))), (nd, .inr (2, [.ref b, .ref h, .ref rw, .int (iI mn), .int (iI sx)]))] H := hP
  have hD : va_D A [(x, .inr (3, [.ref tb, .ref pb, .ref nd, .ref sp])), (rw, .inl (cR, M, .inl (fun j => iI (V j)))), (nd, .inr (2, [.ref b, .ref h, .ref rw, .int (iI mn), .int (iI sx)]))] := hD
  have hK : va_K (dC, dI) vwCl [(cR, .int)] s := hK
  obtain ⟨rfl, hqv3, rfl, rfl⟩ := hw
  refine W.eq (g2 := F0 m 8 ls [.int (iI q4)]) rfl ?_
  refine li_if_ne (tgt := 21) hx hb (by omega) dX3_node_8 (by decide) (fun c5 => ?_) (fun c5 => ?_)
  · skip
    refine lv_iload_n hx hb dX3_node_21 rfl (lv_at hl 2 rfl) ?_
    refine li_if_lt (tgt := 31) hx hb (by omega) dX3_node_22 (by decide) (fun c6 => ?_) (fun c6 => ?_)
    · skip
      have hP9 := hP.sub (ws' := [(x, .inr (3, [.ref tb, .ref pb, .ref nd, .ref sp])), (nd, .inr (2, [.ref b, .ref h, .ref rw, .int (iI mn), .int (iI sx)])), (rw, .inl (cR, M, .inl (fun j => iI (V j))))]) [0, 2, 1] rfl
      have hD9 := hD.sub (ws' := [(x, .inr (3, [.ref tb, .ref pb, .ref nd, .ref sp])), (nd, .inr (2, [.ref b, .ref h, .ref rw, .int (iI mn), .int (iI sx)])), (rw, .inl (cR, M, .inl (fun j => iI (V j))))]) [0, 2, 1] (by decide) rfl
      have hK9 := hK.sub (tys' := [(cR, .int)]) [0] rfl
      obtain ⟨sa, hstr⟩ := xs_s72 hX.2.1
      exact mx_thr (vx_throwS (own := RX3) (cls := "java/lang/IllegalArgumentException") (text := "what is 0 to 7") (names := exN) (ik := 48) (is := 72) (ic := 52) (A := A) (mc := 0 + 0 + 1) (ms := 0 + 0 + 6) hx hb hl9 hown (by decide) (by decide) (hT _ wd262) (hT _ wd38) hstr (xa_IAE hT hX.2.1) xg_IAE hX.2.2.1 hX.2.2.2 hS (hl.1.trans hml.symm) dX3_node_31 dX3_node_34 dX3_node_35 dX3_node_37 dX3_node_40 (fun x hx9 => (ht9 x hx9).elim) (show 2 + 3 < 6 from by decide) (show 0 + (13 * (2 + 1) + 43) ≤ 150 from by decide) (by show 0 + 0 + 1 ≤ 1; omega) (by show 0 + 0 + 6 ≤ 6; omega) hlocks (fun tS hv9 hz9 hq9 => ⟨(), ⟨⟨rfl, by omega⟩, by omega, by omega⟩, ⟨xs_P hP9 hq9, va_K.moved hv9 hK9, hD9⟩, xs_F hS hz9 hq9⟩) hS.2.2 (Nat.le_refl _) (Nat.le_refl _))
    · skip
      refine lv_iload_n hx hb dX3_node_25 rfl (lv_at hl 2 rfl) ?_
      refine lv_bipush (v := iI 8) hx hb dX3_node_26 (by decide +kernel) ?_
      refine li_icmp_lt (tgt := 41) hx hb (by omega) (by omega) dX3_node_28 (by decide) (fun c7 => ?_) (fun c7 => ?_)
      · skip
        refine lv_aload_n hx hb dX3_node_41 rfl (lv_at hl 0 rfl) ?_
        refine va_get (D := (dC, dI)) (ci := 3) (v := .ref nd) (C := RX3) (T := TX3) (N := 4) hx hb hT inX3 hown hK hP 0 rfl rfl 2 (by decide) (hT _ wd122) (fun _ h9 => h9) rfl dX3_node_42 ?_
        refine lv_iload_n hx hb dX3_node_45 rfl (lv_at hl 1 rfl) ?_
        refine lv_iload_n hx hb dX3_node_46 rfl (lv_at hl 2 rfl) ?_
        have hPc := hP.sub (ws' := [(nd, .inr (2, [.ref b, .ref h, .ref rw, .int (iI mn), .int (iI sx)])), (rw, .inl (cR, M, .inl (fun j => iI (V j))))]) [2, 1] rfl
        have hDc := hD.sub (ws' := [(nd, .inr (2, [.ref b, .ref h, .ref rw, .int (iI mn), .int (iI sx)])), (rw, .inl (cR, M, .inl (fun j => iI (V j))))]) [2, 1] (by decide) rfl
        have hKc := hK.sub (tys' := [(cR, .int)]) [0] rfl
        have hFc := va_free (wc := [(nd, .inr (2, [.ref b, .ref h, .ref rw, .int (iI mn), .int (iI sx)])), (rw, .inl (cR, M, .inl (fun j => iI (V j))))]) hD hS hA [2, 1] rfl
        refine mv_call (mv_runV (As := [.int (iI a), .int (iI f)]) (rest := []) ⟨hx, hb, hml, hown, hT⟩ (c_N_get l dC dI H.size nd b h rw mn sx cR M V a f (by omega) (by omega) (by omega) (hn6) (by omega) (by omega)) (cwV 2 hT (gV wd404 wd362 wd363 wd28 wd364) rfl rfl rfl (by decide +kernel) ⟨show 2 + 1 ≤ 6 from by omega, show 8 + (4 + 11) + 70 ≤ 150 from by omega⟩) ⟨fun a U g mk q => by obtain ⟨q0, q1, qP, qK, qD⟩ := q; exact ⟨q0, q1, qP, va_K.moved (u := U) (U := U.calling g mk a) (Vm.Alike.refl U.vm) qK, qD⟩, va_recv hKc hPc (ci := 2) (q0 := 0) rfl rfl, fun U hU hW => ⟨rfl, by rw [hU], by rw [hU]; exact hPc, va_K.moved hW.alike hKc, hDc.weaken (fun _ _ _ _ => trivial)⟩⟩ rfl rfl hl.1 rfl (lv_room (Nat.le_of_ble_eq_true rfl)) dX3_node_47 ⟨show 0 + 0 + 0 ≤ 1 from by omega, show 0 + 0 + 0 ≤ 6 from by omega⟩) hS (fun q _ h => hFc q h) hFc (fun v10 u k8 n9 tS H1 locs ht hvm hw hB hz1 hk1 hS => ?_)
        obtain ⟨q11, rfl⟩ : ∃ y, y = u := ⟨_, rfl⟩
        obtain ⟨hP1, hK1, hD1⟩ := hB
        rw [ht] at hP1
        have hK1 := va_K.moved hvm.symm hK1
        try dsimp only at hw
        obtain ⟨hP, hD⟩ := va_join (wr := [(x, .inr (3, [.ref tb, .ref pb, .ref nd, .ref sp]))]) (w1 := [(nd, .inr (2, [.ref b, .ref h, .ref rw, .int (iI mn), .int (iI sx)])), (rw, .inl (cR, M, .inl (fun j => iI (V j))))]) hP hD [2, 1] [0] rfl rfl (by decide) (by decide) hk1 hFc hP1 hD1
        have hK := (hK.sub (tys' := []) [] rfl).app hK1
        generalize H1 = H at hP hS ⊢
        have hP : va_P (dC, dI) vwCl [(x, .inr (3, [.ref tb, .ref pb, .ref nd, .ref sp])), (nd, .inr (2, [.ref b, .ref h, .ref rw, .int (iI mn), .int (iI sx)])), (rw, .inl (cR, M, .inl (fun j => iI (V j))))] H := hP
        have hD : va_D A [(x, .inr (3, [.ref tb, .ref pb, .ref nd, .ref sp])), (nd, .inr (2, [.ref b, .ref h, .ref rw, .int (iI mn), .int (iI sx)])), (rw, .inl (cR, M, .inl (fun j => iI (V j))))] := hD
        have hK : va_K (dC, dI) vwCl [(cR, .int)] s := hK
        obtain ⟨rfl, hqv10, hrv10, rfl, rfl⟩ := hw
        refine W.eq (g2 := F0 m 50 ls [.int (iI q11)]) rfl ?_
        have hP9 := hP.sub (ws' := [(x, .inr (3, [.ref tb, .ref pb, .ref nd, .ref sp])), (nd, .inr (2, [.ref b, .ref h, .ref rw, .int (iI mn), .int (iI sx)])), (rw, .inl (cR, M, .inl (fun j => iI (V j))))]) [0, 1, 2] rfl
        have hD9 := hD.sub (ws' := [(x, .inr (3, [.ref tb, .ref pb, .ref nd, .ref sp])), (nd, .inr (2, [.ref b, .ref h, .ref rw, .int (iI mn), .int (iI sx)])), (rw, .inl (cR, M, .inl (fun j => iI (V j))))]) [0, 1, 2] (by decide) rfl
        have hK9 := hK.sub (tys' := [(cR, .int)]) [0] rfl
        exact mx_ret (mv_iret hx hb hr hlocks (fun tS ht hW => ⟨⟨_, (), rfl, ⟨sI (by omega), by omega, by omega, by omega⟩, by rw [ht]; exact hP9, va_K.moved hW.alike hK9, hD9⟩, hS.F ht⟩) hS.2.2 dX3_node_50)
      · skip
        have hP9 := hP.sub (ws' := [(x, .inr (3, [.ref tb, .ref pb, .ref nd, .ref sp])), (nd, .inr (2, [.ref b, .ref h, .ref rw, .int (iI mn), .int (iI sx)])), (rw, .inl (cR, M, .inl (fun j => iI (V j))))]) [0, 2, 1] rfl
        have hD9 := hD.sub (ws' := [(x, .inr (3, [.ref tb, .ref pb, .ref nd, .ref sp])), (nd, .inr (2, [.ref b, .ref h, .ref rw, .int (iI mn), .int (iI sx)])), (rw, .inl (cR, M, .inl (fun j => iI (V j))))]) [0, 2, 1] (by decide) rfl
        have hK9 := hK.sub (tys' := [(cR, .int)]) [0] rfl
        obtain ⟨sa, hstr⟩ := xs_s72 hX.2.1
        exact mx_thr (vx_throwS (own := RX3) (cls := "java/lang/IllegalArgumentException") (text := "what is 0 to 7") (names := exN) (ik := 48) (is := 72) (ic := 52) (A := A) (mc := 0 + 0 + 1) (ms := 0 + 0 + 6) hx hb hl9 hown (by decide) (by decide) (hT _ wd262) (hT _ wd38) hstr (xa_IAE hT hX.2.1) xg_IAE hX.2.2.1 hX.2.2.2 hS (hl.1.trans hml.symm) dX3_node_31 dX3_node_34 dX3_node_35 dX3_node_37 dX3_node_40 (fun x hx9 => (ht9 x hx9).elim) (show 2 + 3 < 6 from by decide) (show 0 + (13 * (2 + 1) + 43) ≤ 150 from by decide) (by show 0 + 0 + 1 ≤ 1; omega) (by show 0 + 0 + 6 ≤ 6; omega) hlocks (fun tS hv9 hz9 hq9 => ⟨(), ⟨⟨rfl, by omega⟩, by omega, by omega⟩, ⟨xs_P hP9 hq9, va_K.moved hv9 hK9, hD9⟩, xs_F hS hz9 hq9⟩) hS.2.2 (Nat.le_refl _) (Nat.le_refl _))
  · skip
    have hP9 := hP.sub (ws' := [(x, .inr (3, [.ref tb, .ref pb, .ref nd, .ref sp])), (nd, .inr (2, [.ref b, .ref h, .ref rw, .int (iI mn), .int (iI sx)])), (rw, .inl (cR, M, .inl (fun j => iI (V j))))]) [0, 2, 1] rfl
    have hD9 := hD.sub (ws' := [(x, .inr (3, [.ref tb, .ref pb, .ref nd, .ref sp])), (nd, .inr (2, [.ref b, .ref h, .ref rw, .int (iI mn), .int (iI sx)])), (rw, .inl (cR, M, .inl (fun j => iI (V j))))]) [0, 2, 1] (by decide) rfl
    have hK9 := hK.sub (tys' := [(cR, .int)]) [0] rfl
    obtain ⟨sa, hstr⟩ := xs_s70 hX.2.1
    exact mx_thr (vx_throwS (own := RX3) (cls := "java/lang/IllegalArgumentException") (text := "there is no such node") (names := exN) (ik := 48) (is := 70) (ic := 52) (A := A) (mc := 0 + 0 + 1) (ms := 0 + 0 + 6) hx hb hl9 hown (by decide) (by decide) (hT _ wd262) (hT _ wd38) hstr (xa_IAE hT hX.2.1) xg_IAE hX.2.2.1 hX.2.2.2 hS (hl.1.trans hml.symm) dX3_node_11 dX3_node_14 dX3_node_15 dX3_node_17 dX3_node_20 (fun x hx9 => (ht9 x hx9).elim) (show 2 + 3 < 6 from by decide) (show 0 + (13 * (2 + 1) + 43) ≤ 150 from by decide) (by show 0 + 0 + 1 ≤ 1; omega) (by show 0 + 0 + 6 ≤ 6; omega) hlocks (fun tS hv9 hz9 hq9 => ⟨(), ⟨⟨rfl, by omega⟩, by omega, by omega⟩, ⟨xs_P hP9 hq9, va_K.moved hv9 hK9, hD9⟩, xs_F hS hz9 hq9⟩) hS.2.2 (Nat.le_refl _) (Nat.le_refl _))
set_option maxHeartbeats 4000000 in
set_option maxRecDepth 100000 in
theorem c_R_number (l : Launch) (hl9 : l.stackTraces = false) (dC : Nat → ClassId) (dI : Nat → Nat → Nat) (sz : Nat) (x : Nat) (tb : Nat) (pb : Nat) (nd : Nat) (sp : Nat) (b : Nat) (h : Nat) (rw : Nat) (mn : Int) (sx : Int) (cR : ClassId) (M : Nat) (V : Nat → Int) (r : Nat) (cA : ClassId) (w : Nat) (t : Nat → Int) (z : Int) (L : List Int) (a : Int) (hoN : okN M V mn) (hok : okB w t z L) (ha : -2147483648 ≤ a ∧ a < 2147483648) : mx_Met l yX3_number wsX3_number ({ frames := 8, cells := 1, slots := 6, locals := 250 }) (va_Pc [.ref x, .int (iI a)] (fun U => U.heap.size = sz ∧ va_P (dC, dI) vwCl [(x, .inr (3, [.ref tb, .ref pb, .ref nd, .ref sp])), (nd, .inr (2, [.ref b, .ref h, .ref rw, .int (iI mn), .int (iI sx)])), (rw, .inl (cR, M, .inl (fun j => iI (V j)))), (b, .inr (0, [.ref r, .int (iI z)])), (r, .inl (cA, w, .inl (fun j => bI (t j))))] U.heap ∧ va_K (dC, dI) vwCl [(cR, .int), (cA, .byte)] U ∧ va_D (fun _ => True) [(x, .inr (3, [.ref tb, .ref pb, .ref nd, .ref sp])), (nd, .inr (2, [.ref b, .ref h, .ref rw, .int (iI mn), .int (iI sx)])), (rw, .inl (cR, M, .inl (fun j => iI (V j)))), (b, .inr (0, [.ref r, .int (iI z)])), (r, .inl (cA, w, .inl (fun j => bI (t j))))] ∧ xsE (va_A [(x, .inr (3, [.ref tb, .ref pb, .ref nd, .ref sp])), (nd, .inr (2, [.ref b, .ref h, .ref rw, .int (iI mn), .int (iI sx)])), (rw, .inl (cR, M, .inl (fun j => iI (V j)))), (b, .inr (0, [.ref r, .int (iI z)])), (r, .inl (cA, w, .inl (fun j => bI (t j))))] sz) U)) (mv_Q (fun (v : Option Value) (_ : Unit) (k n : Nat) => v = some (.long (lI (sgn L V a))) ∧ (0 ≤ a ∧ a < mn ∧ ¬ V (a * 8 + 2).toNat = 1 ∧ hnum L V a) ∧ k = 0 ∧ n = 0) (fun (_ : Unit) (tS : State) => va_P (dC, dI) vwCl [(x, .inr (3, [.ref tb, .ref pb, .ref nd, .ref sp])), (nd, .inr (2, [.ref b, .ref h, .ref rw, .int (iI mn), .int (iI sx)])), (rw, .inl (cR, M, .inl (fun j => iI (V j)))), (b, .inr (0, [.ref r, .int (iI z)])), (r, .inl (cA, w, .inl (fun j => bI (t j))))] tS.heap ∧ va_K (dC, dI) vwCl [(cR, .int), (cA, .byte)] tS ∧ va_D (va_A [(x, .inr (3, [.ref tb, .ref pb, .ref nd, .ref sp])), (nd, .inr (2, [.ref b, .ref h, .ref rw, .int (iI mn), .int (iI sx)])), (rw, .inl (cR, M, .inl (fun j => iI (V j)))), (b, .inr (0, [.ref r, .int (iI z)])), (r, .inl (cA, w, .inl (fun j => bI (t j))))] sz) [(x, .inr (3, [.ref tb, .ref pb, .ref nd, .ref sp])), (nd, .inr (2, [.ref b, .ref h, .ref rw, .int (iI mn), .int (iI sx)])), (rw, .inl (cR, M, .inl (fun j => iI (V j)))), (b, .inr (0, [.ref r, .int (iI z)])), (r, .inl (cA, w, .inl (fun j => bI (t j))))]) (va_A [(x, .inr (3, [.ref tb, .ref pb, .ref nd, .ref sp])), (nd, .inr (2, [.ref b, .ref h, .ref rw, .int (iI mn), .int (iI sx)])), (rw, .inl (cR, M, .inl (fun j => iI (V j)))), (b, .inr (0, [.ref r, .int (iI z)])), (r, .inl (cA, w, .inl (fun j => bI (t j))))] sz)) (mx_X (fun (E : String) (_ : Unit) (k n : Nat) => ((E = "java/lang/IllegalArgumentException" ∧ (a < 0 ∨ mn ≤ a)) ∨ (E = "java/lang/UnsupportedOperationException" ∧ (0 ≤ a ∧ a < mn ∧ V (a * 8 + 2).toNat = 1)) ∨ (E = "java/lang/ArithmeticException" ∧ (0 ≤ a ∧ a < mn ∧ ¬ V (a * 8 + 2).toNat = 1 ∧ ¬ hnum L V a))) ∧ k ≤ 1 ∧ n ≤ 6) (fun (_ : Unit) (tS : State) => va_P (dC, dI) vwCl [(x, .inr (3, [.ref tb, .ref pb, .ref nd, .ref sp])), (nd, .inr (2, [.ref b, .ref h, .ref rw, .int (iI mn), .int (iI sx)])), (rw, .inl (cR, M, .inl (fun j => iI (V j)))), (b, .inr (0, [.ref r, .int (iI z)])), (r, .inl (cA, w, .inl (fun j => bI (t j))))] tS.heap ∧ va_K (dC, dI) vwCl [(cR, .int), (cA, .byte)] tS ∧ va_D (va_A [(x, .inr (3, [.ref tb, .ref pb, .ref nd, .ref sp])), (nd, .inr (2, [.ref b, .ref h, .ref rw, .int (iI mn), .int (iI sx)])), (rw, .inl (cR, M, .inl (fun j => iI (V j)))), (b, .inr (0, [.ref r, .int (iI z)])), (r, .inl (cA, w, .inl (fun j => bI (t j))))] sz) [(x, .inr (3, [.ref tb, .ref pb, .ref nd, .ref sp])), (nd, .inr (2, [.ref b, .ref h, .ref rw, .int (iI mn), .int (iI sx)])), (rw, .inl (cR, M, .inl (fun j => iI (V j)))), (b, .inr (0, [.ref r, .int (iI z)])), (r, .inl (cA, w, .inl (fun j => bI (t j))))]) (va_A [(x, .inr (3, [.ref tb, .ref pb, .ref nd, .ref sp])), (nd, .inr (2, [.ref b, .ref h, .ref rw, .int (iI mn), .int (iI sx)])), (rw, .inl (cR, M, .inl (fun j => iI (V j)))), (b, .inr (0, [.ref r, .int (iI z)])), (r, .inl (cA, w, .inl (fun j => bI (t j))))] sz)) (va_A [(x, .inr (3, [.ref tb, .ref pb, .ref nd, .ref sp])), (nd, .inr (2, [.ref b, .ref h, .ref rw, .int (iI mn), .int (iI sx)])), (rw, .inl (cR, M, .inl (fun j => iI (V j)))), (b, .inr (0, [.ref r, .int (iI z)])), (r, .inl (cA, w, .inl (fun j => bI (t j))))] sz) := by
  refine mx_ofW (cc := cX3_number) (maxL := 2) (ret := (some .long)) (by decide) rfl ?_
  intro p e s m args below meth c s₁ B hml ht9 hv
  obtain ⟨rfl, hsz, hP, hK, hD0, hX⟩ := hv
  have hx := B.exec
  have hb := B.bytes
  have hr := B.returns
  have hT : ∀ w ∈ wT, w.before _ s = true := fun w h => atoms_spec (ws := wsX3_number) B.pre w (List.mem_cons_of_mem _ h)
  have hown : s.vm.findClass RX3 = some m.cls := findClass_of_methodNamed B.named
  have hlocks := B.notSynchronized
  subst hsz
  have hD := hD0.self (sz := s.heap.size)
  generalize hAe : va_A [(x, .inr (3, [.ref tb, .ref pb, .ref nd, .ref sp])), (nd, .inr (2, [.ref b, .ref h, .ref rw, .int (iI mn), .int (iI sx)])), (rw, .inl (cR, M, .inl (fun j => iI (V j)))), (b, .inr (0, [.ref r, .int (iI z)])), (r, .inl (cA, w, .inl (fun j => bI (t j))))] s.heap.size = A at hD hX ⊢
  have hA : ∀ q : Nat, s.heap.size ≤ q → A q := fun q h => by rw [← hAe]; exact Or.inr h
  have hS : va_S A s.heap s.heap [] := va_S.rf
  have hP : va_P (dC, dI) vwCl [(x, .inr (3, [.ref tb, .ref pb, .ref nd, .ref sp])), (nd, .inr (2, [.ref b, .ref h, .ref rw, .int (iI mn), .int (iI sx)])), (rw, .inl (cR, M, .inl (fun j => iI (V j)))), (b, .inr (0, [.ref r, .int (iI z)])), (r, .inl (cA, w, .inl (fun j => bI (t j))))] s.heap := hP
  have hl := lv_entry ([.ref x, .int (iI a)]) (n := 2) (Nat.le_of_ble_eq_true rfl)
  rw [lg_entry_eq]
  generalize (lg_sl ([.ref x, .int (iI a)]) ++ List.replicate (2 - (lg_sl ([.ref x, .int (iI a)])).length) Slot.unset).toArray = ls at hl ⊢
  have hl : lv_has ls 2 [(0, .ref x), (1, .int (iI a))] := hl
  have hN := hX.1
  obtain ⟨hn1, hn2, hn3, hn4, hn5, hn6, hn7⟩ := id hoN
  refine lv_aload_n hx hb dX3_number_0 rfl (lv_at hl 0 rfl) ?_
  refine va_get (D := (dC, dI)) (ci := 3) (v := .ref nd) (C := RX3) (T := TX3) (N := 4) hx hb hT inX3 hown hK hP 0 rfl rfl 2 (by decide) (hT _ wd122) (fun _ h9 => h9) rfl dX3_number_1 ?_
  refine lv_iload_n hx hb dX3_number_4 rfl (lv_at hl 1 rfl) ?_
  have hPc := hP.sub (ws' := [(nd, .inr (2, [.ref b, .ref h, .ref rw, .int (iI mn), .int (iI sx)]))]) [1] rfl
  have hDc := hD.sub (ws' := [(nd, .inr (2, [.ref b, .ref h, .ref rw, .int (iI mn), .int (iI sx)]))]) [1] (by decide) rfl
  have hKc := hK.sub (tys' := []) [] rfl
  have hFc := va_free (wc := [(nd, .inr (2, [.ref b, .ref h, .ref rw, .int (iI mn), .int (iI sx)]))]) hD hS hA [1] rfl
  refine mv_call (mv_runV (As := [.int (iI a)]) (rest := []) ⟨hx, hb, hml, hown, hT⟩ (c_N_has l dC dI s.heap.size nd b h rw mn sx a (by omega) (by omega)) (cwV 1 hT (gV wd401 wd358 wd359 wd28 wd360) rfl rfl rfl (by decide +kernel) ⟨show 0 + 1 ≤ 8 from by omega, show 8 + (2 + 11) + 0 ≤ 250 from by omega⟩) ⟨fun a U g mk q => by obtain ⟨q0, q1, qP, qK, qD⟩ := q; exact ⟨q0, q1, qP, va_K.moved (u := U) (U := U.calling g mk a) (Vm.Alike.refl U.vm) qK, qD⟩, va_recv hKc hPc (ci := 2) (q0 := 0) rfl rfl, fun U hU hW => ⟨rfl, by rw [hU], by rw [hU]; exact hPc, va_K.moved hW.alike hKc, hDc.weaken (fun _ _ _ _ => trivial)⟩⟩ rfl rfl hl.1 rfl (lv_room (Nat.le_of_ble_eq_true rfl)) dX3_number_5 ⟨show 0 + 0 ≤ 1 from by omega, show 0 + 0 ≤ 6 from by omega⟩) hS (fun q _ h => hFc q h) hFc (fun v3 u k1 n2 tS H1 locs ht hvm hw hB hz1 hk1 hS => ?_)
  obtain ⟨q4, rfl⟩ : ∃ y, y = u := ⟨_, rfl⟩
  obtain ⟨hP1, hK1, hD1⟩ := hB
  rw [ht] at hP1
  have hK1 := va_K.moved hvm.symm hK1
  try dsimp only at hw
  obtain ⟨hP, hD⟩ := va_join (wr := [(x, .inr (3, [.ref tb, .ref pb, .ref nd, .ref sp])), (rw, .inl (cR, M, .inl (fun j => iI (V j)))), (b, .inr (0, [.ref r, .int (iI z)])), (r, .inl (cA, w, .inl (fun j => bI (t j))))]) (w1 := [(nd, .inr (2, [.ref b, .ref h, .ref rw, .int (iI mn), .int (iI sx)]))]) hP hD [1] [0, 2, 3, 4] rfl rfl (by decide) (by decide) hk1 hFc hP1 hD1
  have hK := (hK.sub (tys' := [(cR, .int), (cA, .byte)]) [0, 1] rfl).app hK1
  generalize H1 = H at hP hS ⊢
  have hP : va_P (dC, dI) vwCl [(x, .inr (3, [.ref tb, .ref pb, .ref nd, .ref sp])), (rw, .inl (cR, M, .inl (fun j => iI (V j)))), (b, .inr (0, [.ref r, .int (iI z)])), (r, .inl (cA, w, .inl (fun j => bI (t j)))), (nd, .inr (2, [.ref b, .ref h, .ref rw, .int (iI mn), .int (iI sx)]))] H := hP
  have hD : va_D A [(x, .inr (3, [.ref tb, .ref pb, .ref nd, .ref sp])), (rw, .inl (cR, M, .inl (fun j => iI (V j)))), (b, .inr (0, [.ref r, .int (iI z)])), (r, .inl (cA, w, .inl (fun j => bI (t j)))), (nd, .inr (2, [.ref b, .ref h, .ref rw, .int (iI mn), .int (iI sx)]))] := hD
  have hK : va_K (dC, dI) vwCl [(cR, .int), (cA, .byte)] s := hK
  obtain ⟨rfl, hqv3, rfl, rfl⟩ := hw
  refine W.eq (g2 := F0 m 8 ls [.int (iI q4)]) rfl ?_
  refine li_if_ne (tgt := 21) hx hb (by omega) dX3_number_8 (by decide) (fun c5 => ?_) (fun c5 => ?_)
  · skip
    refine lv_aload_n hx hb dX3_number_21 rfl (lv_at hl 0 rfl) ?_
    refine va_get (D := (dC, dI)) (ci := 3) (v := .ref nd) (C := RX3) (T := TX3) (N := 4) hx hb hT inX3 hown hK hP 0 rfl rfl 2 (by decide) (hT _ wd122) (fun _ h9 => h9) rfl dX3_number_22 ?_
    refine lv_iload_n hx hb dX3_number_25 rfl (lv_at hl 1 rfl) ?_
    refine lv_iconst (v := iI 2) hx hb dX3_number_26 rfl ?_
    have hPc := hP.sub (ws' := [(nd, .inr (2, [.ref b, .ref h, .ref rw, .int (iI mn), .int (iI sx)])), (rw, .inl (cR, M, .inl (fun j => iI (V j))))]) [4, 1] rfl
    have hDc := hD.sub (ws' := [(nd, .inr (2, [.ref b, .ref h, .ref rw, .int (iI mn), .int (iI sx)])), (rw, .inl (cR, M, .inl (fun j => iI (V j))))]) [4, 1] (by decide) rfl
    have hKc := hK.sub (tys' := [(cR, .int)]) [0] rfl
    have hFc := va_free (wc := [(nd, .inr (2, [.ref b, .ref h, .ref rw, .int (iI mn), .int (iI sx)])), (rw, .inl (cR, M, .inl (fun j => iI (V j))))]) hD hS hA [4, 1] rfl
    refine mv_call (mv_runV (As := [.int (iI a), .int (iI 2)]) (rest := []) ⟨hx, hb, hml, hown, hT⟩ (c_N_get l dC dI H.size nd b h rw mn sx cR M V a 2 (by omega) (by omega) (by omega) (hn6) (by omega) (by omega)) (cwV 2 hT (gV wd404 wd362 wd363 wd28 wd364) rfl rfl rfl (by decide +kernel) ⟨show 2 + 1 ≤ 8 from by omega, show 8 + (4 + 11) + 70 ≤ 250 from by omega⟩) ⟨fun a U g mk q => by obtain ⟨q0, q1, qP, qK, qD⟩ := q; exact ⟨q0, q1, qP, va_K.moved (u := U) (U := U.calling g mk a) (Vm.Alike.refl U.vm) qK, qD⟩, va_recv hKc hPc (ci := 2) (q0 := 0) rfl rfl, fun U hU hW => ⟨rfl, by rw [hU], by rw [hU]; exact hPc, va_K.moved hW.alike hKc, hDc.weaken (fun _ _ _ _ => trivial)⟩⟩ rfl rfl hl.1 rfl (lv_room (Nat.le_of_ble_eq_true rfl)) dX3_number_27 ⟨show 0 + 0 + 0 ≤ 1 from by omega, show 0 + 0 + 0 ≤ 6 from by omega⟩) hS (fun q _ h => hFc q h) hFc (fun v8 u k6 n7 tS H1 locs ht hvm hw hB hz1 hk1 hS => ?_)
    obtain ⟨q9, rfl⟩ : ∃ y, y = u := ⟨_, rfl⟩
    obtain ⟨hP1, hK1, hD1⟩ := hB
    rw [ht] at hP1
    have hK1 := va_K.moved hvm.symm hK1
    try dsimp only at hw
    obtain ⟨hP, hD⟩ := va_join (wr := [(x, .inr (3, [.ref tb, .ref pb, .ref nd, .ref sp])), (b, .inr (0, [.ref r, .int (iI z)])), (r, .inl (cA, w, .inl (fun j => bI (t j))))]) (w1 := [(nd, .inr (2, [.ref b, .ref h, .ref rw, .int (iI mn), .int (iI sx)])), (rw, .inl (cR, M, .inl (fun j => iI (V j))))]) hP hD [4, 1] [0, 2, 3] rfl rfl (by decide) (by decide) hk1 hFc hP1 hD1
    have hK := (hK.sub (tys' := [(cA, .byte)]) [1] rfl).app hK1
    generalize H1 = H at hP hS ⊢
    have hP : va_P (dC, dI) vwCl [(x, .inr (3, [.ref tb, .ref pb, .ref nd, .ref sp])), (b, .inr (0, [.ref r, .int (iI z)])), (r, .inl (cA, w, .inl (fun j => bI (t j)))), (nd, .inr (2, [.ref b, .ref h, .ref rw, .int (iI mn), .int (iI sx)])), (rw, .inl (cR, M, .inl (fun j => iI (V j))))] H := hP
    have hD : va_D A [(x, .inr (3, [.ref tb, .ref pb, .ref nd, .ref sp])), (b, .inr (0, [.ref r, .int (iI z)])), (r, .inl (cA, w, .inl (fun j => bI (t j)))), (nd, .inr (2, [.ref b, .ref h, .ref rw, .int (iI mn), .int (iI sx)])), (rw, .inl (cR, M, .inl (fun j => iI (V j))))] := hD
    have hK : va_K (dC, dI) vwCl [(cA, .byte), (cR, .int)] s := hK
    obtain ⟨rfl, hqv8, hrv8, rfl, rfl⟩ := hw
    refine W.eq (g2 := F0 m 30 ls [.int (iI q9)]) rfl ?_
    refine lv_iconst (v := iI 1) hx hb dX3_number_30 rfl ?_
    refine li_icmp_ne (tgt := 44) hx hb (by omega) (by omega) dX3_number_31 (by decide) (fun c10 => ?_) (fun c10 => ?_)
    · skip
      refine lv_aload_n hx hb dX3_number_44 rfl (lv_at hl 0 rfl) ?_
      refine va_get (D := (dC, dI)) (ci := 3) (v := .ref nd) (C := RX3) (T := TX3) (N := 4) hx hb hT inX3 hown hK hP 0 rfl rfl 2 (by decide) (hT _ wd122) (fun _ h9 => h9) rfl dX3_number_45 ?_
      refine lv_iload_n hx hb dX3_number_48 rfl (lv_at hl 1 rfl) ?_
      have hPc := hP.sub (ws' := [(nd, .inr (2, [.ref b, .ref h, .ref rw, .int (iI mn), .int (iI sx)])), (rw, .inl (cR, M, .inl (fun j => iI (V j)))), (b, .inr (0, [.ref r, .int (iI z)])), (r, .inl (cA, w, .inl (fun j => bI (t j))))]) [3, 4, 1, 2] rfl
      have hDc := hD.sub (ws' := [(nd, .inr (2, [.ref b, .ref h, .ref rw, .int (iI mn), .int (iI sx)])), (rw, .inl (cR, M, .inl (fun j => iI (V j)))), (b, .inr (0, [.ref r, .int (iI z)])), (r, .inl (cA, w, .inl (fun j => bI (t j))))]) [3, 4, 1, 2] (by decide) rfl
      have hKc := hK.sub (tys' := [(cR, .int), (cA, .byte)]) [1, 0] rfl
      have hFc := va_free (wc := [(nd, .inr (2, [.ref b, .ref h, .ref rw, .int (iI mn), .int (iI sx)])), (rw, .inl (cR, M, .inl (fun j => iI (V j)))), (b, .inr (0, [.ref r, .int (iI z)])), (r, .inl (cA, w, .inl (fun j => bI (t j))))]) hD hS hA [3, 4, 1, 2] rfl
      refine mv_call (mv_runV (As := [.int (iI a)]) (rest := []) ⟨hx, hb, hml, hown, hT⟩ (c_N_hnum l dC dI H.size nd b h rw mn sx cR M V r cA w t z L a (by omega) (hok) (by omega)) (cwV 1 hT (gV wd414 wd415 wd416 wd28 wd417) rfl rfl rfl (by decide +kernel) ⟨show 4 + 1 ≤ 8 from by omega, show 8 + (4 + 11) + 130 ≤ 250 from by omega⟩) ⟨fun a U g mk q => by obtain ⟨q0, q1, qP, qK, qD⟩ := q; exact ⟨q0, q1, qP, va_K.moved (u := U) (U := U.calling g mk a) (Vm.Alike.refl U.vm) qK, qD⟩, va_recv hKc hPc (ci := 2) (q0 := 0) rfl rfl, fun U hU hW => ⟨rfl, by rw [hU], by rw [hU]; exact hPc, va_K.moved hW.alike hKc, hDc.weaken (fun _ _ _ _ => trivial)⟩⟩ rfl rfl hl.1 rfl (lv_room (Nat.le_of_ble_eq_true rfl)) dX3_number_49 ⟨show 0 + 0 + 0 + 0 ≤ 1 from by omega, show 0 + 0 + 0 + 0 ≤ 6 from by omega⟩) hS (fun q _ h => hFc q h) hFc (fun v13 u k11 n12 tS H1 locs ht hvm hw hB hz1 hk1 hS => ?_)
      obtain ⟨q14, rfl⟩ : ∃ y, y = u := ⟨_, rfl⟩
      obtain ⟨hP1, hK1, hD1⟩ := hB
      rw [ht] at hP1
      have hK1 := va_K.moved hvm.symm hK1
      try dsimp only at hw
      obtain ⟨hP, hD⟩ := va_join (wr := [(x, .inr (3, [.ref tb, .ref pb, .ref nd, .ref sp]))]) (w1 := [(nd, .inr (2, [.ref b, .ref h, .ref rw, .int (iI mn), .int (iI sx)])), (rw, .inl (cR, M, .inl (fun j => iI (V j)))), (b, .inr (0, [.ref r, .int (iI z)])), (r, .inl (cA, w, .inl (fun j => bI (t j))))]) hP hD [3, 4, 1, 2] [0] rfl rfl (by decide) (by decide) hk1 hFc hP1 hD1
      have hK := (hK.sub (tys' := []) [] rfl).app hK1
      generalize H1 = H at hP hS ⊢
      have hP : va_P (dC, dI) vwCl [(x, .inr (3, [.ref tb, .ref pb, .ref nd, .ref sp])), (nd, .inr (2, [.ref b, .ref h, .ref rw, .int (iI mn), .int (iI sx)])), (rw, .inl (cR, M, .inl (fun j => iI (V j)))), (b, .inr (0, [.ref r, .int (iI z)])), (r, .inl (cA, w, .inl (fun j => bI (t j))))] H := hP
      have hD : va_D A [(x, .inr (3, [.ref tb, .ref pb, .ref nd, .ref sp])), (nd, .inr (2, [.ref b, .ref h, .ref rw, .int (iI mn), .int (iI sx)])), (rw, .inl (cR, M, .inl (fun j => iI (V j)))), (b, .inr (0, [.ref r, .int (iI z)])), (r, .inl (cA, w, .inl (fun j => bI (t j))))] := hD
      have hK : va_K (dC, dI) vwCl [(cR, .int), (cA, .byte)] s := hK
      obtain ⟨rfl, hqv13, rfl, rfl⟩ := hw
      refine W.eq (g2 := F0 m 52 ls [.int (iI q14)]) rfl ?_
      refine li_if_ne (tgt := 65) hx hb (by omega) dX3_number_52 (by decide) (fun c15 => ?_) (fun c15 => ?_)
      · skip
        refine lv_aload_n hx hb dX3_number_65 rfl (lv_at hl 0 rfl) ?_
        refine va_get (D := (dC, dI)) (ci := 3) (v := .ref nd) (C := RX3) (T := TX3) (N := 4) hx hb hT inX3 hown hK hP 0 rfl rfl 2 (by decide) (hT _ wd122) (fun _ h9 => h9) rfl dX3_number_66 ?_
        refine lv_iload_n hx hb dX3_number_69 rfl (lv_at hl 1 rfl) ?_
        have hPc := hP.sub (ws' := [(nd, .inr (2, [.ref b, .ref h, .ref rw, .int (iI mn), .int (iI sx)])), (rw, .inl (cR, M, .inl (fun j => iI (V j)))), (b, .inr (0, [.ref r, .int (iI z)])), (r, .inl (cA, w, .inl (fun j => bI (t j))))]) [1, 2, 3, 4] rfl
        have hDc := hD.sub (ws' := [(nd, .inr (2, [.ref b, .ref h, .ref rw, .int (iI mn), .int (iI sx)])), (rw, .inl (cR, M, .inl (fun j => iI (V j)))), (b, .inr (0, [.ref r, .int (iI z)])), (r, .inl (cA, w, .inl (fun j => bI (t j))))]) [1, 2, 3, 4] (by decide) rfl
        have hKc := hK.sub (tys' := [(cR, .int), (cA, .byte)]) [0, 1] rfl
        have hFc := va_free (wc := [(nd, .inr (2, [.ref b, .ref h, .ref rw, .int (iI mn), .int (iI sx)])), (rw, .inl (cR, M, .inl (fun j => iI (V j)))), (b, .inr (0, [.ref r, .int (iI z)])), (r, .inl (cA, w, .inl (fun j => bI (t j))))]) hD hS hA [1, 2, 3, 4] rfl
        refine mv_call (mv_runV (As := [.int (iI a)]) (rest := []) ⟨hx, hb, hml, hown, hT⟩ (c_N_sgn l dC dI H.size nd b h rw mn sx cR M V r cA w t z L a (by omega) (hok) (by omega)) (cwV 1 hT (gV wd438 wd439 wd440 wd28 wd441) rfl rfl rfl (by decide +kernel) ⟨show 4 + 1 ≤ 8 from by omega, show 8 + (6 + 11) + 130 ≤ 250 from by omega⟩) ⟨fun a U g mk q => by obtain ⟨q0, q1, qP, qK, qD⟩ := q; exact ⟨q0, q1, qP, va_K.moved (u := U) (U := U.calling g mk a) (Vm.Alike.refl U.vm) qK, qD⟩, va_recv hKc hPc (ci := 2) (q0 := 0) rfl rfl, fun U hU hW => ⟨rfl, by rw [hU], by rw [hU]; exact hPc, va_K.moved hW.alike hKc, hDc.weaken (fun _ _ _ _ => trivial)⟩⟩ rfl rfl hl.1 rfl (lv_room (Nat.le_of_ble_eq_true rfl)) dX3_number_70 ⟨show 0 + 0 + 0 + 0 + 0 ≤ 1 from by omega, show 0 + 0 + 0 + 0 + 0 ≤ 6 from by omega⟩) hS (fun q _ h => hFc q h) hFc (fun v18 u k16 n17 tS H1 locs ht hvm hw hB hz1 hk1 hS => ?_)
        obtain ⟨hP1, hK1, hD1⟩ := hB
        rw [ht] at hP1
        have hK1 := va_K.moved hvm.symm hK1
        try dsimp only at hw
        obtain ⟨hP, hD⟩ := va_join (wr := [(x, .inr (3, [.ref tb, .ref pb, .ref nd, .ref sp]))]) (w1 := [(nd, .inr (2, [.ref b, .ref h, .ref rw, .int (iI mn), .int (iI sx)])), (rw, .inl (cR, M, .inl (fun j => iI (V j)))), (b, .inr (0, [.ref r, .int (iI z)])), (r, .inl (cA, w, .inl (fun j => bI (t j))))]) hP hD [1, 2, 3, 4] [0] rfl rfl (by decide) (by decide) hk1 hFc hP1 hD1
        have hK := (hK.sub (tys' := []) [] rfl).app hK1
        generalize H1 = H at hP hS ⊢
        have hP : va_P (dC, dI) vwCl [(x, .inr (3, [.ref tb, .ref pb, .ref nd, .ref sp])), (nd, .inr (2, [.ref b, .ref h, .ref rw, .int (iI mn), .int (iI sx)])), (rw, .inl (cR, M, .inl (fun j => iI (V j)))), (b, .inr (0, [.ref r, .int (iI z)])), (r, .inl (cA, w, .inl (fun j => bI (t j))))] H := hP
        have hD : va_D A [(x, .inr (3, [.ref tb, .ref pb, .ref nd, .ref sp])), (nd, .inr (2, [.ref b, .ref h, .ref rw, .int (iI mn), .int (iI sx)])), (rw, .inl (cR, M, .inl (fun j => iI (V j)))), (b, .inr (0, [.ref r, .int (iI z)])), (r, .inl (cA, w, .inl (fun j => bI (t j))))] := hD
        have hK : va_K (dC, dI) vwCl [(cR, .int), (cA, .byte)] s := hK
        obtain ⟨rfl, rfl, rfl⟩ := hw
        refine W.eq (g2 := F0 m 73 ls [.long (lI (sgn L V a))]) rfl ?_
        have hP9 := hP.sub (ws' := [(x, .inr (3, [.ref tb, .ref pb, .ref nd, .ref sp])), (nd, .inr (2, [.ref b, .ref h, .ref rw, .int (iI mn), .int (iI sx)])), (rw, .inl (cR, M, .inl (fun j => iI (V j)))), (b, .inr (0, [.ref r, .int (iI z)])), (r, .inl (cA, w, .inl (fun j => bI (t j))))]) [0, 1, 2, 3, 4] rfl
        have hD9 := hD.sub (ws' := [(x, .inr (3, [.ref tb, .ref pb, .ref nd, .ref sp])), (nd, .inr (2, [.ref b, .ref h, .ref rw, .int (iI mn), .int (iI sx)])), (rw, .inl (cR, M, .inl (fun j => iI (V j)))), (b, .inr (0, [.ref r, .int (iI z)])), (r, .inl (cA, w, .inl (fun j => bI (t j))))]) [0, 1, 2, 3, 4] (by decide) rfl
        have hK9 := hK.sub (tys' := [(cR, .int), (cA, .byte)]) [0, 1] rfl
        exact mx_ret (mv_lret hx hb hr hlocks (fun tS ht hW => ⟨⟨_, (), rfl, ⟨rfl, ⟨by omega, by omega, by omega, (hqv13.resolve_right (fun h => absurd h.1 (by omega))).2⟩, by omega, by omega⟩, by rw [ht]; exact hP9, va_K.moved hW.alike hK9, hD9⟩, hS.F ht⟩) hS.2.2 dX3_number_73)
      · skip
        have hP9 := hP.sub (ws' := [(x, .inr (3, [.ref tb, .ref pb, .ref nd, .ref sp])), (nd, .inr (2, [.ref b, .ref h, .ref rw, .int (iI mn), .int (iI sx)])), (rw, .inl (cR, M, .inl (fun j => iI (V j)))), (b, .inr (0, [.ref r, .int (iI z)])), (r, .inl (cA, w, .inl (fun j => bI (t j))))]) [0, 1, 2, 3, 4] rfl
        have hD9 := hD.sub (ws' := [(x, .inr (3, [.ref tb, .ref pb, .ref nd, .ref sp])), (nd, .inr (2, [.ref b, .ref h, .ref rw, .int (iI mn), .int (iI sx)])), (rw, .inl (cR, M, .inl (fun j => iI (V j)))), (b, .inr (0, [.ref r, .int (iI z)])), (r, .inl (cA, w, .inl (fun j => bI (t j))))]) [0, 1, 2, 3, 4] (by decide) rfl
        have hK9 := hK.sub (tys' := [(cR, .int), (cA, .byte)]) [0, 1] rfl
        obtain ⟨sa, hstr⟩ := xs_s85 hX.2.1
        exact mx_thr (vx_throwS (own := RX3) (cls := "java/lang/ArithmeticException") (text := "the contents are no number of 1 to 8 bytes, or not the shortest") (names := exN) (ik := 83) (is := 85) (ic := 87) (A := A) (mc := 0 + 0 + 0 + 0 + 1) (ms := 0 + 0 + 0 + 0 + 6) hx hb hl9 hown (by decide) (by decide) (hT _ wd422) (hT _ wd40) hstr (xa_AE hT hX.2.1) xg_AE hX.2.2.1 hX.2.2.2 hS (hl.1.trans hml.symm) dX3_number_55 dX3_number_58 dX3_number_59 dX3_number_61 dX3_number_64 (fun x hx9 => (ht9 x hx9).elim) (show 2 + 3 < 8 from by decide) (show 0 + (13 * (2 + 1) + 43) ≤ 250 from by decide) (by show 0 + 0 + 0 + 0 + 1 ≤ 1; omega) (by show 0 + 0 + 0 + 0 + 6 ≤ 6; omega) hlocks (fun tS hv9 hz9 hq9 => ⟨(), ⟨Or.inr (Or.inr (⟨rfl, ⟨by omega, by omega, by omega, (hqv13.resolve_left (fun h => absurd h.1 (by omega))).2⟩⟩)), by omega, by omega⟩, ⟨xs_P hP9 hq9, va_K.moved hv9 hK9, hD9⟩, xs_F hS hz9 hq9⟩) hS.2.2 (Nat.le_refl _) (Nat.le_refl _))
    · skip
      have hP9 := hP.sub (ws' := [(x, .inr (3, [.ref tb, .ref pb, .ref nd, .ref sp])), (nd, .inr (2, [.ref b, .ref h, .ref rw, .int (iI mn), .int (iI sx)])), (rw, .inl (cR, M, .inl (fun j => iI (V j)))), (b, .inr (0, [.ref r, .int (iI z)])), (r, .inl (cA, w, .inl (fun j => bI (t j))))]) [0, 3, 4, 1, 2] rfl
      have hD9 := hD.sub (ws' := [(x, .inr (3, [.ref tb, .ref pb, .ref nd, .ref sp])), (nd, .inr (2, [.ref b, .ref h, .ref rw, .int (iI mn), .int (iI sx)])), (rw, .inl (cR, M, .inl (fun j => iI (V j)))), (b, .inr (0, [.ref r, .int (iI z)])), (r, .inl (cA, w, .inl (fun j => bI (t j))))]) [0, 3, 4, 1, 2] (by decide) rfl
      have hK9 := hK.sub (tys' := [(cR, .int), (cA, .byte)]) [1, 0] rfl
      obtain ⟨sa, hstr⟩ := xs_s78 hX.2.1
      exact mx_thr (vx_throwS (own := RX3) (cls := "java/lang/UnsupportedOperationException") (text := "the node is constructed") (names := exN) (ik := 61) (is := 78) (ic := 65) (A := A) (mc := 0 + 0 + 0 + 1) (ms := 0 + 0 + 0 + 6) hx hb hl9 hown (by decide) (by decide) (hT _ wd374) (hT _ wd39) hstr (xa_UOE hT hX.2.1) xg_UOE hX.2.2.1 hX.2.2.2 hS (hl.1.trans hml.symm) dX3_number_34 dX3_number_37 dX3_number_38 dX3_number_40 dX3_number_43 (fun x hx9 => (ht9 x hx9).elim) (show 2 + 3 < 8 from by decide) (show 0 + (13 * (2 + 1) + 43) ≤ 250 from by decide) (by show 0 + 0 + 0 + 1 ≤ 1; omega) (by show 0 + 0 + 0 + 6 ≤ 6; omega) hlocks (fun tS hv9 hz9 hq9 => ⟨(), ⟨Or.inr (Or.inl ⟨rfl, ⟨by omega, by omega, by omega⟩⟩), by omega, by omega⟩, ⟨xs_P hP9 hq9, va_K.moved hv9 hK9, hD9⟩, xs_F hS hz9 hq9⟩) hS.2.2 (Nat.le_refl _) (Nat.le_refl _))
  · skip
    have hP9 := hP.sub (ws' := [(x, .inr (3, [.ref tb, .ref pb, .ref nd, .ref sp])), (nd, .inr (2, [.ref b, .ref h, .ref rw, .int (iI mn), .int (iI sx)])), (rw, .inl (cR, M, .inl (fun j => iI (V j)))), (b, .inr (0, [.ref r, .int (iI z)])), (r, .inl (cA, w, .inl (fun j => bI (t j))))]) [0, 4, 1, 2, 3] rfl
    have hD9 := hD.sub (ws' := [(x, .inr (3, [.ref tb, .ref pb, .ref nd, .ref sp])), (nd, .inr (2, [.ref b, .ref h, .ref rw, .int (iI mn), .int (iI sx)])), (rw, .inl (cR, M, .inl (fun j => iI (V j)))), (b, .inr (0, [.ref r, .int (iI z)])), (r, .inl (cA, w, .inl (fun j => bI (t j))))]) [0, 4, 1, 2, 3] (by decide) rfl
    have hK9 := hK.sub (tys' := [(cR, .int), (cA, .byte)]) [0, 1] rfl
    obtain ⟨sa, hstr⟩ := xs_s70 hX.2.1
    exact mx_thr (vx_throwS (own := RX3) (cls := "java/lang/IllegalArgumentException") (text := "there is no such node") (names := exN) (ik := 48) (is := 70) (ic := 52) (A := A) (mc := 0 + 0 + 1) (ms := 0 + 0 + 6) hx hb hl9 hown (by decide) (by decide) (hT _ wd262) (hT _ wd38) hstr (xa_IAE hT hX.2.1) xg_IAE hX.2.2.1 hX.2.2.2 hS (hl.1.trans hml.symm) dX3_number_11 dX3_number_14 dX3_number_15 dX3_number_17 dX3_number_20 (fun x hx9 => (ht9 x hx9).elim) (show 2 + 3 < 8 from by decide) (show 0 + (13 * (2 + 1) + 43) ≤ 250 from by decide) (by show 0 + 0 + 1 ≤ 1; omega) (by show 0 + 0 + 6 ≤ 6; omega) hlocks (fun tS hv9 hz9 hq9 => ⟨(), ⟨Or.inl ⟨rfl, by omega⟩, by omega, by omega⟩, ⟨xs_P hP9 hq9, va_K.moved hv9 hK9, hD9⟩, xs_F hS hz9 hq9⟩) hS.2.2 (Nat.le_refl _) (Nat.le_refl _))
