set_option maxHeartbeats 4000000 in
set_option maxRecDepth 100000 in
theorem c_L_feed (l : Launch) (hl9 : l.stackTraces = false) (dC : Nat → ClassId) (dI : Nat → Nat → Nat) (sz : Nat) (x : Nat) (b : Nat) (pb : Nat) (nd : Nat) (sp : Nat) (r : Nat) (cA : ClassId) (w : Nat) (t : Nat → Int) (z : Int) (L : List Int) (p0 : Int) (p1 : Int) (p2 : Int) (p3 : Int) (p4 : Int) (ot : Nat) (cO : ClassId) (g9 : Nat → Int) (hok : okB w t z L) (hp0 : -2147483648 ≤ p0 ∧ p0 < 2147483648) (hp1 : -2147483648 ≤ p1 ∧ p1 < 2147483648) (hp2 : -2147483648 ≤ p2 ∧ p2 < 2147483648) (hp3 : -2147483648 ≤ p3 ∧ p3 < 2147483648) (hp4 : -2147483648 ≤ p4 ∧ p4 < 2147483648) : mv_Met l yL_feed wsL_feed ({ frames := 8, cells := (phB w + 6), slots := (phB w + 6), locals := 310 }) (va_Pc [.ref x, .int (iI p0), .int (iI p1), .int (iI p2), .int (iI p3), .int (iI p4), .ref ot] (fun U => U.heap.size = sz ∧ va_P (dC, dI) vwCl [(x, .inr (3, [.ref b, .ref pb, .ref nd, .ref sp])), (b, .inr (0, [.ref r, .int (iI z)])), (r, .inl (cA, w, .inl (fun j => bI (t j)))), (ot, .inl (cO, 1, .inr (.inl (fun j => lI (g9 j)))))] U.heap ∧ va_K (dC, dI) vwCl [(cA, .byte), (cO, .long)] U ∧ va_D (fun _ => True) [(x, .inr (3, [.ref b, .ref pb, .ref nd, .ref sp])), (b, .inr (0, [.ref r, .int (iI z)])), (r, .inl (cA, w, .inl (fun j => bI (t j)))), (ot, .inl (cO, 1, .inr (.inl (fun j => lI (g9 j)))))] ∧ xsE (va_A [(x, .inr (3, [.ref b, .ref pb, .ref nd, .ref sp])), (b, .inr (0, [.ref r, .int (iI z)])), (r, .inl (cA, w, .inl (fun j => bI (t j)))), (ot, .inl (cO, 1, .inr (.inl (fun j => lI (g9 j)))))] sz) U)) (mv_Q (fun (v : Option Value) (u : Nat × ClassId × Nat × (Nat → Int) × Int × (Nat → Int) × Int) (k n : Nat) => match u with | (r', cA', w', t', z', g', e') => v = some (.int (iI e')) ∧ ((e' = 0 ∧ (okB w' t' z' (feL L p0 p1 p2 p3 p4) ∧ z' = z + 20 ∧ z + 20 ≤ 4096) ∧ g' 0 = z') ∨ (e' = 1 ∧ (okB w' t' z' L ∧ z' = z ∧ 4096 < z + 20))) ∧ n + phB w' ≤ phB w + 6 ∧ k ≤ n) (fun (u : Nat × ClassId × Nat × (Nat → Int) × Int × (Nat → Int) × Int) (tS : State) => match u with | (r', cA', w', t', z', g', e') => va_P (dC, dI) vwCl [(x, .inr (3, [.ref b, .ref pb, .ref nd, .ref sp])), (b, .inr (0, [.ref r', .int (iI z')])), (r', .inl (cA', w', .inl (fun j => bI (t' j)))), (ot, .inl (cO, 1, .inr (.inl (fun j => lI (g' j)))))] tS.heap ∧ va_K (dC, dI) vwCl [(cA', .byte), (cO, .long)] tS ∧ va_D (va_A [(x, .inr (3, [.ref b, .ref pb, .ref nd, .ref sp])), (b, .inr (0, [.ref r, .int (iI z)])), (r, .inl (cA, w, .inl (fun j => bI (t j)))), (ot, .inl (cO, 1, .inr (.inl (fun j => lI (g9 j)))))] sz) [(x, .inr (3, [.ref b, .ref pb, .ref nd, .ref sp])), (b, .inr (0, [.ref r', .int (iI z')])), (r', .inl (cA', w', .inl (fun j => bI (t' j)))), (ot, .inl (cO, 1, .inr (.inl (fun j => lI (g' j)))))]) (va_A [(x, .inr (3, [.ref b, .ref pb, .ref nd, .ref sp])), (b, .inr (0, [.ref r, .int (iI z)])), (r, .inl (cA, w, .inl (fun j => bI (t j)))), (ot, .inl (cO, 1, .inr (.inl (fun j => lI (g9 j)))))] sz)) (va_A [(x, .inr (3, [.ref b, .ref pb, .ref nd, .ref sp])), (b, .inr (0, [.ref r, .int (iI z)])), (r, .inl (cA, w, .inl (fun j => bI (t j)))), (ot, .inl (cO, 1, .inr (.inl (fun j => lI (g9 j)))))] sz) := by
  refine mv_ofWH (cc := cL_feed) (maxL := 8) (ret := (some .int)) (by decide) rfl ?_
  intro p e s m args below meth c s₁ B hml ht9 hv
  obtain ⟨rfl, hsz, hP, hK, hD0, hX⟩ := hv
  have hx := B.exec
  have hb := B.bytes
  have hr := B.returns
  have hT : ∀ w ∈ wT, w.before _ s = true := fun w h => atoms_spec (ws := wsL_feed) B.pre w (List.mem_cons_of_mem _ h)
  have hown : s.vm.findClass RL = some m.cls := findClass_of_methodNamed B.named
  have hlocks := B.notSynchronized
  subst hsz
  have hD := hD0.self (sz := s.heap.size)
  generalize hAe : va_A [(x, .inr (3, [.ref b, .ref pb, .ref nd, .ref sp])), (b, .inr (0, [.ref r, .int (iI z)])), (r, .inl (cA, w, .inl (fun j => bI (t j)))), (ot, .inl (cO, 1, .inr (.inl (fun j => lI (g9 j)))))] s.heap.size = A at hD hX ⊢
  have hA : ∀ q : Nat, s.heap.size ≤ q → A q := fun q h => by rw [← hAe]; exact Or.inr h
  have hS : va_S A s.heap s.heap [] := va_S.rf
  have hP : va_P (dC, dI) vwCl [(x, .inr (3, [.ref b, .ref pb, .ref nd, .ref sp])), (b, .inr (0, [.ref r, .int (iI z)])), (r, .inl (cA, w, .inl (fun j => bI (t j)))), (ot, .inl (cO, 1, .inr (.inl (fun j => lI (g9 j)))))] s.heap := hP
  have hl := lv_entry ([.ref x, .int (iI p0), .int (iI p1), .int (iI p2), .int (iI p3), .int (iI p4), .ref ot]) (n := 8) (Nat.le_of_ble_eq_true rfl)
  rw [lg_entry_eq]
  generalize (lg_sl ([.ref x, .int (iI p0), .int (iI p1), .int (iI p2), .int (iI p3), .int (iI p4), .ref ot]) ++ List.replicate (8 - (lg_sl ([.ref x, .int (iI p0), .int (iI p1), .int (iI p2), .int (iI p3), .int (iI p4), .ref ot])).length) Slot.unset).toArray = ls at hl ⊢
  have hl : lv_has ls 8 [(0, .ref x), (1, .int (iI p0)), (2, .int (iI p1)), (3, .int (iI p2)), (4, .int (iI p3)), (5, .int (iI p4)), (6, .ref ot)] := hl
  have hN := hX.1
  obtain ⟨hw1, hw2, hw3, hw4, hw5, hw6⟩ := id hok
  refine lv_aload hx hb dL_feed_0 (lv_at hl 6 rfl) ?_
  refine lv_iconst (v := iI 0) hx hb dL_feed_2 rfl ?_
  refine lv_aload_n hx hb dL_feed_3 rfl (lv_at hl 0 rfl) ?_
  refine lv_iload_n hx hb dL_feed_4 rfl (lv_at hl 1 rfl) ?_
  refine lv_iload_n hx hb dL_feed_5 rfl (lv_at hl 2 rfl) ?_
  refine lv_iload_n hx hb dL_feed_6 rfl (lv_at hl 3 rfl) ?_
  refine lv_iload hx hb dL_feed_7 (lv_at hl 4 rfl) ?_
  refine lv_iload hx hb dL_feed_9 (lv_at hl 5 rfl) ?_
  have hPc := hP.sub (ws' := [(x, .inr (3, [.ref b, .ref pb, .ref nd, .ref sp])), (b, .inr (0, [.ref r, .int (iI z)])), (r, .inl (cA, w, .inl (fun j => bI (t j))))]) [0, 1, 2] rfl
  have hDc := hD.sub (ws' := [(x, .inr (3, [.ref b, .ref pb, .ref nd, .ref sp])), (b, .inr (0, [.ref r, .int (iI z)])), (r, .inl (cA, w, .inl (fun j => bI (t j))))]) [0, 1, 2] (by decide) rfl
  have hKc := hK.sub (tys' := [(cA, .byte)]) [0] rfl
  have hFc := va_free (wc := [(x, .inr (3, [.ref b, .ref pb, .ref nd, .ref sp])), (b, .inr (0, [.ref r, .int (iI z)])), (r, .inl (cA, w, .inl (fun j => bI (t j))))]) hD hS hA [0, 1, 2] rfl
  refine mx_call (mx_runV (As := [.int (iI p0), .int (iI p1), .int (iI p2), .int (iI p3), .int (iI p4)]) (rest := [.int (iI 0), .ref ot]) ⟨hx, hb, hml, hown, hT⟩ (c_R_feed l hl9 dC dI s.heap.size x b pb nd sp r cA w t z L p0 p1 p2 p3 p4 (hok) (hp0) (hp1) (hp2) (hp3) (hp4)) (cwV 5 hT (gV wd137 wd138 wd139 wd26 wd140) rfl rfl rfl (by decide +kernel) ⟨show 6 + 1 ≤ 8 from by omega, show 8 + (6 + 11) + 250 ≤ 310 from by omega⟩) ⟨fun a U g mk q => by obtain ⟨q0, q1, qP, qK, qD, qN⟩ := q; exact ⟨q0, q1, qP, va_K.moved (u := U) (U := U.calling g mk a) (Vm.Alike.refl U.vm) qK, qD, xsE_same rfl rfl qN⟩, va_recv hKc hPc (ci := 3) (q0 := 0) rfl rfl, fun U hU hW => ⟨rfl, by rw [hU], by rw [hU]; exact hPc, va_K.moved hW.alike hKc, hDc.weaken (fun _ _ _ _ => trivial), xsE_in hX hS hFc hU hW⟩⟩ rfl rfl hl.1 rfl (lv_room (Nat.le_of_ble_eq_true rfl)) dL_feed_11 ⟨show 0 + (phB w + 6) ≤ (phB w + 6) from by omega, show 0 + (phB w + 6) ≤ (phB w + 6) from by omega⟩) hS (fun q _ h => hFc q h) hFc (fun E9 ce9 q9 u k1 n2 tS H1 locs ht hvm hw hB hz1 hk1 hS hce hcv hcl => ?_) (fun v3 u k1 n2 tS H1 locs ht hvm hw hB hz1 hk1 hS => ?_)
  · skip
    obtain ⟨r4, cA5, w6, t7, z8⟩ := u
    obtain ⟨hP1, hK1, hD1⟩ := hB
    rw [ht] at hP1
    have hK1 := va_K.moved hvm.symm hK1
    try dsimp only at hw
    obtain ⟨hP, hD⟩ := va_join (wr := [(ot, .inl (cO, 1, .inr (.inl (fun j => lI (g9 j)))))]) (w1 := [(x, .inr (3, [.ref b, .ref pb, .ref nd, .ref sp])), (b, .inr (0, [.ref r4, .int (iI z8)])), (r4, .inl (cA5, w6, .inl (fun j => bI (t7 j))))]) hP hD [0, 1, 2] [3] rfl rfl (by decide) (by decide) hk1 hFc hP1 hD1
    have hK := (hK.sub (tys' := [(cO, .long)]) [1] rfl).app hK1
    generalize H1 = H at hP hS hce ⊢
    have hP : va_P (dC, dI) vwCl [(ot, .inl (cO, 1, .inr (.inl (fun j => lI (g9 j))))), (x, .inr (3, [.ref b, .ref pb, .ref nd, .ref sp])), (b, .inr (0, [.ref r4, .int (iI z8)])), (r4, .inl (cA5, w6, .inl (fun j => bI (t7 j))))] H := hP
    have hD : va_D A [(ot, .inl (cO, 1, .inr (.inl (fun j => lI (g9 j))))), (x, .inr (3, [.ref b, .ref pb, .ref nd, .ref sp])), (b, .inr (0, [.ref r4, .int (iI z8)])), (r4, .inl (cA5, w6, .inl (fun j => bI (t7 j))))] := hD
    have hK : va_K (dC, dI) vwCl [(cO, .long), (cA5, .byte)] s := hK
    obtain ⟨hw0, hCv3⟩ := hw
    rcases hw0 with ⟨rfl, hOv3⟩
    · skip
      refine vx_catch (own := RL) (name := "java/lang/IndexOutOfBoundsException") hown [] (⟨0, 16, 19, 13⟩ : ExceptionTableEntry) [] ht9 (fun z => (fun hz => nomatch hz)) (by decide) (by decide) (hT _ wd136) (va_Nw.use rfl (xs_cIOOBE hX.2.1)) hce hcv hcl ?_
      refine W.eq (g2 := F0 m 19 ls [.ref q9]) rfl ?_
      refine lv_astore (lv' := [(7, .ref q9), (0, .ref x), (1, .int (iI p0)), (2, .int (iI p1)), (3, .int (iI p2)), (4, .int (iI p3)), (5, .int (iI p4)), (6, .ref ot)]) hx hb dL_feed_19 hl (by decide) rfl (fun ls hl => ?_)
      refine lv_iconst (v := iI 1) hx hb dL_feed_21 rfl ?_
      have hP9 := hP.sub (ws' := [(x, .inr (3, [.ref b, .ref pb, .ref nd, .ref sp])), (b, .inr (0, [.ref r4, .int (iI z8)])), (r4, .inl (cA5, w6, .inl (fun j => bI (t7 j)))), (ot, .inl (cO, 1, .inr (.inl (fun j => lI (g9 j)))))]) [1, 2, 3, 0] rfl
      have hD9 := hD.sub (ws' := [(x, .inr (3, [.ref b, .ref pb, .ref nd, .ref sp])), (b, .inr (0, [.ref r4, .int (iI z8)])), (r4, .inl (cA5, w6, .inl (fun j => bI (t7 j)))), (ot, .inl (cO, 1, .inr (.inl (fun j => lI (g9 j)))))]) [1, 2, 3, 0] (by decide) rfl
      have hK9 := hK.sub (tys' := [(cA5, .byte), (cO, .long)]) [1, 0] rfl
      exact mv_iret hx hb hr hlocks (fun tS ht hW => ⟨⟨_, (r4, cA5, w6, t7, z8, g9, 1), rfl, ⟨rfl, Or.inr (⟨rfl, hOv3⟩), by omega, by omega⟩, by rw [ht]; exact hP9, va_K.moved hW.alike hK9, hD9⟩, hS.F ht⟩) hS.2.2 dL_feed_22
  · skip
    obtain ⟨r9, cA10, w11, t12, z13⟩ := u
    obtain ⟨hP1, hK1, hD1⟩ := hB
    rw [ht] at hP1
    have hK1 := va_K.moved hvm.symm hK1
    try dsimp only at hw
    obtain ⟨hP, hD⟩ := va_join (wr := [(ot, .inl (cO, 1, .inr (.inl (fun j => lI (g9 j)))))]) (w1 := [(x, .inr (3, [.ref b, .ref pb, .ref nd, .ref sp])), (b, .inr (0, [.ref r9, .int (iI z13)])), (r9, .inl (cA10, w11, .inl (fun j => bI (t12 j))))]) hP hD [0, 1, 2] [3] rfl rfl (by decide) (by decide) hk1 hFc hP1 hD1
    have hK := (hK.sub (tys' := [(cO, .long)]) [1] rfl).app hK1
    generalize H1 = H at hP hS ⊢
    have hP : va_P (dC, dI) vwCl [(ot, .inl (cO, 1, .inr (.inl (fun j => lI (g9 j))))), (x, .inr (3, [.ref b, .ref pb, .ref nd, .ref sp])), (b, .inr (0, [.ref r9, .int (iI z13)])), (r9, .inl (cA10, w11, .inl (fun j => bI (t12 j))))] H := hP
    have hD : va_D A [(ot, .inl (cO, 1, .inr (.inl (fun j => lI (g9 j))))), (x, .inr (3, [.ref b, .ref pb, .ref nd, .ref sp])), (b, .inr (0, [.ref r9, .int (iI z13)])), (r9, .inl (cA10, w11, .inl (fun j => bI (t12 j))))] := hD
    have hK : va_K (dC, dI) vwCl [(cO, .long), (cA10, .byte)] s := hK
    obtain ⟨rfl, hOv3, hCv3⟩ := hw
    refine W.eq (g2 := F0 m 14 ls [.int (iI z13), .int (iI 0), .ref ot]) rfl ?_
    refine li_i2l hx hb (by omega) dL_feed_14 ?_
    refine li_last hx hb hK hP hD hS 0 0 rfl rfl (z := 0) (by omega) (by omega) dL_feed_15 (fun H locs hP hD hS => ?_)
    have hP : va_P (dC, dI) vwCl [(ot, .inl (cO, 1, .inr (.inl (fun j => lI ((vf_upd g9 (0 : Int).toNat z13) j))))), (x, .inr (3, [.ref b, .ref pb, .ref nd, .ref sp])), (b, .inr (0, [.ref r9, .int (iI z13)])), (r9, .inl (cA10, w11, .inl (fun j => bI (t12 j))))] H := hP
    have hD : va_D A [(ot, .inl (cO, 1, .inr (.inl (fun j => lI ((vf_upd g9 (0 : Int).toNat z13) j))))), (x, .inr (3, [.ref b, .ref pb, .ref nd, .ref sp])), (b, .inr (0, [.ref r9, .int (iI z13)])), (r9, .inl (cA10, w11, .inl (fun j => bI (t12 j))))] := hD
    refine lv_goto (tgt := 23) hx hb dL_feed_16 (by decide) ?_
    refine lv_iconst (v := iI 0) hx hb dL_feed_23 rfl ?_
    have hP9 := hP.sub (ws' := [(x, .inr (3, [.ref b, .ref pb, .ref nd, .ref sp])), (b, .inr (0, [.ref r9, .int (iI z13)])), (r9, .inl (cA10, w11, .inl (fun j => bI (t12 j)))), (ot, .inl (cO, 1, .inr (.inl (fun j => lI ((vf_upd g9 (0 : Int).toNat z13) j)))))]) [1, 2, 3, 0] rfl
    have hD9 := hD.sub (ws' := [(x, .inr (3, [.ref b, .ref pb, .ref nd, .ref sp])), (b, .inr (0, [.ref r9, .int (iI z13)])), (r9, .inl (cA10, w11, .inl (fun j => bI (t12 j)))), (ot, .inl (cO, 1, .inr (.inl (fun j => lI ((vf_upd g9 (0 : Int).toNat z13) j)))))]) [1, 2, 3, 0] (by decide) rfl
    have hK9 := hK.sub (tys' := [(cA10, .byte), (cO, .long)]) [1, 0] rfl
    exact mv_iret hx hb hr hlocks (fun tS ht hW => ⟨⟨_, (r9, cA10, w11, t12, z13, (vf_upd g9 (0 : Int).toNat z13), 0), rfl, ⟨rfl, Or.inl ⟨rfl, hOv3, upd_at rfl⟩, by omega, by omega⟩, by rw [ht]; exact hP9, va_K.moved hW.alike hK9, hD9⟩, hS.F ht⟩) hS.2.2 dL_feed_24
set_option maxHeartbeats 4000000 in
set_option maxRecDepth 100000 in
theorem c_L_end (l : Launch) (hl9 : l.stackTraces = false) (dC : Nat → ClassId) (dI : Nat → Nat → Nat) (sz : Nat) (x : Nat) (b : Nat) (pb : Nat) (nd : Nat) (sp : Nat) (r : Nat) (cA : ClassId) (w : Nat) (t : Nat → Int) (z : Int) (L : List Int) (i : Int) (ot : Nat) (cO : ClassId) (g9 : Nat → Int) (hok : okB w t z L) (hi : -2147483648 ≤ i ∧ i < 2147483648) : mv_Met l yL_end wsL_end ({ frames := 8, cells := 1, slots := 6, locals := 210 }) (va_Pc [.ref x, .int (iI i), .ref ot] (fun U => U.heap.size = sz ∧ va_P (dC, dI) vwCl [(x, .inr (3, [.ref b, .ref pb, .ref nd, .ref sp])), (b, .inr (0, [.ref r, .int (iI z)])), (r, .inl (cA, w, .inl (fun j => bI (t j)))), (ot, .inl (cO, 1, .inr (.inl (fun j => lI (g9 j)))))] U.heap ∧ va_K (dC, dI) vwCl [(cA, .byte), (cO, .long)] U ∧ va_D (fun _ => True) [(x, .inr (3, [.ref b, .ref pb, .ref nd, .ref sp])), (b, .inr (0, [.ref r, .int (iI z)])), (r, .inl (cA, w, .inl (fun j => bI (t j)))), (ot, .inl (cO, 1, .inr (.inl (fun j => lI (g9 j)))))] ∧ xsE (va_A [(x, .inr (3, [.ref b, .ref pb, .ref nd, .ref sp])), (b, .inr (0, [.ref r, .int (iI z)])), (r, .inl (cA, w, .inl (fun j => bI (t j)))), (ot, .inl (cO, 1, .inr (.inl (fun j => lI (g9 j)))))] sz) U)) (mv_Q (fun (v : Option Value) (u : Int × (Nat → Int) × Int) (k n : Nat) => match u with | (z', g', e') => v = some (.int (iI e')) ∧ ((e' = 0 ∧ (okB w t z' (L.take z'.toNat) ∧ z' = i ∧ 0 ≤ i ∧ i ≤ z) ∧ g' 0 = i) ∨ (e' = 1 ∧ (z' = z ∧ (i < 0 ∨ z < i)))) ∧ k ≤ 1 ∧ n ≤ 6) (fun (u : Int × (Nat → Int) × Int) (tS : State) => match u with | (z', g', e') => va_P (dC, dI) vwCl [(x, .inr (3, [.ref b, .ref pb, .ref nd, .ref sp])), (b, .inr (0, [.ref r, .int (iI z')])), (r, .inl (cA, w, .inl (fun j => bI (t j)))), (ot, .inl (cO, 1, .inr (.inl (fun j => lI (g' j)))))] tS.heap ∧ va_K (dC, dI) vwCl [(cA, .byte), (cO, .long)] tS ∧ va_D (va_A [(x, .inr (3, [.ref b, .ref pb, .ref nd, .ref sp])), (b, .inr (0, [.ref r, .int (iI z)])), (r, .inl (cA, w, .inl (fun j => bI (t j)))), (ot, .inl (cO, 1, .inr (.inl (fun j => lI (g9 j)))))] sz) [(x, .inr (3, [.ref b, .ref pb, .ref nd, .ref sp])), (b, .inr (0, [.ref r, .int (iI z')])), (r, .inl (cA, w, .inl (fun j => bI (t j)))), (ot, .inl (cO, 1, .inr (.inl (fun j => lI (g' j)))))]) (va_A [(x, .inr (3, [.ref b, .ref pb, .ref nd, .ref sp])), (b, .inr (0, [.ref r, .int (iI z)])), (r, .inl (cA, w, .inl (fun j => bI (t j)))), (ot, .inl (cO, 1, .inr (.inl (fun j => lI (g9 j)))))] sz)) (va_A [(x, .inr (3, [.ref b, .ref pb, .ref nd, .ref sp])), (b, .inr (0, [.ref r, .int (iI z)])), (r, .inl (cA, w, .inl (fun j => bI (t j)))), (ot, .inl (cO, 1, .inr (.inl (fun j => lI (g9 j)))))] sz) := by
  refine mv_ofWH (cc := cL_end) (maxL := 4) (ret := (some .int)) (by decide) rfl ?_
  intro p e s m args below meth c s₁ B hml ht9 hv
  obtain ⟨rfl, hsz, hP, hK, hD0, hX⟩ := hv
  have hx := B.exec
  have hb := B.bytes
  have hr := B.returns
  have hT : ∀ w ∈ wT, w.before _ s = true := fun w h => atoms_spec (ws := wsL_end) B.pre w (List.mem_cons_of_mem _ h)
  have hown : s.vm.findClass RL = some m.cls := findClass_of_methodNamed B.named
  have hlocks := B.notSynchronized
  subst hsz
  have hD := hD0.self (sz := s.heap.size)
  generalize hAe : va_A [(x, .inr (3, [.ref b, .ref pb, .ref nd, .ref sp])), (b, .inr (0, [.ref r, .int (iI z)])), (r, .inl (cA, w, .inl (fun j => bI (t j)))), (ot, .inl (cO, 1, .inr (.inl (fun j => lI (g9 j)))))] s.heap.size = A at hD hX ⊢
  have hA : ∀ q : Nat, s.heap.size ≤ q → A q := fun q h => by rw [← hAe]; exact Or.inr h
  have hS : va_S A s.heap s.heap [] := va_S.rf
  have hP : va_P (dC, dI) vwCl [(x, .inr (3, [.ref b, .ref pb, .ref nd, .ref sp])), (b, .inr (0, [.ref r, .int (iI z)])), (r, .inl (cA, w, .inl (fun j => bI (t j)))), (ot, .inl (cO, 1, .inr (.inl (fun j => lI (g9 j)))))] s.heap := hP
  have hl := lv_entry ([.ref x, .int (iI i), .ref ot]) (n := 4) (Nat.le_of_ble_eq_true rfl)
  rw [lg_entry_eq]
  generalize (lg_sl ([.ref x, .int (iI i), .ref ot]) ++ List.replicate (4 - (lg_sl ([.ref x, .int (iI i), .ref ot])).length) Slot.unset).toArray = ls at hl ⊢
  have hl : lv_has ls 4 [(0, .ref x), (1, .int (iI i)), (2, .ref ot)] := hl
  have hN := hX.1
  obtain ⟨hw1, hw2, hw3, hw4, hw5, hw6⟩ := id hok
  refine lv_aload_n hx hb dL_end_0 rfl (lv_at hl 2 rfl) ?_
  refine lv_iconst (v := iI 0) hx hb dL_end_1 rfl ?_
  refine lv_aload_n hx hb dL_end_2 rfl (lv_at hl 0 rfl) ?_
  refine lv_iload_n hx hb dL_end_3 rfl (lv_at hl 1 rfl) ?_
  have hPc := hP.sub (ws' := [(x, .inr (3, [.ref b, .ref pb, .ref nd, .ref sp])), (b, .inr (0, [.ref r, .int (iI z)])), (r, .inl (cA, w, .inl (fun j => bI (t j))))]) [0, 1, 2] rfl
  have hDc := hD.sub (ws' := [(x, .inr (3, [.ref b, .ref pb, .ref nd, .ref sp])), (b, .inr (0, [.ref r, .int (iI z)])), (r, .inl (cA, w, .inl (fun j => bI (t j))))]) [0, 1, 2] (by decide) rfl
  have hKc := hK.sub (tys' := [(cA, .byte)]) [0] rfl
  have hFc := va_free (wc := [(x, .inr (3, [.ref b, .ref pb, .ref nd, .ref sp])), (b, .inr (0, [.ref r, .int (iI z)])), (r, .inl (cA, w, .inl (fun j => bI (t j))))]) hD hS hA [0, 1, 2] rfl
  refine mx_call (mx_runV (As := [.int (iI i)]) (rest := [.int (iI 0), .ref ot]) ⟨hx, hb, hml, hown, hT⟩ (c_R_end l hl9 dC dI s.heap.size x b pb nd sp r cA w t z L i (hok) (hi)) (cwV 1 hT (gV wd258 wd259 wd260 wd26 wd261) rfl rfl rfl (by decide +kernel) ⟨show 6 + 1 ≤ 8 from by omega, show 8 + (2 + 11) + 150 ≤ 210 from by omega⟩) ⟨fun a U g mk q => by obtain ⟨q0, q1, qP, qK, qD, qN⟩ := q; exact ⟨q0, q1, qP, va_K.moved (u := U) (U := U.calling g mk a) (Vm.Alike.refl U.vm) qK, qD, xsE_same rfl rfl qN⟩, va_recv hKc hPc (ci := 3) (q0 := 0) rfl rfl, fun U hU hW => ⟨rfl, by rw [hU], by rw [hU]; exact hPc, va_K.moved hW.alike hKc, hDc.weaken (fun _ _ _ _ => trivial), xsE_in hX hS hFc hU hW⟩⟩ rfl rfl hl.1 rfl (lv_room (Nat.le_of_ble_eq_true rfl)) dL_end_4 ⟨show 0 + 1 ≤ 1 from by omega, show 0 + 6 ≤ 6 from by omega⟩) hS (fun q _ h => hFc q h) hFc (fun E9 ce9 q9 u k1 n2 tS H1 locs ht hvm hw hB hz1 hk1 hS hce hcv hcl => ?_) (fun v3 u k1 n2 tS H1 locs ht hvm hw hB hz1 hk1 hS => ?_)
  · skip
    obtain ⟨z4, rfl⟩ : ∃ y, y = u := ⟨_, rfl⟩
    obtain ⟨hP1, hK1, hD1⟩ := hB
    rw [ht] at hP1
    have hK1 := va_K.moved hvm.symm hK1
    try dsimp only at hw
    obtain ⟨hP, hD⟩ := va_join (wr := [(ot, .inl (cO, 1, .inr (.inl (fun j => lI (g9 j)))))]) (w1 := [(x, .inr (3, [.ref b, .ref pb, .ref nd, .ref sp])), (b, .inr (0, [.ref r, .int (iI z4)])), (r, .inl (cA, w, .inl (fun j => bI (t j))))]) hP hD [0, 1, 2] [3] rfl rfl (by decide) (by decide) hk1 hFc hP1 hD1
    have hK := (hK.sub (tys' := [(cO, .long)]) [1] rfl).app hK1
    generalize H1 = H at hP hS hce ⊢
    have hP : va_P (dC, dI) vwCl [(ot, .inl (cO, 1, .inr (.inl (fun j => lI (g9 j))))), (x, .inr (3, [.ref b, .ref pb, .ref nd, .ref sp])), (b, .inr (0, [.ref r, .int (iI z4)])), (r, .inl (cA, w, .inl (fun j => bI (t j))))] H := hP
    have hD : va_D A [(ot, .inl (cO, 1, .inr (.inl (fun j => lI (g9 j))))), (x, .inr (3, [.ref b, .ref pb, .ref nd, .ref sp])), (b, .inr (0, [.ref r, .int (iI z4)])), (r, .inl (cA, w, .inl (fun j => bI (t j))))] := hD
    have hK : va_K (dC, dI) vwCl [(cO, .long), (cA, .byte)] s := hK
    obtain ⟨hw0, hCv3⟩ := hw
    rcases hw0 with ⟨rfl, hOv3⟩
    · skip
      refine vx_catch (own := RL) (name := "java/lang/IllegalArgumentException") hown [] (⟨0, 9, 12, 19⟩ : ExceptionTableEntry) [] ht9 (fun z => (fun hz => nomatch hz)) (by decide) (by decide) (hT _ wd257) (va_Nw.use rfl (xs_cIAE hX.2.1)) hce hcv hcl ?_
      refine W.eq (g2 := F0 m 12 ls [.ref q9]) rfl ?_
      refine lv_astore_n (lv' := [(3, .ref q9), (0, .ref x), (1, .int (iI i)), (2, .ref ot)]) hx hb dL_end_12 rfl hl (by decide) rfl (fun ls hl => ?_)
      refine lv_iconst (v := iI 1) hx hb dL_end_13 rfl ?_
      have hP9 := hP.sub (ws' := [(x, .inr (3, [.ref b, .ref pb, .ref nd, .ref sp])), (b, .inr (0, [.ref r, .int (iI z4)])), (r, .inl (cA, w, .inl (fun j => bI (t j)))), (ot, .inl (cO, 1, .inr (.inl (fun j => lI (g9 j)))))]) [1, 2, 3, 0] rfl
      have hD9 := hD.sub (ws' := [(x, .inr (3, [.ref b, .ref pb, .ref nd, .ref sp])), (b, .inr (0, [.ref r, .int (iI z4)])), (r, .inl (cA, w, .inl (fun j => bI (t j)))), (ot, .inl (cO, 1, .inr (.inl (fun j => lI (g9 j)))))]) [1, 2, 3, 0] (by decide) rfl
      have hK9 := hK.sub (tys' := [(cA, .byte), (cO, .long)]) [1, 0] rfl
      exact mv_iret hx hb hr hlocks (fun tS ht hW => ⟨⟨_, (z4, g9, 1), rfl, ⟨rfl, Or.inr (⟨rfl, hOv3⟩), by omega, by omega⟩, by rw [ht]; exact hP9, va_K.moved hW.alike hK9, hD9⟩, hS.F ht⟩) hS.2.2 dL_end_14
  · skip
    obtain ⟨z5, rfl⟩ : ∃ y, y = u := ⟨_, rfl⟩
    obtain ⟨hP1, hK1, hD1⟩ := hB
    rw [ht] at hP1
    have hK1 := va_K.moved hvm.symm hK1
    try dsimp only at hw
    obtain ⟨hP, hD⟩ := va_join (wr := [(ot, .inl (cO, 1, .inr (.inl (fun j => lI (g9 j)))))]) (w1 := [(x, .inr (3, [.ref b, .ref pb, .ref nd, .ref sp])), (b, .inr (0, [.ref r, .int (iI z5)])), (r, .inl (cA, w, .inl (fun j => bI (t j))))]) hP hD [0, 1, 2] [3] rfl rfl (by decide) (by decide) hk1 hFc hP1 hD1
    have hK := (hK.sub (tys' := [(cO, .long)]) [1] rfl).app hK1
    generalize H1 = H at hP hS ⊢
    have hP : va_P (dC, dI) vwCl [(ot, .inl (cO, 1, .inr (.inl (fun j => lI (g9 j))))), (x, .inr (3, [.ref b, .ref pb, .ref nd, .ref sp])), (b, .inr (0, [.ref r, .int (iI z5)])), (r, .inl (cA, w, .inl (fun j => bI (t j))))] H := hP
    have hD : va_D A [(ot, .inl (cO, 1, .inr (.inl (fun j => lI (g9 j))))), (x, .inr (3, [.ref b, .ref pb, .ref nd, .ref sp])), (b, .inr (0, [.ref r, .int (iI z5)])), (r, .inl (cA, w, .inl (fun j => bI (t j))))] := hD
    have hK : va_K (dC, dI) vwCl [(cO, .long), (cA, .byte)] s := hK
    obtain ⟨rfl, hOv3, hCv3⟩ := hw
    refine W.eq (g2 := F0 m 7 ls [.int (iI i), .int (iI 0), .ref ot]) rfl ?_
    refine li_i2l hx hb (by omega) dL_end_7 ?_
    refine li_last hx hb hK hP hD hS 0 0 rfl rfl (z := 0) (by omega) (by omega) dL_end_8 (fun H locs hP hD hS => ?_)
    have hP : va_P (dC, dI) vwCl [(ot, .inl (cO, 1, .inr (.inl (fun j => lI ((vf_upd g9 (0 : Int).toNat i) j))))), (x, .inr (3, [.ref b, .ref pb, .ref nd, .ref sp])), (b, .inr (0, [.ref r, .int (iI z5)])), (r, .inl (cA, w, .inl (fun j => bI (t j))))] H := hP
    have hD : va_D A [(ot, .inl (cO, 1, .inr (.inl (fun j => lI ((vf_upd g9 (0 : Int).toNat i) j))))), (x, .inr (3, [.ref b, .ref pb, .ref nd, .ref sp])), (b, .inr (0, [.ref r, .int (iI z5)])), (r, .inl (cA, w, .inl (fun j => bI (t j))))] := hD
    refine lv_goto (tgt := 15) hx hb dL_end_9 (by decide) ?_
    refine lv_iconst (v := iI 0) hx hb dL_end_15 rfl ?_
    have hP9 := hP.sub (ws' := [(x, .inr (3, [.ref b, .ref pb, .ref nd, .ref sp])), (b, .inr (0, [.ref r, .int (iI z5)])), (r, .inl (cA, w, .inl (fun j => bI (t j)))), (ot, .inl (cO, 1, .inr (.inl (fun j => lI ((vf_upd g9 (0 : Int).toNat i) j)))))]) [1, 2, 3, 0] rfl
    have hD9 := hD.sub (ws' := [(x, .inr (3, [.ref b, .ref pb, .ref nd, .ref sp])), (b, .inr (0, [.ref r, .int (iI z5)])), (r, .inl (cA, w, .inl (fun j => bI (t j)))), (ot, .inl (cO, 1, .inr (.inl (fun j => lI ((vf_upd g9 (0 : Int).toNat i) j)))))]) [1, 2, 3, 0] (by decide) rfl
    have hK9 := hK.sub (tys' := [(cA, .byte), (cO, .long)]) [1, 0] rfl
    exact mv_iret hx hb hr hlocks (fun tS ht hW => ⟨⟨_, (z5, (vf_upd g9 (0 : Int).toNat i), 0), rfl, ⟨rfl, Or.inl ⟨rfl, hOv3, upd_at rfl⟩, by omega, by omega⟩, by rw [ht]; exact hP9, va_K.moved hW.alike hK9, hD9⟩, hS.F ht⟩) hS.2.2 dL_end_16
set_option maxHeartbeats 4000000 in
set_option maxRecDepth 100000 in
theorem c_L_read (l : Launch) (hl9 : l.stackTraces = false) (dC : Nat → ClassId) (dI : Nat → Nat → Nat) (sz : Nat) (x : Nat) (pb : Nat) (n0 : Nat) (nd : Nat) (b : Nat) (h : Nat) (rw : Nat) (mn : Int) (sx : Int) (cR : ClassId) (M : Nat) (V : Nat → Int) (kd : Int) (cs : Int) (tg : Int) (op : Int) (sz1 : Int) (ct : Int) (r : Nat) (cA : ClassId) (w : Nat) (t : Nat → Int) (z : Int) (L : List Int) (b2 : Nat) (r2 : Nat) (cA2 : ClassId) (w2 : Nat) (t2 : Nat → Int) (z2 : Int) (L2 : List Int) (sy : Int) (ot : Nat) (cO : ClassId) (g9 : Nat → Int) (hoM : okM M V mn) (hok : okB w t z L) (hok2 : okB w2 t2 z2 L2) (hsy : sy = 0 ∨ sy = 1) : mv_Met l yL_read wsL_read ({ frames := 94, cells := (phR M + phB w + 6), slots := (phR M + phB w + 6), locals := 2560 }) (va_Pc [.ref x, .int (iI sy), .ref ot] (fun U => U.heap.size = sz ∧ va_P (dC, dI) vwCl [(x, .inr (3, [.ref b2, .ref pb, .ref n0, .ref nd])), (nd, .inr (2, [.ref b, .ref h, .ref rw, .int (iI mn), .int (iI sx)])), (rw, .inl (cR, M, .inl (fun j => iI (V j)))), (h, .inr (1, [.int (iI kd), .int (iI cs), .int (iI tg), .int (iI op), .int (iI sz1), .int (iI ct)])), (b, .inr (0, [.ref r, .int (iI z)])), (r, .inl (cA, w, .inl (fun j => bI (t j)))), (b2, .inr (0, [.ref r2, .int (iI z2)])), (r2, .inl (cA2, w2, .inl (fun j => bI (t2 j)))), (ot, .inl (cO, 1, .inr (.inl (fun j => lI (g9 j)))))] U.heap ∧ va_K (dC, dI) vwCl [(cR, .int), (cA, .byte), (cA2, .byte), (cO, .long)] U ∧ va_D (fun _ => True) [(x, .inr (3, [.ref b2, .ref pb, .ref n0, .ref nd])), (nd, .inr (2, [.ref b, .ref h, .ref rw, .int (iI mn), .int (iI sx)])), (rw, .inl (cR, M, .inl (fun j => iI (V j)))), (h, .inr (1, [.int (iI kd), .int (iI cs), .int (iI tg), .int (iI op), .int (iI sz1), .int (iI ct)])), (b, .inr (0, [.ref r, .int (iI z)])), (r, .inl (cA, w, .inl (fun j => bI (t j)))), (b2, .inr (0, [.ref r2, .int (iI z2)])), (r2, .inl (cA2, w2, .inl (fun j => bI (t2 j)))), (ot, .inl (cO, 1, .inr (.inl (fun j => lI (g9 j)))))] ∧ xsE (va_A [(x, .inr (3, [.ref b2, .ref pb, .ref n0, .ref nd])), (nd, .inr (2, [.ref b, .ref h, .ref rw, .int (iI mn), .int (iI sx)])), (rw, .inl (cR, M, .inl (fun j => iI (V j)))), (h, .inr (1, [.int (iI kd), .int (iI cs), .int (iI tg), .int (iI op), .int (iI sz1), .int (iI ct)])), (b, .inr (0, [.ref r, .int (iI z)])), (r, .inl (cA, w, .inl (fun j => bI (t j)))), (b2, .inr (0, [.ref r2, .int (iI z2)])), (r2, .inl (cA2, w2, .inl (fun j => bI (t2 j)))), (ot, .inl (cO, 1, .inr (.inl (fun j => lI (g9 j)))))] sz) U)) (mv_Q (fun (v : Option Value) (u : Nat × ClassId × Nat × (Nat → Int) × Int × Int × Int × Int × Int × Int × Int × Nat × ClassId × Nat × (Nat → Int) × Nat × Nat × Int × (Nat → Int) × Int) (k n : Nat) => match u with | (rw', cR', M', V', mn', kd', cs', tg', op', sz1', ct', r', cA', w', t', n1', n2', sx', g', e') => v = some (.int (iI e')) ∧ ((e' = 0 ∧ (n1' = nd ∧ n2' = n0 ∧ (∃ W : Nat → Int, rdS L2 sy = some (mn', W) ∧ eqN V' W mn') ∧ okN M' V' mn' ∧ okB w' t' z2 L2) ∧ g' 0 = mn') ∨ (e' = 1 ∧ (n1' = n0 ∧ n2' = nd ∧ rdS L2 sy = none ∧ okM M' V' mn' ∧ okB w' t' z2 L2))) ∧ n + phR M' + phB w' ≤ phR M + phB w + 6 ∧ k ≤ n) (fun (u : Nat × ClassId × Nat × (Nat → Int) × Int × Int × Int × Int × Int × Int × Int × Nat × ClassId × Nat × (Nat → Int) × Nat × Nat × Int × (Nat → Int) × Int) (tS : State) => match u with | (rw', cR', M', V', mn', kd', cs', tg', op', sz1', ct', r', cA', w', t', n1', n2', sx', g', e') => va_P (dC, dI) vwCl [(x, .inr (3, [.ref b2, .ref pb, .ref n1', .ref n2'])), (nd, .inr (2, [.ref b, .ref h, .ref rw', .int (iI mn'), .int (iI sx')])), (rw', .inl (cR', M', .inl (fun j => iI (V' j)))), (h, .inr (1, [.int (iI kd'), .int (iI cs'), .int (iI tg'), .int (iI op'), .int (iI sz1'), .int (iI ct')])), (b, .inr (0, [.ref r', .int (iI z2)])), (r', .inl (cA', w', .inl (fun j => bI (t' j)))), (b2, .inr (0, [.ref r2, .int (iI z2)])), (r2, .inl (cA2, w2, .inl (fun j => bI (t2 j)))), (ot, .inl (cO, 1, .inr (.inl (fun j => lI (g' j)))))] tS.heap ∧ va_K (dC, dI) vwCl [(cR', .int), (cA', .byte), (cA2, .byte), (cO, .long)] tS ∧ va_D (va_A [(x, .inr (3, [.ref b2, .ref pb, .ref n0, .ref nd])), (nd, .inr (2, [.ref b, .ref h, .ref rw, .int (iI mn), .int (iI sx)])), (rw, .inl (cR, M, .inl (fun j => iI (V j)))), (h, .inr (1, [.int (iI kd), .int (iI cs), .int (iI tg), .int (iI op), .int (iI sz1), .int (iI ct)])), (b, .inr (0, [.ref r, .int (iI z)])), (r, .inl (cA, w, .inl (fun j => bI (t j)))), (b2, .inr (0, [.ref r2, .int (iI z2)])), (r2, .inl (cA2, w2, .inl (fun j => bI (t2 j)))), (ot, .inl (cO, 1, .inr (.inl (fun j => lI (g9 j)))))] sz) [(x, .inr (3, [.ref b2, .ref pb, .ref n1', .ref n2'])), (nd, .inr (2, [.ref b, .ref h, .ref rw', .int (iI mn'), .int (iI sx')])), (rw', .inl (cR', M', .inl (fun j => iI (V' j)))), (h, .inr (1, [.int (iI kd'), .int (iI cs'), .int (iI tg'), .int (iI op'), .int (iI sz1'), .int (iI ct')])), (b, .inr (0, [.ref r', .int (iI z2)])), (r', .inl (cA', w', .inl (fun j => bI (t' j)))), (b2, .inr (0, [.ref r2, .int (iI z2)])), (r2, .inl (cA2, w2, .inl (fun j => bI (t2 j)))), (ot, .inl (cO, 1, .inr (.inl (fun j => lI (g' j)))))]) (va_A [(x, .inr (3, [.ref b2, .ref pb, .ref n0, .ref nd])), (nd, .inr (2, [.ref b, .ref h, .ref rw, .int (iI mn), .int (iI sx)])), (rw, .inl (cR, M, .inl (fun j => iI (V j)))), (h, .inr (1, [.int (iI kd), .int (iI cs), .int (iI tg), .int (iI op), .int (iI sz1), .int (iI ct)])), (b, .inr (0, [.ref r, .int (iI z)])), (r, .inl (cA, w, .inl (fun j => bI (t j)))), (b2, .inr (0, [.ref r2, .int (iI z2)])), (r2, .inl (cA2, w2, .inl (fun j => bI (t2 j)))), (ot, .inl (cO, 1, .inr (.inl (fun j => lI (g9 j)))))] sz)) (va_A [(x, .inr (3, [.ref b2, .ref pb, .ref n0, .ref nd])), (nd, .inr (2, [.ref b, .ref h, .ref rw, .int (iI mn), .int (iI sx)])), (rw, .inl (cR, M, .inl (fun j => iI (V j)))), (h, .inr (1, [.int (iI kd), .int (iI cs), .int (iI tg), .int (iI op), .int (iI sz1), .int (iI ct)])), (b, .inr (0, [.ref r, .int (iI z)])), (r, .inl (cA, w, .inl (fun j => bI (t j)))), (b2, .inr (0, [.ref r2, .int (iI z2)])), (r2, .inl (cA2, w2, .inl (fun j => bI (t2 j)))), (ot, .inl (cO, 1, .inr (.inl (fun j => lI (g9 j)))))] sz) := by
  refine mv_ofWH (cc := cL_read) (maxL := 4) (ret := (some .int)) (by decide) rfl ?_
  intro p e s m args below meth c s₁ B hml ht9 hv
  obtain ⟨rfl, hsz, hP, hK, hD0, hX⟩ := hv
  have hx := B.exec
  have hb := B.bytes
  have hr := B.returns
  have hT : ∀ w ∈ wT, w.before _ s = true := fun w h => atoms_spec (ws := wsL_read) B.pre w (List.mem_cons_of_mem _ h)
  have hown : s.vm.findClass RL = some m.cls := findClass_of_methodNamed B.named
  have hlocks := B.notSynchronized
  subst hsz
  have hD := hD0.self (sz := s.heap.size)
  generalize hAe : va_A [(x, .inr (3, [.ref b2, .ref pb, .ref n0, .ref nd])), (nd, .inr (2, [.ref b, .ref h, .ref rw, .int (iI mn), .int (iI sx)])), (rw, .inl (cR, M, .inl (fun j => iI (V j)))), (h, .inr (1, [.int (iI kd), .int (iI cs), .int (iI tg), .int (iI op), .int (iI sz1), .int (iI ct)])), (b, .inr (0, [.ref r, .int (iI z)])), (r, .inl (cA, w, .inl (fun j => bI (t j)))), (b2, .inr (0, [.ref r2, .int (iI z2)])), (r2, .inl (cA2, w2, .inl (fun j => bI (t2 j)))), (ot, .inl (cO, 1, .inr (.inl (fun j => lI (g9 j)))))] s.heap.size = A at hD hX ⊢
  have hA : ∀ q : Nat, s.heap.size ≤ q → A q := fun q h => by rw [← hAe]; exact Or.inr h
  have hS : va_S A s.heap s.heap [] := va_S.rf
  have hP : va_P (dC, dI) vwCl [(x, .inr (3, [.ref b2, .ref pb, .ref n0, .ref nd])), (nd, .inr (2, [.ref b, .ref h, .ref rw, .int (iI mn), .int (iI sx)])), (rw, .inl (cR, M, .inl (fun j => iI (V j)))), (h, .inr (1, [.int (iI kd), .int (iI cs), .int (iI tg), .int (iI op), .int (iI sz1), .int (iI ct)])), (b, .inr (0, [.ref r, .int (iI z)])), (r, .inl (cA, w, .inl (fun j => bI (t j)))), (b2, .inr (0, [.ref r2, .int (iI z2)])), (r2, .inl (cA2, w2, .inl (fun j => bI (t2 j)))), (ot, .inl (cO, 1, .inr (.inl (fun j => lI (g9 j)))))] s.heap := hP
  have hl := lv_entry ([.ref x, .int (iI sy), .ref ot]) (n := 4) (Nat.le_of_ble_eq_true rfl)
  rw [lg_entry_eq]
  generalize (lg_sl ([.ref x, .int (iI sy), .ref ot]) ++ List.replicate (4 - (lg_sl ([.ref x, .int (iI sy), .ref ot])).length) Slot.unset).toArray = ls at hl ⊢
  have hl : lv_has ls 4 [(0, .ref x), (1, .int (iI sy)), (2, .ref ot)] := hl
  have hN := hX.1
  refine lv_aload_n hx hb dL_read_0 rfl (lv_at hl 2 rfl) ?_
  refine lv_iconst (v := iI 0) hx hb dL_read_1 rfl ?_
  refine lv_aload_n hx hb dL_read_2 rfl (lv_at hl 0 rfl) ?_
  refine lv_iload_n hx hb dL_read_3 rfl (lv_at hl 1 rfl) ?_
  have hPc := hP.sub (ws' := [(x, .inr (3, [.ref b2, .ref pb, .ref n0, .ref nd])), (nd, .inr (2, [.ref b, .ref h, .ref rw, .int (iI mn), .int (iI sx)])), (rw, .inl (cR, M, .inl (fun j => iI (V j)))), (h, .inr (1, [.int (iI kd), .int (iI cs), .int (iI tg), .int (iI op), .int (iI sz1), .int (iI ct)])), (b, .inr (0, [.ref r, .int (iI z)])), (r, .inl (cA, w, .inl (fun j => bI (t j)))), (b2, .inr (0, [.ref r2, .int (iI z2)])), (r2, .inl (cA2, w2, .inl (fun j => bI (t2 j))))]) [0, 1, 2, 3, 4, 5, 6, 7] rfl
  have hDc := hD.sub (ws' := [(x, .inr (3, [.ref b2, .ref pb, .ref n0, .ref nd])), (nd, .inr (2, [.ref b, .ref h, .ref rw, .int (iI mn), .int (iI sx)])), (rw, .inl (cR, M, .inl (fun j => iI (V j)))), (h, .inr (1, [.int (iI kd), .int (iI cs), .int (iI tg), .int (iI op), .int (iI sz1), .int (iI ct)])), (b, .inr (0, [.ref r, .int (iI z)])), (r, .inl (cA, w, .inl (fun j => bI (t j)))), (b2, .inr (0, [.ref r2, .int (iI z2)])), (r2, .inl (cA2, w2, .inl (fun j => bI (t2 j))))]) [0, 1, 2, 3, 4, 5, 6, 7] (by decide) rfl
  have hKc := hK.sub (tys' := [(cR, .int), (cA, .byte), (cA2, .byte)]) [0, 1, 2] rfl
  have hFc := va_free (wc := [(x, .inr (3, [.ref b2, .ref pb, .ref n0, .ref nd])), (nd, .inr (2, [.ref b, .ref h, .ref rw, .int (iI mn), .int (iI sx)])), (rw, .inl (cR, M, .inl (fun j => iI (V j)))), (h, .inr (1, [.int (iI kd), .int (iI cs), .int (iI tg), .int (iI op), .int (iI sz1), .int (iI ct)])), (b, .inr (0, [.ref r, .int (iI z)])), (r, .inl (cA, w, .inl (fun j => bI (t j)))), (b2, .inr (0, [.ref r2, .int (iI z2)])), (r2, .inl (cA2, w2, .inl (fun j => bI (t2 j))))]) hD hS hA [0, 1, 2, 3, 4, 5, 6, 7] rfl
  refine mx_call (mx_runV (As := [.int (iI sy)]) (rest := [.int (iI 0), .ref ot]) ⟨hx, hb, hml, hown, hT⟩ (c_R_read l hl9 dC dI s.heap.size x pb n0 nd b h rw mn sx cR M V kd cs tg op sz1 ct r cA w t z L b2 r2 cA2 w2 t2 z2 L2 sy (hoM) (hok) (hok2) (hsy)) (cwV 1 hT (gV wd286 wd287 wd288 wd26 wd289) rfl rfl rfl (by decide +kernel) ⟨show 92 + 1 ≤ 94 from by omega, show 8 + (3 + 11) + 2500 ≤ 2560 from by omega⟩) ⟨fun a U g mk q => by obtain ⟨q0, q1, qP, qK, qD, qN⟩ := q; exact ⟨q0, q1, qP, va_K.moved (u := U) (U := U.calling g mk a) (Vm.Alike.refl U.vm) qK, qD, xsE_same rfl rfl qN⟩, va_recv hKc hPc (ci := 3) (q0 := 0) rfl rfl, fun U hU hW => ⟨rfl, by rw [hU], by rw [hU]; exact hPc, va_K.moved hW.alike hKc, hDc.weaken (fun _ _ _ _ => trivial), xsE_in hX hS hFc hU hW⟩⟩ rfl rfl hl.1 rfl (lv_room (Nat.le_of_ble_eq_true rfl)) dL_read_4 ⟨show 0 + (phR M + phB w + 6) ≤ (phR M + phB w + 6) from by omega, show 0 + (phR M + phB w + 6) ≤ (phR M + phB w + 6) from by omega⟩) hS (fun q _ h => hFc q h) hFc (fun E9 ce9 q9 u k1 n2 tS H1 locs ht hvm hw hB hz1 hk1 hS hce hcv hcl => ?_) (fun v3 u k1 n2 tS H1 locs ht hvm hw hB hz1 hk1 hS => ?_)
  · skip
    obtain ⟨rw4, cR5, M6, V7, mn8, kd9, cs10, tg11, op12, sz13, ct14, r15, cA16, w17, t18, n19, n20, sx21⟩ := u
    obtain ⟨hP1, hK1, hD1⟩ := hB
    rw [ht] at hP1
    have hK1 := va_K.moved hvm.symm hK1
    try dsimp only at hw
    obtain ⟨hP, hD⟩ := va_join (wr := [(ot, .inl (cO, 1, .inr (.inl (fun j => lI (g9 j)))))]) (w1 := [(x, .inr (3, [.ref b2, .ref pb, .ref n19, .ref n20])), (nd, .inr (2, [.ref b, .ref h, .ref rw4, .int (iI mn8), .int (iI sx21)])), (rw4, .inl (cR5, M6, .inl (fun j => iI (V7 j)))), (h, .inr (1, [.int (iI kd9), .int (iI cs10), .int (iI tg11), .int (iI op12), .int (iI sz13), .int (iI ct14)])), (b, .inr (0, [.ref r15, .int (iI z2)])), (r15, .inl (cA16, w17, .inl (fun j => bI (t18 j)))), (b2, .inr (0, [.ref r2, .int (iI z2)])), (r2, .inl (cA2, w2, .inl (fun j => bI (t2 j))))]) hP hD [0, 1, 2, 3, 4, 5, 6, 7] [8] rfl rfl (by decide) (by decide) hk1 hFc hP1 hD1
    have hK := (hK.sub (tys' := [(cO, .long)]) [3] rfl).app hK1
    generalize H1 = H at hP hS hce ⊢
    have hP : va_P (dC, dI) vwCl [(ot, .inl (cO, 1, .inr (.inl (fun j => lI (g9 j))))), (x, .inr (3, [.ref b2, .ref pb, .ref n19, .ref n20])), (nd, .inr (2, [.ref b, .ref h, .ref rw4, .int (iI mn8), .int (iI sx21)])), (rw4, .inl (cR5, M6, .inl (fun j => iI (V7 j)))), (h, .inr (1, [.int (iI kd9), .int (iI cs10), .int (iI tg11), .int (iI op12), .int (iI sz13), .int (iI ct14)])), (b, .inr (0, [.ref r15, .int (iI z2)])), (r15, .inl (cA16, w17, .inl (fun j => bI (t18 j)))), (b2, .inr (0, [.ref r2, .int (iI z2)])), (r2, .inl (cA2, w2, .inl (fun j => bI (t2 j))))] H := hP
    have hD : va_D A [(ot, .inl (cO, 1, .inr (.inl (fun j => lI (g9 j))))), (x, .inr (3, [.ref b2, .ref pb, .ref n19, .ref n20])), (nd, .inr (2, [.ref b, .ref h, .ref rw4, .int (iI mn8), .int (iI sx21)])), (rw4, .inl (cR5, M6, .inl (fun j => iI (V7 j)))), (h, .inr (1, [.int (iI kd9), .int (iI cs10), .int (iI tg11), .int (iI op12), .int (iI sz13), .int (iI ct14)])), (b, .inr (0, [.ref r15, .int (iI z2)])), (r15, .inl (cA16, w17, .inl (fun j => bI (t18 j)))), (b2, .inr (0, [.ref r2, .int (iI z2)])), (r2, .inl (cA2, w2, .inl (fun j => bI (t2 j))))] := hD
    have hK : va_K (dC, dI) vwCl [(cO, .long), (cR5, .int), (cA16, .byte), (cA2, .byte)] s := hK
    obtain ⟨hw0, hCv3⟩ := hw
    rcases hw0 with ⟨rfl, hOv3⟩
    · skip
      refine vx_catch (own := RL) (name := "java/lang/UnsupportedOperationException") hown [] (⟨0, 9, 12, 25⟩ : ExceptionTableEntry) [] ht9 (fun z => (fun hz => nomatch hz)) (by decide) (by decide) (hT _ wd285) (va_Nw.use rfl (xs_cUOE hX.2.1)) hce hcv hcl ?_
      refine W.eq (g2 := F0 m 12 ls [.ref q9]) rfl ?_
      refine lv_astore_n (lv' := [(3, .ref q9), (0, .ref x), (1, .int (iI sy)), (2, .ref ot)]) hx hb dL_read_12 rfl hl (by decide) rfl (fun ls hl => ?_)
      refine lv_iconst (v := iI 1) hx hb dL_read_13 rfl ?_
      have hP9 := hP.sub (ws' := [(x, .inr (3, [.ref b2, .ref pb, .ref n19, .ref n20])), (nd, .inr (2, [.ref b, .ref h, .ref rw4, .int (iI mn8), .int (iI sx21)])), (rw4, .inl (cR5, M6, .inl (fun j => iI (V7 j)))), (h, .inr (1, [.int (iI kd9), .int (iI cs10), .int (iI tg11), .int (iI op12), .int (iI sz13), .int (iI ct14)])), (b, .inr (0, [.ref r15, .int (iI z2)])), (r15, .inl (cA16, w17, .inl (fun j => bI (t18 j)))), (b2, .inr (0, [.ref r2, .int (iI z2)])), (r2, .inl (cA2, w2, .inl (fun j => bI (t2 j)))), (ot, .inl (cO, 1, .inr (.inl (fun j => lI (g9 j)))))]) [1, 2, 3, 4, 5, 6, 7, 8, 0] rfl
      have hD9 := hD.sub (ws' := [(x, .inr (3, [.ref b2, .ref pb, .ref n19, .ref n20])), (nd, .inr (2, [.ref b, .ref h, .ref rw4, .int (iI mn8), .int (iI sx21)])), (rw4, .inl (cR5, M6, .inl (fun j => iI (V7 j)))), (h, .inr (1, [.int (iI kd9), .int (iI cs10), .int (iI tg11), .int (iI op12), .int (iI sz13), .int (iI ct14)])), (b, .inr (0, [.ref r15, .int (iI z2)])), (r15, .inl (cA16, w17, .inl (fun j => bI (t18 j)))), (b2, .inr (0, [.ref r2, .int (iI z2)])), (r2, .inl (cA2, w2, .inl (fun j => bI (t2 j)))), (ot, .inl (cO, 1, .inr (.inl (fun j => lI (g9 j)))))]) [1, 2, 3, 4, 5, 6, 7, 8, 0] (by decide) rfl
      have hK9 := hK.sub (tys' := [(cR5, .int), (cA16, .byte), (cA2, .byte), (cO, .long)]) [1, 2, 3, 0] rfl
      exact mv_iret hx hb hr hlocks (fun tS ht hW => ⟨⟨_, (rw4, cR5, M6, V7, mn8, kd9, cs10, tg11, op12, sz13, ct14, r15, cA16, w17, t18, n19, n20, sx21, g9, 1), rfl, ⟨rfl, Or.inr (⟨rfl, hOv3⟩), by omega, by omega⟩, by rw [ht]; exact hP9, va_K.moved hW.alike hK9, hD9⟩, hS.F ht⟩) hS.2.2 dL_read_14
  · skip
    obtain ⟨rw22, cR23, M24, V25, mn26, kd27, cs28, tg29, op30, sz31, ct32, r33, cA34, w35, t36, n37, n38, sx39⟩ := u
    obtain ⟨hP1, hK1, hD1⟩ := hB
    rw [ht] at hP1
    have hK1 := va_K.moved hvm.symm hK1
    try dsimp only at hw
    obtain ⟨hP, hD⟩ := va_join (wr := [(ot, .inl (cO, 1, .inr (.inl (fun j => lI (g9 j)))))]) (w1 := [(x, .inr (3, [.ref b2, .ref pb, .ref n37, .ref n38])), (nd, .inr (2, [.ref b, .ref h, .ref rw22, .int (iI mn26), .int (iI sx39)])), (rw22, .inl (cR23, M24, .inl (fun j => iI (V25 j)))), (h, .inr (1, [.int (iI kd27), .int (iI cs28), .int (iI tg29), .int (iI op30), .int (iI sz31), .int (iI ct32)])), (b, .inr (0, [.ref r33, .int (iI z2)])), (r33, .inl (cA34, w35, .inl (fun j => bI (t36 j)))), (b2, .inr (0, [.ref r2, .int (iI z2)])), (r2, .inl (cA2, w2, .inl (fun j => bI (t2 j))))]) hP hD [0, 1, 2, 3, 4, 5, 6, 7] [8] rfl rfl (by decide) (by decide) hk1 hFc hP1 hD1
    have hK := (hK.sub (tys' := [(cO, .long)]) [3] rfl).app hK1
    generalize H1 = H at hP hS ⊢
    have hP : va_P (dC, dI) vwCl [(ot, .inl (cO, 1, .inr (.inl (fun j => lI (g9 j))))), (x, .inr (3, [.ref b2, .ref pb, .ref n37, .ref n38])), (nd, .inr (2, [.ref b, .ref h, .ref rw22, .int (iI mn26), .int (iI sx39)])), (rw22, .inl (cR23, M24, .inl (fun j => iI (V25 j)))), (h, .inr (1, [.int (iI kd27), .int (iI cs28), .int (iI tg29), .int (iI op30), .int (iI sz31), .int (iI ct32)])), (b, .inr (0, [.ref r33, .int (iI z2)])), (r33, .inl (cA34, w35, .inl (fun j => bI (t36 j)))), (b2, .inr (0, [.ref r2, .int (iI z2)])), (r2, .inl (cA2, w2, .inl (fun j => bI (t2 j))))] H := hP
    have hD : va_D A [(ot, .inl (cO, 1, .inr (.inl (fun j => lI (g9 j))))), (x, .inr (3, [.ref b2, .ref pb, .ref n37, .ref n38])), (nd, .inr (2, [.ref b, .ref h, .ref rw22, .int (iI mn26), .int (iI sx39)])), (rw22, .inl (cR23, M24, .inl (fun j => iI (V25 j)))), (h, .inr (1, [.int (iI kd27), .int (iI cs28), .int (iI tg29), .int (iI op30), .int (iI sz31), .int (iI ct32)])), (b, .inr (0, [.ref r33, .int (iI z2)])), (r33, .inl (cA34, w35, .inl (fun j => bI (t36 j)))), (b2, .inr (0, [.ref r2, .int (iI z2)])), (r2, .inl (cA2, w2, .inl (fun j => bI (t2 j))))] := hD
    have hK : va_K (dC, dI) vwCl [(cO, .long), (cR23, .int), (cA34, .byte), (cA2, .byte)] s := hK
    obtain ⟨rfl, hOv3, hCv3⟩ := hw
    refine W.eq (g2 := F0 m 7 ls [.int (iI mn26), .int (iI 0), .ref ot]) rfl ?_
    have hr9 := okN_rng hOv3.2.2.2.1
    refine li_i2l hx hb (by omega) dL_read_7 ?_
    refine li_last hx hb hK hP hD hS 0 0 rfl rfl (z := 0) (by omega) (by omega) dL_read_8 (fun H locs hP hD hS => ?_)
    have hP : va_P (dC, dI) vwCl [(ot, .inl (cO, 1, .inr (.inl (fun j => lI ((vf_upd g9 (0 : Int).toNat mn26) j))))), (x, .inr (3, [.ref b2, .ref pb, .ref n37, .ref n38])), (nd, .inr (2, [.ref b, .ref h, .ref rw22, .int (iI mn26), .int (iI sx39)])), (rw22, .inl (cR23, M24, .inl (fun j => iI (V25 j)))), (h, .inr (1, [.int (iI kd27), .int (iI cs28), .int (iI tg29), .int (iI op30), .int (iI sz31), .int (iI ct32)])), (b, .inr (0, [.ref r33, .int (iI z2)])), (r33, .inl (cA34, w35, .inl (fun j => bI (t36 j)))), (b2, .inr (0, [.ref r2, .int (iI z2)])), (r2, .inl (cA2, w2, .inl (fun j => bI (t2 j))))] H := hP
    have hD : va_D A [(ot, .inl (cO, 1, .inr (.inl (fun j => lI ((vf_upd g9 (0 : Int).toNat mn26) j))))), (x, .inr (3, [.ref b2, .ref pb, .ref n37, .ref n38])), (nd, .inr (2, [.ref b, .ref h, .ref rw22, .int (iI mn26), .int (iI sx39)])), (rw22, .inl (cR23, M24, .inl (fun j => iI (V25 j)))), (h, .inr (1, [.int (iI kd27), .int (iI cs28), .int (iI tg29), .int (iI op30), .int (iI sz31), .int (iI ct32)])), (b, .inr (0, [.ref r33, .int (iI z2)])), (r33, .inl (cA34, w35, .inl (fun j => bI (t36 j)))), (b2, .inr (0, [.ref r2, .int (iI z2)])), (r2, .inl (cA2, w2, .inl (fun j => bI (t2 j))))] := hD
    refine lv_goto (tgt := 15) hx hb dL_read_9 (by decide) ?_
    refine lv_iconst (v := iI 0) hx hb dL_read_15 rfl ?_
    have hP9 := hP.sub (ws' := [(x, .inr (3, [.ref b2, .ref pb, .ref n37, .ref n38])), (nd, .inr (2, [.ref b, .ref h, .ref rw22, .int (iI mn26), .int (iI sx39)])), (rw22, .inl (cR23, M24, .inl (fun j => iI (V25 j)))), (h, .inr (1, [.int (iI kd27), .int (iI cs28), .int (iI tg29), .int (iI op30), .int (iI sz31), .int (iI ct32)])), (b, .inr (0, [.ref r33, .int (iI z2)])), (r33, .inl (cA34, w35, .inl (fun j => bI (t36 j)))), (b2, .inr (0, [.ref r2, .int (iI z2)])), (r2, .inl (cA2, w2, .inl (fun j => bI (t2 j)))), (ot, .inl (cO, 1, .inr (.inl (fun j => lI ((vf_upd g9 (0 : Int).toNat mn26) j)))))]) [1, 2, 3, 4, 5, 6, 7, 8, 0] rfl
    have hD9 := hD.sub (ws' := [(x, .inr (3, [.ref b2, .ref pb, .ref n37, .ref n38])), (nd, .inr (2, [.ref b, .ref h, .ref rw22, .int (iI mn26), .int (iI sx39)])), (rw22, .inl (cR23, M24, .inl (fun j => iI (V25 j)))), (h, .inr (1, [.int (iI kd27), .int (iI cs28), .int (iI tg29), .int (iI op30), .int (iI sz31), .int (iI ct32)])), (b, .inr (0, [.ref r33, .int (iI z2)])), (r33, .inl (cA34, w35, .inl (fun j => bI (t36 j)))), (b2, .inr (0, [.ref r2, .int (iI z2)])), (r2, .inl (cA2, w2, .inl (fun j => bI (t2 j)))), (ot, .inl (cO, 1, .inr (.inl (fun j => lI ((vf_upd g9 (0 : Int).toNat mn26) j)))))]) [1, 2, 3, 4, 5, 6, 7, 8, 0] (by decide) rfl
    have hK9 := hK.sub (tys' := [(cR23, .int), (cA34, .byte), (cA2, .byte), (cO, .long)]) [1, 2, 3, 0] rfl
    exact mv_iret hx hb hr hlocks (fun tS ht hW => ⟨⟨_, (rw22, cR23, M24, V25, mn26, kd27, cs28, tg29, op30, sz31, ct32, r33, cA34, w35, t36, n37, n38, sx39, (vf_upd g9 (0 : Int).toNat mn26), 0), rfl, ⟨rfl, Or.inl ⟨rfl, hOv3, upd_at rfl⟩, by omega, by omega⟩, by rw [ht]; exact hP9, va_K.moved hW.alike hK9, hD9⟩, hS.F ht⟩) hS.2.2 dL_read_16
set_option maxHeartbeats 4000000 in
set_option maxRecDepth 100000 in
theorem c_L_node (l : Launch) (hl9 : l.stackTraces = false) (dC : Nat → ClassId) (dI : Nat → Nat → Nat) (sz : Nat) (x : Nat) (tb : Nat) (pb : Nat) (nd : Nat) (sp : Nat) (b : Nat) (h : Nat) (rw : Nat) (mn : Int) (sx : Int) (cR : ClassId) (M : Nat) (V : Nat → Int) (a : Int) (f : Int) (ot : Nat) (cO : ClassId) (g9 : Nat → Int) (hoN : okN M V mn) (ha : -2147483648 ≤ a ∧ a < 2147483648) (hf : -2147483648 ≤ f ∧ f < 2147483648) : mv_Met l yL_node wsL_node ({ frames := 8, cells := 1, slots := 6, locals := 210 }) (va_Pc [.ref x, .int (iI a), .int (iI f), .ref ot] (fun U => U.heap.size = sz ∧ va_P (dC, dI) vwCl [(x, .inr (3, [.ref tb, .ref pb, .ref nd, .ref sp])), (nd, .inr (2, [.ref b, .ref h, .ref rw, .int (iI mn), .int (iI sx)])), (rw, .inl (cR, M, .inl (fun j => iI (V j)))), (ot, .inl (cO, 1, .inr (.inl (fun j => lI (g9 j)))))] U.heap ∧ va_K (dC, dI) vwCl [(cR, .int), (cO, .long)] U ∧ va_D (fun _ => True) [(x, .inr (3, [.ref tb, .ref pb, .ref nd, .ref sp])), (nd, .inr (2, [.ref b, .ref h, .ref rw, .int (iI mn), .int (iI sx)])), (rw, .inl (cR, M, .inl (fun j => iI (V j)))), (ot, .inl (cO, 1, .inr (.inl (fun j => lI (g9 j)))))] ∧ xsE (va_A [(x, .inr (3, [.ref tb, .ref pb, .ref nd, .ref sp])), (nd, .inr (2, [.ref b, .ref h, .ref rw, .int (iI mn), .int (iI sx)])), (rw, .inl (cR, M, .inl (fun j => iI (V j)))), (ot, .inl (cO, 1, .inr (.inl (fun j => lI (g9 j)))))] sz) U)) (mv_Q (fun (v : Option Value) (u : (Nat → Int) × Int) (k n : Nat) => match u with | (g', e') => v = some (.int (iI e')) ∧ ((e' = 0 ∧ (0 ≤ a ∧ a < mn ∧ 0 ≤ f ∧ f < 8) ∧ g' 0 = V (a * 8 + f).toNat) ∨ (e' = 1 ∧ (a < 0 ∨ mn ≤ a ∨ f < 0 ∨ 8 ≤ f))) ∧ k ≤ 1 ∧ n ≤ 6) (fun (u : (Nat → Int) × Int) (tS : State) => match u with | (g', e') => va_P (dC, dI) vwCl [(x, .inr (3, [.ref tb, .ref pb, .ref nd, .ref sp])), (nd, .inr (2, [.ref b, .ref h, .ref rw, .int (iI mn), .int (iI sx)])), (rw, .inl (cR, M, .inl (fun j => iI (V j)))), (ot, .inl (cO, 1, .inr (.inl (fun j => lI (g' j)))))] tS.heap ∧ va_K (dC, dI) vwCl [(cR, .int), (cO, .long)] tS ∧ va_D (va_A [(x, .inr (3, [.ref tb, .ref pb, .ref nd, .ref sp])), (nd, .inr (2, [.ref b, .ref h, .ref rw, .int (iI mn), .int (iI sx)])), (rw, .inl (cR, M, .inl (fun j => iI (V j)))), (ot, .inl (cO, 1, .inr (.inl (fun j => lI (g9 j)))))] sz) [(x, .inr (3, [.ref tb, .ref pb, .ref nd, .ref sp])), (nd, .inr (2, [.ref b, .ref h, .ref rw, .int (iI mn), .int (iI sx)])), (rw, .inl (cR, M, .inl (fun j => iI (V j)))), (ot, .inl (cO, 1, .inr (.inl (fun j => lI (g' j)))))]) (va_A [(x, .inr (3, [.ref tb, .ref pb, .ref nd, .ref sp])), (nd, .inr (2, [.ref b, .ref h, .ref rw, .int (iI mn), .int (iI sx)])), (rw, .inl (cR, M, .inl (fun j => iI (V j)))), (ot, .inl (cO, 1, .inr (.inl (fun j => lI (g9 j)))))] sz)) (va_A [(x, .inr (3, [.ref tb, .ref pb, .ref nd, .ref sp])), (nd, .inr (2, [.ref b, .ref h, .ref rw, .int (iI mn), .int (iI sx)])), (rw, .inl (cR, M, .inl (fun j => iI (V j)))), (ot, .inl (cO, 1, .inr (.inl (fun j => lI (g9 j)))))] sz) := by
  refine mv_ofWH (cc := cL_node) (maxL := 5) (ret := (some .int)) (by decide) rfl ?_
  intro p e s m args below meth c s₁ B hml ht9 hv
  obtain ⟨rfl, hsz, hP, hK, hD0, hX⟩ := hv
  have hx := B.exec
  have hb := B.bytes
  have hr := B.returns
  have hT : ∀ w ∈ wT, w.before _ s = true := fun w h => atoms_spec (ws := wsL_node) B.pre w (List.mem_cons_of_mem _ h)
  have hown : s.vm.findClass RL = some m.cls := findClass_of_methodNamed B.named
  have hlocks := B.notSynchronized
  subst hsz
  have hD := hD0.self (sz := s.heap.size)
  generalize hAe : va_A [(x, .inr (3, [.ref tb, .ref pb, .ref nd, .ref sp])), (nd, .inr (2, [.ref b, .ref h, .ref rw, .int (iI mn), .int (iI sx)])), (rw, .inl (cR, M, .inl (fun j => iI (V j)))), (ot, .inl (cO, 1, .inr (.inl (fun j => lI (g9 j)))))] s.heap.size = A at hD hX ⊢
  have hA : ∀ q : Nat, s.heap.size ≤ q → A q := fun q h => by rw [← hAe]; exact Or.inr h
  have hS : va_S A s.heap s.heap [] := va_S.rf
  have hP : va_P (dC, dI) vwCl [(x, .inr (3, [.ref tb, .ref pb, .ref nd, .ref sp])), (nd, .inr (2, [.ref b, .ref h, .ref rw, .int (iI mn), .int (iI sx)])), (rw, .inl (cR, M, .inl (fun j => iI (V j)))), (ot, .inl (cO, 1, .inr (.inl (fun j => lI (g9 j)))))] s.heap := hP
  have hl := lv_entry ([.ref x, .int (iI a), .int (iI f), .ref ot]) (n := 5) (Nat.le_of_ble_eq_true rfl)
  rw [lg_entry_eq]
  generalize (lg_sl ([.ref x, .int (iI a), .int (iI f), .ref ot]) ++ List.replicate (5 - (lg_sl ([.ref x, .int (iI a), .int (iI f), .ref ot])).length) Slot.unset).toArray = ls at hl ⊢
  have hl : lv_has ls 5 [(0, .ref x), (1, .int (iI a)), (2, .int (iI f)), (3, .ref ot)] := hl
  have hN := hX.1
  refine lv_aload_n hx hb dL_node_0 rfl (lv_at hl 3 rfl) ?_
  refine lv_iconst (v := iI 0) hx hb dL_node_1 rfl ?_
  refine lv_aload_n hx hb dL_node_2 rfl (lv_at hl 0 rfl) ?_
  refine lv_iload_n hx hb dL_node_3 rfl (lv_at hl 1 rfl) ?_
  refine lv_iload_n hx hb dL_node_4 rfl (lv_at hl 2 rfl) ?_
  have hPc := hP.sub (ws' := [(x, .inr (3, [.ref tb, .ref pb, .ref nd, .ref sp])), (nd, .inr (2, [.ref b, .ref h, .ref rw, .int (iI mn), .int (iI sx)])), (rw, .inl (cR, M, .inl (fun j => iI (V j))))]) [0, 1, 2] rfl
  have hDc := hD.sub (ws' := [(x, .inr (3, [.ref tb, .ref pb, .ref nd, .ref sp])), (nd, .inr (2, [.ref b, .ref h, .ref rw, .int (iI mn), .int (iI sx)])), (rw, .inl (cR, M, .inl (fun j => iI (V j))))]) [0, 1, 2] (by decide) rfl
  have hKc := hK.sub (tys' := [(cR, .int)]) [0] rfl
  have hFc := va_free (wc := [(x, .inr (3, [.ref tb, .ref pb, .ref nd, .ref sp])), (nd, .inr (2, [.ref b, .ref h, .ref rw, .int (iI mn), .int (iI sx)])), (rw, .inl (cR, M, .inl (fun j => iI (V j))))]) hD hS hA [0, 1, 2] rfl
  refine mx_call (mx_runV (As := [.int (iI a), .int (iI f)]) (rest := [.int (iI 0), .ref ot]) ⟨hx, hb, hml, hown, hT⟩ (c_R_node l hl9 dC dI s.heap.size x tb pb nd sp b h rw mn sx cR M V a f (hoN) (ha) (hf)) (cwV 2 hT (gV wd397 wd398 wd399 wd26 wd400) rfl rfl rfl (by decide +kernel) ⟨show 6 + 1 ≤ 8 from by omega, show 8 + (3 + 11) + 150 ≤ 210 from by omega⟩) ⟨fun a U g mk q => by obtain ⟨q0, q1, qP, qK, qD, qN⟩ := q; exact ⟨q0, q1, qP, va_K.moved (u := U) (U := U.calling g mk a) (Vm.Alike.refl U.vm) qK, qD, xsE_same rfl rfl qN⟩, va_recv hKc hPc (ci := 3) (q0 := 0) rfl rfl, fun U hU hW => ⟨rfl, by rw [hU], by rw [hU]; exact hPc, va_K.moved hW.alike hKc, hDc.weaken (fun _ _ _ _ => trivial), xsE_in hX hS hFc hU hW⟩⟩ rfl rfl hl.1 rfl (lv_room (Nat.le_of_ble_eq_true rfl)) dL_node_5 ⟨show 0 + 1 ≤ 1 from by omega, show 0 + 6 ≤ 6 from by omega⟩) hS (fun q _ h => hFc q h) hFc (fun E9 ce9 q9 u k1 n2 tS H1 locs ht hvm hw hB hz1 hk1 hS hce hcv hcl => ?_) (fun v3 u k1 n2 tS H1 locs ht hvm hw hB hz1 hk1 hS => ?_)
  · skip
    obtain ⟨hP1, hK1, hD1⟩ := hB
    rw [ht] at hP1
    have hK1 := va_K.moved hvm.symm hK1
    try dsimp only at hw
    obtain ⟨hP, hD⟩ := va_join (wr := [(ot, .inl (cO, 1, .inr (.inl (fun j => lI (g9 j)))))]) (w1 := [(x, .inr (3, [.ref tb, .ref pb, .ref nd, .ref sp])), (nd, .inr (2, [.ref b, .ref h, .ref rw, .int (iI mn), .int (iI sx)])), (rw, .inl (cR, M, .inl (fun j => iI (V j))))]) hP hD [0, 1, 2] [3] rfl rfl (by decide) (by decide) hk1 hFc hP1 hD1
    have hK := (hK.sub (tys' := [(cO, .long)]) [1] rfl).app hK1
    generalize H1 = H at hP hS hce ⊢
    have hP : va_P (dC, dI) vwCl [(ot, .inl (cO, 1, .inr (.inl (fun j => lI (g9 j))))), (x, .inr (3, [.ref tb, .ref pb, .ref nd, .ref sp])), (nd, .inr (2, [.ref b, .ref h, .ref rw, .int (iI mn), .int (iI sx)])), (rw, .inl (cR, M, .inl (fun j => iI (V j))))] H := hP
    have hD : va_D A [(ot, .inl (cO, 1, .inr (.inl (fun j => lI (g9 j))))), (x, .inr (3, [.ref tb, .ref pb, .ref nd, .ref sp])), (nd, .inr (2, [.ref b, .ref h, .ref rw, .int (iI mn), .int (iI sx)])), (rw, .inl (cR, M, .inl (fun j => iI (V j))))] := hD
    have hK : va_K (dC, dI) vwCl [(cO, .long), (cR, .int)] s := hK
    obtain ⟨hw0, hCv3⟩ := hw
    rcases hw0 with ⟨rfl, hOv3⟩
    · skip
      refine vx_catch (own := RL) (name := "java/lang/IllegalArgumentException") hown [] (⟨0, 10, 13, 19⟩ : ExceptionTableEntry) [] ht9 (fun z => (fun hz => nomatch hz)) (by decide) (by decide) (hT _ wd257) (va_Nw.use rfl (xs_cIAE hX.2.1)) hce hcv hcl ?_
      refine W.eq (g2 := F0 m 13 ls [.ref q9]) rfl ?_
      refine lv_astore (lv' := [(4, .ref q9), (0, .ref x), (1, .int (iI a)), (2, .int (iI f)), (3, .ref ot)]) hx hb dL_node_13 hl (by decide) rfl (fun ls hl => ?_)
      refine lv_iconst (v := iI 1) hx hb dL_node_15 rfl ?_
      have hP9 := hP.sub (ws' := [(x, .inr (3, [.ref tb, .ref pb, .ref nd, .ref sp])), (nd, .inr (2, [.ref b, .ref h, .ref rw, .int (iI mn), .int (iI sx)])), (rw, .inl (cR, M, .inl (fun j => iI (V j)))), (ot, .inl (cO, 1, .inr (.inl (fun j => lI (g9 j)))))]) [1, 2, 3, 0] rfl
      have hD9 := hD.sub (ws' := [(x, .inr (3, [.ref tb, .ref pb, .ref nd, .ref sp])), (nd, .inr (2, [.ref b, .ref h, .ref rw, .int (iI mn), .int (iI sx)])), (rw, .inl (cR, M, .inl (fun j => iI (V j)))), (ot, .inl (cO, 1, .inr (.inl (fun j => lI (g9 j)))))]) [1, 2, 3, 0] (by decide) rfl
      have hK9 := hK.sub (tys' := [(cR, .int), (cO, .long)]) [1, 0] rfl
      exact mv_iret hx hb hr hlocks (fun tS ht hW => ⟨⟨_, (g9, 1), rfl, ⟨rfl, Or.inr (⟨rfl, hOv3⟩), by omega, by omega⟩, by rw [ht]; exact hP9, va_K.moved hW.alike hK9, hD9⟩, hS.F ht⟩) hS.2.2 dL_node_16
  · skip
    obtain ⟨hP1, hK1, hD1⟩ := hB
    rw [ht] at hP1
    have hK1 := va_K.moved hvm.symm hK1
    try dsimp only at hw
    obtain ⟨hP, hD⟩ := va_join (wr := [(ot, .inl (cO, 1, .inr (.inl (fun j => lI (g9 j)))))]) (w1 := [(x, .inr (3, [.ref tb, .ref pb, .ref nd, .ref sp])), (nd, .inr (2, [.ref b, .ref h, .ref rw, .int (iI mn), .int (iI sx)])), (rw, .inl (cR, M, .inl (fun j => iI (V j))))]) hP hD [0, 1, 2] [3] rfl rfl (by decide) (by decide) hk1 hFc hP1 hD1
    have hK := (hK.sub (tys' := [(cO, .long)]) [1] rfl).app hK1
    generalize H1 = H at hP hS ⊢
    have hP : va_P (dC, dI) vwCl [(ot, .inl (cO, 1, .inr (.inl (fun j => lI (g9 j))))), (x, .inr (3, [.ref tb, .ref pb, .ref nd, .ref sp])), (nd, .inr (2, [.ref b, .ref h, .ref rw, .int (iI mn), .int (iI sx)])), (rw, .inl (cR, M, .inl (fun j => iI (V j))))] H := hP
    have hD : va_D A [(ot, .inl (cO, 1, .inr (.inl (fun j => lI (g9 j))))), (x, .inr (3, [.ref tb, .ref pb, .ref nd, .ref sp])), (nd, .inr (2, [.ref b, .ref h, .ref rw, .int (iI mn), .int (iI sx)])), (rw, .inl (cR, M, .inl (fun j => iI (V j))))] := hD
    have hK : va_K (dC, dI) vwCl [(cO, .long), (cR, .int)] s := hK
    obtain ⟨rfl, hOv3, hCv3⟩ := hw
    refine W.eq (g2 := F0 m 8 ls [.int (iI (V (a * 8 + f).toNat)), .int (iI 0), .ref ot]) rfl ?_
    have hr9 := hoN.2.2.2.2.2.1 (a * 8 + f).toNat
    refine li_i2l hx hb (by omega) dL_node_8 ?_
    refine li_last hx hb hK hP hD hS 0 0 rfl rfl (z := 0) (by omega) (by omega) dL_node_9 (fun H locs hP hD hS => ?_)
    have hP : va_P (dC, dI) vwCl [(ot, .inl (cO, 1, .inr (.inl (fun j => lI ((vf_upd g9 (0 : Int).toNat (V (a * 8 + f).toNat)) j))))), (x, .inr (3, [.ref tb, .ref pb, .ref nd, .ref sp])), (nd, .inr (2, [.ref b, .ref h, .ref rw, .int (iI mn), .int (iI sx)])), (rw, .inl (cR, M, .inl (fun j => iI (V j))))] H := hP
    have hD : va_D A [(ot, .inl (cO, 1, .inr (.inl (fun j => lI ((vf_upd g9 (0 : Int).toNat (V (a * 8 + f).toNat)) j))))), (x, .inr (3, [.ref tb, .ref pb, .ref nd, .ref sp])), (nd, .inr (2, [.ref b, .ref h, .ref rw, .int (iI mn), .int (iI sx)])), (rw, .inl (cR, M, .inl (fun j => iI (V j))))] := hD
    refine lv_goto (tgt := 17) hx hb dL_node_10 (by decide) ?_
    refine lv_iconst (v := iI 0) hx hb dL_node_17 rfl ?_
    have hP9 := hP.sub (ws' := [(x, .inr (3, [.ref tb, .ref pb, .ref nd, .ref sp])), (nd, .inr (2, [.ref b, .ref h, .ref rw, .int (iI mn), .int (iI sx)])), (rw, .inl (cR, M, .inl (fun j => iI (V j)))), (ot, .inl (cO, 1, .inr (.inl (fun j => lI ((vf_upd g9 (0 : Int).toNat (V (a * 8 + f).toNat)) j)))))]) [1, 2, 3, 0] rfl
    have hD9 := hD.sub (ws' := [(x, .inr (3, [.ref tb, .ref pb, .ref nd, .ref sp])), (nd, .inr (2, [.ref b, .ref h, .ref rw, .int (iI mn), .int (iI sx)])), (rw, .inl (cR, M, .inl (fun j => iI (V j)))), (ot, .inl (cO, 1, .inr (.inl (fun j => lI ((vf_upd g9 (0 : Int).toNat (V (a * 8 + f).toNat)) j)))))]) [1, 2, 3, 0] (by decide) rfl
    have hK9 := hK.sub (tys' := [(cR, .int), (cO, .long)]) [1, 0] rfl
    exact mv_iret hx hb hr hlocks (fun tS ht hW => ⟨⟨_, ((vf_upd g9 (0 : Int).toNat (V (a * 8 + f).toNat)), 0), rfl, ⟨rfl, Or.inl ⟨rfl, hOv3, upd_at rfl⟩, by omega, by omega⟩, by rw [ht]; exact hP9, va_K.moved hW.alike hK9, hD9⟩, hS.F ht⟩) hS.2.2 dL_node_18
set_option maxHeartbeats 4000000 in
set_option maxRecDepth 100000 in
theorem c_L_number (l : Launch) (hl9 : l.stackTraces = false) (dC : Nat → ClassId) (dI : Nat → Nat → Nat) (sz : Nat) (x : Nat) (tb : Nat) (pb : Nat) (nd : Nat) (sp : Nat) (b : Nat) (h : Nat) (rw : Nat) (mn : Int) (sx : Int) (cR : ClassId) (M : Nat) (V : Nat → Int) (r : Nat) (cA : ClassId) (w : Nat) (t : Nat → Int) (z : Int) (L : List Int) (a : Int) (ot : Nat) (cO : ClassId) (g9 : Nat → Int) (hoN : okN M V mn) (hok : okB w t z L) (ha : -2147483648 ≤ a ∧ a < 2147483648) : mv_Met l yL_number wsL_number ({ frames := 10, cells := 1, slots := 6, locals := 310 }) (va_Pc [.ref x, .int (iI a), .ref ot] (fun U => U.heap.size = sz ∧ va_P (dC, dI) vwCl [(x, .inr (3, [.ref tb, .ref pb, .ref nd, .ref sp])), (nd, .inr (2, [.ref b, .ref h, .ref rw, .int (iI mn), .int (iI sx)])), (rw, .inl (cR, M, .inl (fun j => iI (V j)))), (b, .inr (0, [.ref r, .int (iI z)])), (r, .inl (cA, w, .inl (fun j => bI (t j)))), (ot, .inl (cO, 1, .inr (.inl (fun j => lI (g9 j)))))] U.heap ∧ va_K (dC, dI) vwCl [(cR, .int), (cA, .byte), (cO, .long)] U ∧ va_D (fun _ => True) [(x, .inr (3, [.ref tb, .ref pb, .ref nd, .ref sp])), (nd, .inr (2, [.ref b, .ref h, .ref rw, .int (iI mn), .int (iI sx)])), (rw, .inl (cR, M, .inl (fun j => iI (V j)))), (b, .inr (0, [.ref r, .int (iI z)])), (r, .inl (cA, w, .inl (fun j => bI (t j)))), (ot, .inl (cO, 1, .inr (.inl (fun j => lI (g9 j)))))] ∧ xsE (va_A [(x, .inr (3, [.ref tb, .ref pb, .ref nd, .ref sp])), (nd, .inr (2, [.ref b, .ref h, .ref rw, .int (iI mn), .int (iI sx)])), (rw, .inl (cR, M, .inl (fun j => iI (V j)))), (b, .inr (0, [.ref r, .int (iI z)])), (r, .inl (cA, w, .inl (fun j => bI (t j)))), (ot, .inl (cO, 1, .inr (.inl (fun j => lI (g9 j)))))] sz) U)) (mv_Q (fun (v : Option Value) (u : (Nat → Int) × Int) (k n : Nat) => match u with | (g', e') => v = some (.int (iI e')) ∧ ((e' = 0 ∧ (0 ≤ a ∧ a < mn ∧ ¬ V (a * 8 + 2).toNat = 1 ∧ hnum L V a) ∧ g' 0 = sgn L V a) ∨ (e' = 1 ∧ (a < 0 ∨ mn ≤ a)) ∨ (e' = 2 ∧ (0 ≤ a ∧ a < mn ∧ V (a * 8 + 2).toNat = 1)) ∨ (e' = 3 ∧ (0 ≤ a ∧ a < mn ∧ ¬ V (a * 8 + 2).toNat = 1 ∧ ¬ hnum L V a))) ∧ k ≤ 1 ∧ n ≤ 6) (fun (u : (Nat → Int) × Int) (tS : State) => match u with | (g', e') => va_P (dC, dI) vwCl [(x, .inr (3, [.ref tb, .ref pb, .ref nd, .ref sp])), (nd, .inr (2, [.ref b, .ref h, .ref rw, .int (iI mn), .int (iI sx)])), (rw, .inl (cR, M, .inl (fun j => iI (V j)))), (b, .inr (0, [.ref r, .int (iI z)])), (r, .inl (cA, w, .inl (fun j => bI (t j)))), (ot, .inl (cO, 1, .inr (.inl (fun j => lI (g' j)))))] tS.heap ∧ va_K (dC, dI) vwCl [(cR, .int), (cA, .byte), (cO, .long)] tS ∧ va_D (va_A [(x, .inr (3, [.ref tb, .ref pb, .ref nd, .ref sp])), (nd, .inr (2, [.ref b, .ref h, .ref rw, .int (iI mn), .int (iI sx)])), (rw, .inl (cR, M, .inl (fun j => iI (V j)))), (b, .inr (0, [.ref r, .int (iI z)])), (r, .inl (cA, w, .inl (fun j => bI (t j)))), (ot, .inl (cO, 1, .inr (.inl (fun j => lI (g9 j)))))] sz) [(x, .inr (3, [.ref tb, .ref pb, .ref nd, .ref sp])), (nd, .inr (2, [.ref b, .ref h, .ref rw, .int (iI mn), .int (iI sx)])), (rw, .inl (cR, M, .inl (fun j => iI (V j)))), (b, .inr (0, [.ref r, .int (iI z)])), (r, .inl (cA, w, .inl (fun j => bI (t j)))), (ot, .inl (cO, 1, .inr (.inl (fun j => lI (g' j)))))]) (va_A [(x, .inr (3, [.ref tb, .ref pb, .ref nd, .ref sp])), (nd, .inr (2, [.ref b, .ref h, .ref rw, .int (iI mn), .int (iI sx)])), (rw, .inl (cR, M, .inl (fun j => iI (V j)))), (b, .inr (0, [.ref r, .int (iI z)])), (r, .inl (cA, w, .inl (fun j => bI (t j)))), (ot, .inl (cO, 1, .inr (.inl (fun j => lI (g9 j)))))] sz)) (va_A [(x, .inr (3, [.ref tb, .ref pb, .ref nd, .ref sp])), (nd, .inr (2, [.ref b, .ref h, .ref rw, .int (iI mn), .int (iI sx)])), (rw, .inl (cR, M, .inl (fun j => iI (V j)))), (b, .inr (0, [.ref r, .int (iI z)])), (r, .inl (cA, w, .inl (fun j => bI (t j)))), (ot, .inl (cO, 1, .inr (.inl (fun j => lI (g9 j)))))] sz) := by
  refine mv_ofWH (cc := cL_number) (maxL := 4) (ret := (some .int)) (by decide) rfl ?_
  intro p e s m args below meth c s₁ B hml ht9 hv
  obtain ⟨rfl, hsz, hP, hK, hD0, hX⟩ := hv
  have hx := B.exec
  have hb := B.bytes
  have hr := B.returns
  have hT : ∀ w ∈ wT, w.before _ s = true := fun w h => atoms_spec (ws := wsL_number) B.pre w (List.mem_cons_of_mem _ h)
  have hown : s.vm.findClass RL = some m.cls := findClass_of_methodNamed B.named
  have hlocks := B.notSynchronized
  subst hsz
  have hD := hD0.self (sz := s.heap.size)
  generalize hAe : va_A [(x, .inr (3, [.ref tb, .ref pb, .ref nd, .ref sp])), (nd, .inr (2, [.ref b, .ref h, .ref rw, .int (iI mn), .int (iI sx)])), (rw, .inl (cR, M, .inl (fun j => iI (V j)))), (b, .inr (0, [.ref r, .int (iI z)])), (r, .inl (cA, w, .inl (fun j => bI (t j)))), (ot, .inl (cO, 1, .inr (.inl (fun j => lI (g9 j)))))] s.heap.size = A at hD hX ⊢
  have hA : ∀ q : Nat, s.heap.size ≤ q → A q := fun q h => by rw [← hAe]; exact Or.inr h
  have hS : va_S A s.heap s.heap [] := va_S.rf
  have hP : va_P (dC, dI) vwCl [(x, .inr (3, [.ref tb, .ref pb, .ref nd, .ref sp])), (nd, .inr (2, [.ref b, .ref h, .ref rw, .int (iI mn), .int (iI sx)])), (rw, .inl (cR, M, .inl (fun j => iI (V j)))), (b, .inr (0, [.ref r, .int (iI z)])), (r, .inl (cA, w, .inl (fun j => bI (t j)))), (ot, .inl (cO, 1, .inr (.inl (fun j => lI (g9 j)))))] s.heap := hP
  have hl := lv_entry ([.ref x, .int (iI a), .ref ot]) (n := 4) (Nat.le_of_ble_eq_true rfl)
  rw [lg_entry_eq]
  generalize (lg_sl ([.ref x, .int (iI a), .ref ot]) ++ List.replicate (4 - (lg_sl ([.ref x, .int (iI a), .ref ot])).length) Slot.unset).toArray = ls at hl ⊢
  have hl : lv_has ls 4 [(0, .ref x), (1, .int (iI a)), (2, .ref ot)] := hl
  have hN := hX.1
  refine lv_aload_n hx hb dL_number_0 rfl (lv_at hl 2 rfl) ?_
  refine lv_iconst (v := iI 0) hx hb dL_number_1 rfl ?_
  refine lv_aload_n hx hb dL_number_2 rfl (lv_at hl 0 rfl) ?_
  refine lv_iload_n hx hb dL_number_3 rfl (lv_at hl 1 rfl) ?_
  have hPc := hP.sub (ws' := [(x, .inr (3, [.ref tb, .ref pb, .ref nd, .ref sp])), (nd, .inr (2, [.ref b, .ref h, .ref rw, .int (iI mn), .int (iI sx)])), (rw, .inl (cR, M, .inl (fun j => iI (V j)))), (b, .inr (0, [.ref r, .int (iI z)])), (r, .inl (cA, w, .inl (fun j => bI (t j))))]) [0, 1, 2, 3, 4] rfl
  have hDc := hD.sub (ws' := [(x, .inr (3, [.ref tb, .ref pb, .ref nd, .ref sp])), (nd, .inr (2, [.ref b, .ref h, .ref rw, .int (iI mn), .int (iI sx)])), (rw, .inl (cR, M, .inl (fun j => iI (V j)))), (b, .inr (0, [.ref r, .int (iI z)])), (r, .inl (cA, w, .inl (fun j => bI (t j))))]) [0, 1, 2, 3, 4] (by decide) rfl
  have hKc := hK.sub (tys' := [(cR, .int), (cA, .byte)]) [0, 1] rfl
  have hFc := va_free (wc := [(x, .inr (3, [.ref tb, .ref pb, .ref nd, .ref sp])), (nd, .inr (2, [.ref b, .ref h, .ref rw, .int (iI mn), .int (iI sx)])), (rw, .inl (cR, M, .inl (fun j => iI (V j)))), (b, .inr (0, [.ref r, .int (iI z)])), (r, .inl (cA, w, .inl (fun j => bI (t j))))]) hD hS hA [0, 1, 2, 3, 4] rfl
  refine mx_call (mx_runV (As := [.int (iI a)]) (rest := [.int (iI 0), .ref ot]) ⟨hx, hb, hml, hown, hT⟩ (c_R_number l hl9 dC dI s.heap.size x tb pb nd sp b h rw mn sx cR M V r cA w t z L a (hoN) (hok) (ha)) (cwV 1 hT (gV wd409 wd410 wd411 wd26 wd412) rfl rfl rfl (by decide +kernel) ⟨show 8 + 1 ≤ 10 from by omega, show 8 + (2 + 11) + 250 ≤ 310 from by omega⟩) ⟨fun a U g mk q => by obtain ⟨q0, q1, qP, qK, qD, qN⟩ := q; exact ⟨q0, q1, qP, va_K.moved (u := U) (U := U.calling g mk a) (Vm.Alike.refl U.vm) qK, qD, xsE_same rfl rfl qN⟩, va_recv hKc hPc (ci := 3) (q0 := 0) rfl rfl, fun U hU hW => ⟨rfl, by rw [hU], by rw [hU]; exact hPc, va_K.moved hW.alike hKc, hDc.weaken (fun _ _ _ _ => trivial), xsE_in hX hS hFc hU hW⟩⟩ rfl rfl hl.1 rfl (lv_room (Nat.le_of_ble_eq_true rfl)) dL_number_4 ⟨show 0 + 1 ≤ 1 from by omega, show 0 + 6 ≤ 6 from by omega⟩) hS (fun q _ h => hFc q h) hFc (fun E9 ce9 q9 u k1 n2 tS H1 locs ht hvm hw hB hz1 hk1 hS hce hcv hcl => ?_) (fun v3 u k1 n2 tS H1 locs ht hvm hw hB hz1 hk1 hS => ?_)
  · skip
    obtain ⟨hP1, hK1, hD1⟩ := hB
    rw [ht] at hP1
    have hK1 := va_K.moved hvm.symm hK1
    try dsimp only at hw
    obtain ⟨hP, hD⟩ := va_join (wr := [(ot, .inl (cO, 1, .inr (.inl (fun j => lI (g9 j)))))]) (w1 := [(x, .inr (3, [.ref tb, .ref pb, .ref nd, .ref sp])), (nd, .inr (2, [.ref b, .ref h, .ref rw, .int (iI mn), .int (iI sx)])), (rw, .inl (cR, M, .inl (fun j => iI (V j)))), (b, .inr (0, [.ref r, .int (iI z)])), (r, .inl (cA, w, .inl (fun j => bI (t j))))]) hP hD [0, 1, 2, 3, 4] [5] rfl rfl (by decide) (by decide) hk1 hFc hP1 hD1
    have hK := (hK.sub (tys' := [(cO, .long)]) [2] rfl).app hK1
    generalize H1 = H at hP hS hce ⊢
    have hP : va_P (dC, dI) vwCl [(ot, .inl (cO, 1, .inr (.inl (fun j => lI (g9 j))))), (x, .inr (3, [.ref tb, .ref pb, .ref nd, .ref sp])), (nd, .inr (2, [.ref b, .ref h, .ref rw, .int (iI mn), .int (iI sx)])), (rw, .inl (cR, M, .inl (fun j => iI (V j)))), (b, .inr (0, [.ref r, .int (iI z)])), (r, .inl (cA, w, .inl (fun j => bI (t j))))] H := hP
    have hD : va_D A [(ot, .inl (cO, 1, .inr (.inl (fun j => lI (g9 j))))), (x, .inr (3, [.ref tb, .ref pb, .ref nd, .ref sp])), (nd, .inr (2, [.ref b, .ref h, .ref rw, .int (iI mn), .int (iI sx)])), (rw, .inl (cR, M, .inl (fun j => iI (V j)))), (b, .inr (0, [.ref r, .int (iI z)])), (r, .inl (cA, w, .inl (fun j => bI (t j))))] := hD
    have hK : va_K (dC, dI) vwCl [(cO, .long), (cR, .int), (cA, .byte)] s := hK
    obtain ⟨hw0, hCv3⟩ := hw
    rcases hw0 with ⟨rfl, hOv3⟩ | ⟨rfl, hOv3⟩ | ⟨rfl, hOv3⟩
    · skip
      refine vx_catch (own := RL) (name := "java/lang/IllegalArgumentException") hown [] (⟨0, 8, 11, 19⟩ : ExceptionTableEntry) [(⟨0, 8, 14, 25⟩ : ExceptionTableEntry), (⟨0, 8, 17, 35⟩ : ExceptionTableEntry)] ht9 (fun z => (fun hz => nomatch hz)) (by decide) (by decide) (hT _ wd257) (va_Nw.use rfl (xs_cIAE hX.2.1)) hce hcv hcl ?_
      refine W.eq (g2 := F0 m 11 ls [.ref q9]) rfl ?_
      refine lv_astore_n (lv' := [(3, .ref q9), (0, .ref x), (1, .int (iI a)), (2, .ref ot)]) hx hb dL_number_11 rfl hl (by decide) rfl (fun ls hl => ?_)
      refine lv_iconst (v := iI 1) hx hb dL_number_12 rfl ?_
      have hP9 := hP.sub (ws' := [(x, .inr (3, [.ref tb, .ref pb, .ref nd, .ref sp])), (nd, .inr (2, [.ref b, .ref h, .ref rw, .int (iI mn), .int (iI sx)])), (rw, .inl (cR, M, .inl (fun j => iI (V j)))), (b, .inr (0, [.ref r, .int (iI z)])), (r, .inl (cA, w, .inl (fun j => bI (t j)))), (ot, .inl (cO, 1, .inr (.inl (fun j => lI (g9 j)))))]) [1, 2, 3, 4, 5, 0] rfl
      have hD9 := hD.sub (ws' := [(x, .inr (3, [.ref tb, .ref pb, .ref nd, .ref sp])), (nd, .inr (2, [.ref b, .ref h, .ref rw, .int (iI mn), .int (iI sx)])), (rw, .inl (cR, M, .inl (fun j => iI (V j)))), (b, .inr (0, [.ref r, .int (iI z)])), (r, .inl (cA, w, .inl (fun j => bI (t j)))), (ot, .inl (cO, 1, .inr (.inl (fun j => lI (g9 j)))))]) [1, 2, 3, 4, 5, 0] (by decide) rfl
      have hK9 := hK.sub (tys' := [(cR, .int), (cA, .byte), (cO, .long)]) [1, 2, 0] rfl
      exact mv_iret hx hb hr hlocks (fun tS ht hW => ⟨⟨_, (g9, 1), rfl, ⟨rfl, Or.inr (Or.inl ⟨rfl, hOv3⟩), by omega, by omega⟩, by rw [ht]; exact hP9, va_K.moved hW.alike hK9, hD9⟩, hS.F ht⟩) hS.2.2 dL_number_13
    · skip
      refine vx_catch (own := RL) (name := "java/lang/UnsupportedOperationException") hown [(⟨0, 8, 11, 19⟩ : ExceptionTableEntry)] (⟨0, 8, 14, 25⟩ : ExceptionTableEntry) [(⟨0, 8, 17, 35⟩ : ExceptionTableEntry)] ht9 (fun z => (fun hz => (List.mem_cons.mp hz).elim (fun e => by subst e; exact Or.inr ⟨by decide, "java/lang/IllegalArgumentException", (hT _ wd257), xs_nUOEIAE hX.2.1⟩) (fun hz => nomatch hz))) (by decide) (by decide) (hT _ wd285) (va_Nw.use rfl (xs_cUOE hX.2.1)) hce hcv hcl ?_
      refine W.eq (g2 := F0 m 14 ls [.ref q9]) rfl ?_
      refine lv_astore_n (lv' := [(3, .ref q9), (0, .ref x), (1, .int (iI a)), (2, .ref ot)]) hx hb dL_number_14 rfl hl (by decide) rfl (fun ls hl => ?_)
      refine lv_iconst (v := iI 2) hx hb dL_number_15 rfl ?_
      have hP9 := hP.sub (ws' := [(x, .inr (3, [.ref tb, .ref pb, .ref nd, .ref sp])), (nd, .inr (2, [.ref b, .ref h, .ref rw, .int (iI mn), .int (iI sx)])), (rw, .inl (cR, M, .inl (fun j => iI (V j)))), (b, .inr (0, [.ref r, .int (iI z)])), (r, .inl (cA, w, .inl (fun j => bI (t j)))), (ot, .inl (cO, 1, .inr (.inl (fun j => lI (g9 j)))))]) [1, 2, 3, 4, 5, 0] rfl
      have hD9 := hD.sub (ws' := [(x, .inr (3, [.ref tb, .ref pb, .ref nd, .ref sp])), (nd, .inr (2, [.ref b, .ref h, .ref rw, .int (iI mn), .int (iI sx)])), (rw, .inl (cR, M, .inl (fun j => iI (V j)))), (b, .inr (0, [.ref r, .int (iI z)])), (r, .inl (cA, w, .inl (fun j => bI (t j)))), (ot, .inl (cO, 1, .inr (.inl (fun j => lI (g9 j)))))]) [1, 2, 3, 4, 5, 0] (by decide) rfl
      have hK9 := hK.sub (tys' := [(cR, .int), (cA, .byte), (cO, .long)]) [1, 2, 0] rfl
      exact mv_iret hx hb hr hlocks (fun tS ht hW => ⟨⟨_, (g9, 2), rfl, ⟨rfl, Or.inr (Or.inr (Or.inl ⟨rfl, hOv3⟩)), by omega, by omega⟩, by rw [ht]; exact hP9, va_K.moved hW.alike hK9, hD9⟩, hS.F ht⟩) hS.2.2 dL_number_16
    · skip
      refine vx_catch (own := RL) (name := "java/lang/ArithmeticException") hown [(⟨0, 8, 11, 19⟩ : ExceptionTableEntry), (⟨0, 8, 14, 25⟩ : ExceptionTableEntry)] (⟨0, 8, 17, 35⟩ : ExceptionTableEntry) [] ht9 (fun z => (fun hz => (List.mem_cons.mp hz).elim (fun e => by subst e; exact Or.inr ⟨by decide, "java/lang/IllegalArgumentException", (hT _ wd257), xs_nAEIAE hX.2.1⟩) (fun hz => (List.mem_cons.mp hz).elim (fun e => by subst e; exact Or.inr ⟨by decide, "java/lang/UnsupportedOperationException", (hT _ wd285), xs_nAEUOE hX.2.1⟩) (fun hz => nomatch hz)))) (by decide) (by decide) (hT _ wd408) (va_Nw.use rfl (xs_cAE hX.2.1)) hce hcv hcl ?_
      refine W.eq (g2 := F0 m 17 ls [.ref q9]) rfl ?_
      refine lv_astore_n (lv' := [(3, .ref q9), (0, .ref x), (1, .int (iI a)), (2, .ref ot)]) hx hb dL_number_17 rfl hl (by decide) rfl (fun ls hl => ?_)
      refine lv_iconst (v := iI 3) hx hb dL_number_18 rfl ?_
      have hP9 := hP.sub (ws' := [(x, .inr (3, [.ref tb, .ref pb, .ref nd, .ref sp])), (nd, .inr (2, [.ref b, .ref h, .ref rw, .int (iI mn), .int (iI sx)])), (rw, .inl (cR, M, .inl (fun j => iI (V j)))), (b, .inr (0, [.ref r, .int (iI z)])), (r, .inl (cA, w, .inl (fun j => bI (t j)))), (ot, .inl (cO, 1, .inr (.inl (fun j => lI (g9 j)))))]) [1, 2, 3, 4, 5, 0] rfl
      have hD9 := hD.sub (ws' := [(x, .inr (3, [.ref tb, .ref pb, .ref nd, .ref sp])), (nd, .inr (2, [.ref b, .ref h, .ref rw, .int (iI mn), .int (iI sx)])), (rw, .inl (cR, M, .inl (fun j => iI (V j)))), (b, .inr (0, [.ref r, .int (iI z)])), (r, .inl (cA, w, .inl (fun j => bI (t j)))), (ot, .inl (cO, 1, .inr (.inl (fun j => lI (g9 j)))))]) [1, 2, 3, 4, 5, 0] (by decide) rfl
      have hK9 := hK.sub (tys' := [(cR, .int), (cA, .byte), (cO, .long)]) [1, 2, 0] rfl
      exact mv_iret hx hb hr hlocks (fun tS ht hW => ⟨⟨_, (g9, 3), rfl, ⟨rfl, Or.inr (Or.inr (Or.inr (⟨rfl, hOv3⟩))), by omega, by omega⟩, by rw [ht]; exact hP9, va_K.moved hW.alike hK9, hD9⟩, hS.F ht⟩) hS.2.2 dL_number_19
  · skip
    obtain ⟨hP1, hK1, hD1⟩ := hB
    rw [ht] at hP1
    have hK1 := va_K.moved hvm.symm hK1
    try dsimp only at hw
    obtain ⟨hP, hD⟩ := va_join (wr := [(ot, .inl (cO, 1, .inr (.inl (fun j => lI (g9 j)))))]) (w1 := [(x, .inr (3, [.ref tb, .ref pb, .ref nd, .ref sp])), (nd, .inr (2, [.ref b, .ref h, .ref rw, .int (iI mn), .int (iI sx)])), (rw, .inl (cR, M, .inl (fun j => iI (V j)))), (b, .inr (0, [.ref r, .int (iI z)])), (r, .inl (cA, w, .inl (fun j => bI (t j))))]) hP hD [0, 1, 2, 3, 4] [5] rfl rfl (by decide) (by decide) hk1 hFc hP1 hD1
    have hK := (hK.sub (tys' := [(cO, .long)]) [2] rfl).app hK1
    generalize H1 = H at hP hS ⊢
    have hP : va_P (dC, dI) vwCl [(ot, .inl (cO, 1, .inr (.inl (fun j => lI (g9 j))))), (x, .inr (3, [.ref tb, .ref pb, .ref nd, .ref sp])), (nd, .inr (2, [.ref b, .ref h, .ref rw, .int (iI mn), .int (iI sx)])), (rw, .inl (cR, M, .inl (fun j => iI (V j)))), (b, .inr (0, [.ref r, .int (iI z)])), (r, .inl (cA, w, .inl (fun j => bI (t j))))] H := hP
    have hD : va_D A [(ot, .inl (cO, 1, .inr (.inl (fun j => lI (g9 j))))), (x, .inr (3, [.ref tb, .ref pb, .ref nd, .ref sp])), (nd, .inr (2, [.ref b, .ref h, .ref rw, .int (iI mn), .int (iI sx)])), (rw, .inl (cR, M, .inl (fun j => iI (V j)))), (b, .inr (0, [.ref r, .int (iI z)])), (r, .inl (cA, w, .inl (fun j => bI (t j))))] := hD
    have hK : va_K (dC, dI) vwCl [(cO, .long), (cR, .int), (cA, .byte)] s := hK
    obtain ⟨rfl, hOv3, hCv3⟩ := hw
    refine W.eq (g2 := F0 m 7 ls [.long (lI (sgn L V a)), .int (iI 0), .ref ot]) rfl ?_
    refine li_last hx hb hK hP hD hS 0 0 rfl rfl (z := 0) (by omega) (by omega) dL_number_7 (fun H locs hP hD hS => ?_)
    have hP : va_P (dC, dI) vwCl [(ot, .inl (cO, 1, .inr (.inl (fun j => lI ((vf_upd g9 (0 : Int).toNat (sgn L V a)) j))))), (x, .inr (3, [.ref tb, .ref pb, .ref nd, .ref sp])), (nd, .inr (2, [.ref b, .ref h, .ref rw, .int (iI mn), .int (iI sx)])), (rw, .inl (cR, M, .inl (fun j => iI (V j)))), (b, .inr (0, [.ref r, .int (iI z)])), (r, .inl (cA, w, .inl (fun j => bI (t j))))] H := hP
    have hD : va_D A [(ot, .inl (cO, 1, .inr (.inl (fun j => lI ((vf_upd g9 (0 : Int).toNat (sgn L V a)) j))))), (x, .inr (3, [.ref tb, .ref pb, .ref nd, .ref sp])), (nd, .inr (2, [.ref b, .ref h, .ref rw, .int (iI mn), .int (iI sx)])), (rw, .inl (cR, M, .inl (fun j => iI (V j)))), (b, .inr (0, [.ref r, .int (iI z)])), (r, .inl (cA, w, .inl (fun j => bI (t j))))] := hD
    refine lv_goto (tgt := 20) hx hb dL_number_8 (by decide) ?_
    refine lv_iconst (v := iI 0) hx hb dL_number_20 rfl ?_
    have hP9 := hP.sub (ws' := [(x, .inr (3, [.ref tb, .ref pb, .ref nd, .ref sp])), (nd, .inr (2, [.ref b, .ref h, .ref rw, .int (iI mn), .int (iI sx)])), (rw, .inl (cR, M, .inl (fun j => iI (V j)))), (b, .inr (0, [.ref r, .int (iI z)])), (r, .inl (cA, w, .inl (fun j => bI (t j)))), (ot, .inl (cO, 1, .inr (.inl (fun j => lI ((vf_upd g9 (0 : Int).toNat (sgn L V a)) j)))))]) [1, 2, 3, 4, 5, 0] rfl
    have hD9 := hD.sub (ws' := [(x, .inr (3, [.ref tb, .ref pb, .ref nd, .ref sp])), (nd, .inr (2, [.ref b, .ref h, .ref rw, .int (iI mn), .int (iI sx)])), (rw, .inl (cR, M, .inl (fun j => iI (V j)))), (b, .inr (0, [.ref r, .int (iI z)])), (r, .inl (cA, w, .inl (fun j => bI (t j)))), (ot, .inl (cO, 1, .inr (.inl (fun j => lI ((vf_upd g9 (0 : Int).toNat (sgn L V a)) j)))))]) [1, 2, 3, 4, 5, 0] (by decide) rfl
    have hK9 := hK.sub (tys' := [(cR, .int), (cA, .byte), (cO, .long)]) [1, 2, 0] rfl
    exact mv_iret hx hb hr hlocks (fun tS ht hW => ⟨⟨_, ((vf_upd g9 (0 : Int).toNat (sgn L V a)), 0), rfl, ⟨rfl, Or.inl ⟨rfl, hOv3, upd_at rfl⟩, by omega, by omega⟩, by rw [ht]; exact hP9, va_K.moved hW.alike hK9, hD9⟩, hS.F ht⟩) hS.2.2 dL_number_21
set_option maxHeartbeats 4000000 in
set_option maxRecDepth 100000 in
theorem c_L_wrap (l : Launch) (hl9 : l.stackTraces = false) (dC : Nat → ClassId) (dI : Nat → Nat → Nat) (sz : Nat) (rr : Nat) (tp : Nat) (nda : Nat) (ndb : Nat) (b : Nat) (r : Nat) (cA : ClassId) (w : Nat) (t : Nat → Int) (z : Int) (L : List Int) (r2 : Nat) (cA2 : ClassId) (w2 : Nat) (t2 : Nat → Int) (z2 : Int) (L2 : List Int) (x : Int) (y : Int) (cs : Int) (ot : Nat) (cO : ClassId) (g9 : Nat → Int) (hok : okB w t z L) (hok2 : okB w2 t2 z2 L2) (hx4 : -2147483648 ≤ x ∧ x < 2147483648) (hy : -2147483648 ≤ y ∧ y < 2147483648) (hcs : cs = 0 ∨ cs = 1) : mv_Met l yL_wrap wsL_wrap ({ frames := 10, cells := (phB w + phB w2 + 6), slots := (phB w + phB w2 + 6), locals := 360 }) (va_Pc [.ref rr, .int (iI x), .int (iI y), .int (iI cs), .ref ot] (fun U => U.heap.size = sz ∧ va_P (dC, dI) vwCl [(rr, .inr (3, [.ref tp, .ref b, .ref nda, .ref ndb])), (tp, .inr (0, [.ref r2, .int (iI z2)])), (r2, .inl (cA2, w2, .inl (fun j => bI (t2 j)))), (b, .inr (0, [.ref r, .int (iI z)])), (r, .inl (cA, w, .inl (fun j => bI (t j)))), (ot, .inl (cO, 1, .inr (.inl (fun j => lI (g9 j)))))] U.heap ∧ va_K (dC, dI) vwCl [(cA2, .byte), (cA, .byte), (cO, .long)] U ∧ va_D (fun _ => True) [(rr, .inr (3, [.ref tp, .ref b, .ref nda, .ref ndb])), (tp, .inr (0, [.ref r2, .int (iI z2)])), (r2, .inl (cA2, w2, .inl (fun j => bI (t2 j)))), (b, .inr (0, [.ref r, .int (iI z)])), (r, .inl (cA, w, .inl (fun j => bI (t j)))), (ot, .inl (cO, 1, .inr (.inl (fun j => lI (g9 j)))))] ∧ xsE (va_A [(rr, .inr (3, [.ref tp, .ref b, .ref nda, .ref ndb])), (tp, .inr (0, [.ref r2, .int (iI z2)])), (r2, .inl (cA2, w2, .inl (fun j => bI (t2 j)))), (b, .inr (0, [.ref r, .int (iI z)])), (r, .inl (cA, w, .inl (fun j => bI (t j)))), (ot, .inl (cO, 1, .inr (.inl (fun j => lI (g9 j)))))] sz) U)) (mv_Q (fun (v : Option Value) (u : Nat × ClassId × Nat × (Nat → Int) × Int × Nat × ClassId × Nat × (Nat → Int) × Int × (Nat → Int) × Int) (k n : Nat) => match u with | (r', cA', w', t', z', r2', cA2', w2', t2', z2', g', e') => v = some (.int (iI e')) ∧ ((e' = 0 ∧ (okp w' t' z' ∧ okB w2' t2' z2' ((wrL x y cs z2) ++ L2) ∧ 0 ≤ x ∧ x ≤ 3 ∧ 0 ≤ y ∧ z2' = z2 + ((wrL x y cs z2).length : Int)) ∧ g' 0 = z2') ∨ (e' = 1 ∧ (okp w' t' z' ∧ okB w2' t2' z2' L2 ∧ z2' = z2 ∧ (x < 0 ∨ 3 < x ∨ y < 0))) ∨ (e' = 2 ∧ (okp w' t' z' ∧ okB w2' t2' z2' L2 ∧ z2' = z2 ∧ 0 ≤ x ∧ x ≤ 3 ∧ 0 ≤ y ∧ 4096 < z2 + ((wrL x y cs z2).length : Int)))) ∧ n + phB w' + phB w2' ≤ phB w + phB w2 + 6 ∧ k ≤ n) (fun (u : Nat × ClassId × Nat × (Nat → Int) × Int × Nat × ClassId × Nat × (Nat → Int) × Int × (Nat → Int) × Int) (tS : State) => match u with | (r', cA', w', t', z', r2', cA2', w2', t2', z2', g', e') => va_P (dC, dI) vwCl [(rr, .inr (3, [.ref tp, .ref b, .ref nda, .ref ndb])), (tp, .inr (0, [.ref r2', .int (iI z2')])), (r2', .inl (cA2', w2', .inl (fun j => bI (t2' j)))), (b, .inr (0, [.ref r', .int (iI z')])), (r', .inl (cA', w', .inl (fun j => bI (t' j)))), (ot, .inl (cO, 1, .inr (.inl (fun j => lI (g' j)))))] tS.heap ∧ va_K (dC, dI) vwCl [(cA2', .byte), (cA', .byte), (cO, .long)] tS ∧ va_D (va_A [(rr, .inr (3, [.ref tp, .ref b, .ref nda, .ref ndb])), (tp, .inr (0, [.ref r2, .int (iI z2)])), (r2, .inl (cA2, w2, .inl (fun j => bI (t2 j)))), (b, .inr (0, [.ref r, .int (iI z)])), (r, .inl (cA, w, .inl (fun j => bI (t j)))), (ot, .inl (cO, 1, .inr (.inl (fun j => lI (g9 j)))))] sz) [(rr, .inr (3, [.ref tp, .ref b, .ref nda, .ref ndb])), (tp, .inr (0, [.ref r2', .int (iI z2')])), (r2', .inl (cA2', w2', .inl (fun j => bI (t2' j)))), (b, .inr (0, [.ref r', .int (iI z')])), (r', .inl (cA', w', .inl (fun j => bI (t' j)))), (ot, .inl (cO, 1, .inr (.inl (fun j => lI (g' j)))))]) (va_A [(rr, .inr (3, [.ref tp, .ref b, .ref nda, .ref ndb])), (tp, .inr (0, [.ref r2, .int (iI z2)])), (r2, .inl (cA2, w2, .inl (fun j => bI (t2 j)))), (b, .inr (0, [.ref r, .int (iI z)])), (r, .inl (cA, w, .inl (fun j => bI (t j)))), (ot, .inl (cO, 1, .inr (.inl (fun j => lI (g9 j)))))] sz)) (va_A [(rr, .inr (3, [.ref tp, .ref b, .ref nda, .ref ndb])), (tp, .inr (0, [.ref r2, .int (iI z2)])), (r2, .inl (cA2, w2, .inl (fun j => bI (t2 j)))), (b, .inr (0, [.ref r, .int (iI z)])), (r, .inl (cA, w, .inl (fun j => bI (t j)))), (ot, .inl (cO, 1, .inr (.inl (fun j => lI (g9 j)))))] sz) := by
  refine mv_ofWH (cc := cL_wrap) (maxL := 6) (ret := (some .int)) (by decide) rfl ?_
  intro p e s m args below meth c s₁ B hml ht9 hv
  obtain ⟨rfl, hsz, hP, hK, hD0, hX⟩ := hv
  have hx := B.exec
  have hb := B.bytes
  have hr := B.returns
  have hT : ∀ w ∈ wT, w.before _ s = true := fun w h => atoms_spec (ws := wsL_wrap) B.pre w (List.mem_cons_of_mem _ h)
  have hown : s.vm.findClass RL = some m.cls := findClass_of_methodNamed B.named
  have hlocks := B.notSynchronized
  subst hsz
  have hD := hD0.self (sz := s.heap.size)
  generalize hAe : va_A [(rr, .inr (3, [.ref tp, .ref b, .ref nda, .ref ndb])), (tp, .inr (0, [.ref r2, .int (iI z2)])), (r2, .inl (cA2, w2, .inl (fun j => bI (t2 j)))), (b, .inr (0, [.ref r, .int (iI z)])), (r, .inl (cA, w, .inl (fun j => bI (t j)))), (ot, .inl (cO, 1, .inr (.inl (fun j => lI (g9 j)))))] s.heap.size = A at hD hX ⊢
  have hA : ∀ q : Nat, s.heap.size ≤ q → A q := fun q h => by rw [← hAe]; exact Or.inr h
  have hS : va_S A s.heap s.heap [] := va_S.rf
  have hP : va_P (dC, dI) vwCl [(rr, .inr (3, [.ref tp, .ref b, .ref nda, .ref ndb])), (tp, .inr (0, [.ref r2, .int (iI z2)])), (r2, .inl (cA2, w2, .inl (fun j => bI (t2 j)))), (b, .inr (0, [.ref r, .int (iI z)])), (r, .inl (cA, w, .inl (fun j => bI (t j)))), (ot, .inl (cO, 1, .inr (.inl (fun j => lI (g9 j)))))] s.heap := hP
  have hl := lv_entry ([.ref rr, .int (iI x), .int (iI y), .int (iI cs), .ref ot]) (n := 6) (Nat.le_of_ble_eq_true rfl)
  rw [lg_entry_eq]
  generalize (lg_sl ([.ref rr, .int (iI x), .int (iI y), .int (iI cs), .ref ot]) ++ List.replicate (6 - (lg_sl ([.ref rr, .int (iI x), .int (iI y), .int (iI cs), .ref ot])).length) Slot.unset).toArray = ls at hl ⊢
  have hl : lv_has ls 6 [(0, .ref rr), (1, .int (iI x)), (2, .int (iI y)), (3, .int (iI cs)), (4, .ref ot)] := hl
  have hN := hX.1
  refine lv_aload hx hb dL_wrap_0 (lv_at hl 4 rfl) ?_
  refine lv_iconst (v := iI 0) hx hb dL_wrap_2 rfl ?_
  refine lv_aload_n hx hb dL_wrap_3 rfl (lv_at hl 0 rfl) ?_
  refine lv_iload_n hx hb dL_wrap_4 rfl (lv_at hl 1 rfl) ?_
  refine lv_iload_n hx hb dL_wrap_5 rfl (lv_at hl 2 rfl) ?_
  refine lv_iload_n hx hb dL_wrap_6 rfl (lv_at hl 3 rfl) ?_
  have hPc := hP.sub (ws' := [(rr, .inr (3, [.ref tp, .ref b, .ref nda, .ref ndb])), (tp, .inr (0, [.ref r2, .int (iI z2)])), (r2, .inl (cA2, w2, .inl (fun j => bI (t2 j)))), (b, .inr (0, [.ref r, .int (iI z)])), (r, .inl (cA, w, .inl (fun j => bI (t j))))]) [0, 1, 2, 3, 4] rfl
  have hDc := hD.sub (ws' := [(rr, .inr (3, [.ref tp, .ref b, .ref nda, .ref ndb])), (tp, .inr (0, [.ref r2, .int (iI z2)])), (r2, .inl (cA2, w2, .inl (fun j => bI (t2 j)))), (b, .inr (0, [.ref r, .int (iI z)])), (r, .inl (cA, w, .inl (fun j => bI (t j))))]) [0, 1, 2, 3, 4] (by decide) rfl
  have hKc := hK.sub (tys' := [(cA2, .byte), (cA, .byte)]) [0, 1] rfl
  have hFc := va_free (wc := [(rr, .inr (3, [.ref tp, .ref b, .ref nda, .ref ndb])), (tp, .inr (0, [.ref r2, .int (iI z2)])), (r2, .inl (cA2, w2, .inl (fun j => bI (t2 j)))), (b, .inr (0, [.ref r, .int (iI z)])), (r, .inl (cA, w, .inl (fun j => bI (t j))))]) hD hS hA [0, 1, 2, 3, 4] rfl
  refine mx_call (mx_runV (As := [.int (iI x), .int (iI y), .int (iI cs)]) (rest := [.int (iI 0), .ref ot]) ⟨hx, hb, hml, hown, hT⟩ (c_R_wrap l hl9 dC dI s.heap.size rr tp nda ndb b r cA w t z L r2 cA2 w2 t2 z2 L2 x y cs (hok) (hok2) (hx4) (hy) (hcs)) (cwV 3 hT (gV wd446 wd447 wd448 wd26 wd449) rfl rfl rfl (by decide +kernel) ⟨show 8 + 1 ≤ 10 from by omega, show 8 + (4 + 11) + 300 ≤ 360 from by omega⟩) ⟨fun a U g mk q => by obtain ⟨q0, q1, qP, qK, qD, qN⟩ := q; exact ⟨q0, q1, qP, va_K.moved (u := U) (U := U.calling g mk a) (Vm.Alike.refl U.vm) qK, qD, xsE_same rfl rfl qN⟩, va_recv hKc hPc (ci := 3) (q0 := 0) rfl rfl, fun U hU hW => ⟨rfl, by rw [hU], by rw [hU]; exact hPc, va_K.moved hW.alike hKc, hDc.weaken (fun _ _ _ _ => trivial), xsE_in hX hS hFc hU hW⟩⟩ rfl rfl hl.1 rfl (lv_room (Nat.le_of_ble_eq_true rfl)) dL_wrap_7 ⟨show 0 + (phB w + phB w2 + 6) ≤ (phB w + phB w2 + 6) from by omega, show 0 + (phB w + phB w2 + 6) ≤ (phB w + phB w2 + 6) from by omega⟩) hS (fun q _ h => hFc q h) hFc (fun E9 ce9 q9 u k1 n2 tS H1 locs ht hvm hw hB hz1 hk1 hS hce hcv hcl => ?_) (fun v3 u k1 n2 tS H1 locs ht hvm hw hB hz1 hk1 hS => ?_)
  · skip
    obtain ⟨r4, cA5, w6, t7, z8, r9, cA10, w11, t12, z13⟩ := u
    obtain ⟨hP1, hK1, hD1⟩ := hB
    rw [ht] at hP1
    have hK1 := va_K.moved hvm.symm hK1
    try dsimp only at hw
    obtain ⟨hP, hD⟩ := va_join (wr := [(ot, .inl (cO, 1, .inr (.inl (fun j => lI (g9 j)))))]) (w1 := [(rr, .inr (3, [.ref tp, .ref b, .ref nda, .ref ndb])), (tp, .inr (0, [.ref r9, .int (iI z13)])), (r9, .inl (cA10, w11, .inl (fun j => bI (t12 j)))), (b, .inr (0, [.ref r4, .int (iI z8)])), (r4, .inl (cA5, w6, .inl (fun j => bI (t7 j))))]) hP hD [0, 1, 2, 3, 4] [5] rfl rfl (by decide) (by decide) hk1 hFc hP1 hD1
    have hK := (hK.sub (tys' := [(cO, .long)]) [2] rfl).app hK1
    generalize H1 = H at hP hS hce ⊢
    have hP : va_P (dC, dI) vwCl [(ot, .inl (cO, 1, .inr (.inl (fun j => lI (g9 j))))), (rr, .inr (3, [.ref tp, .ref b, .ref nda, .ref ndb])), (tp, .inr (0, [.ref r9, .int (iI z13)])), (r9, .inl (cA10, w11, .inl (fun j => bI (t12 j)))), (b, .inr (0, [.ref r4, .int (iI z8)])), (r4, .inl (cA5, w6, .inl (fun j => bI (t7 j))))] H := hP
    have hD : va_D A [(ot, .inl (cO, 1, .inr (.inl (fun j => lI (g9 j))))), (rr, .inr (3, [.ref tp, .ref b, .ref nda, .ref ndb])), (tp, .inr (0, [.ref r9, .int (iI z13)])), (r9, .inl (cA10, w11, .inl (fun j => bI (t12 j)))), (b, .inr (0, [.ref r4, .int (iI z8)])), (r4, .inl (cA5, w6, .inl (fun j => bI (t7 j))))] := hD
    have hK : va_K (dC, dI) vwCl [(cO, .long), (cA10, .byte), (cA5, .byte)] s := hK
    obtain ⟨hw0, hCv3⟩ := hw
    rcases hw0 with ⟨rfl, hOv3⟩ | ⟨rfl, hOv3⟩
    · skip
      refine vx_catch (own := RL) (name := "java/lang/IllegalArgumentException") hown [] (⟨0, 12, 15, 19⟩ : ExceptionTableEntry) [(⟨0, 12, 19, 13⟩ : ExceptionTableEntry)] ht9 (fun z => (fun hz => nomatch hz)) (by decide) (by decide) (hT _ wd257) (va_Nw.use rfl (xs_cIAE hX.2.1)) hce hcv hcl ?_
      refine W.eq (g2 := F0 m 15 ls [.ref q9]) rfl ?_
      refine lv_astore (lv' := [(5, .ref q9), (0, .ref rr), (1, .int (iI x)), (2, .int (iI y)), (3, .int (iI cs)), (4, .ref ot)]) hx hb dL_wrap_15 hl (by decide) rfl (fun ls hl => ?_)
      refine lv_iconst (v := iI 1) hx hb dL_wrap_17 rfl ?_
      have hP9 := hP.sub (ws' := [(rr, .inr (3, [.ref tp, .ref b, .ref nda, .ref ndb])), (tp, .inr (0, [.ref r9, .int (iI z13)])), (r9, .inl (cA10, w11, .inl (fun j => bI (t12 j)))), (b, .inr (0, [.ref r4, .int (iI z8)])), (r4, .inl (cA5, w6, .inl (fun j => bI (t7 j)))), (ot, .inl (cO, 1, .inr (.inl (fun j => lI (g9 j)))))]) [1, 2, 3, 4, 5, 0] rfl
      have hD9 := hD.sub (ws' := [(rr, .inr (3, [.ref tp, .ref b, .ref nda, .ref ndb])), (tp, .inr (0, [.ref r9, .int (iI z13)])), (r9, .inl (cA10, w11, .inl (fun j => bI (t12 j)))), (b, .inr (0, [.ref r4, .int (iI z8)])), (r4, .inl (cA5, w6, .inl (fun j => bI (t7 j)))), (ot, .inl (cO, 1, .inr (.inl (fun j => lI (g9 j)))))]) [1, 2, 3, 4, 5, 0] (by decide) rfl
      have hK9 := hK.sub (tys' := [(cA10, .byte), (cA5, .byte), (cO, .long)]) [1, 2, 0] rfl
      exact mv_iret hx hb hr hlocks (fun tS ht hW => ⟨⟨_, (r4, cA5, w6, t7, z8, r9, cA10, w11, t12, z13, g9, 1), rfl, ⟨rfl, Or.inr (Or.inl ⟨rfl, hOv3⟩), by omega, by omega⟩, by rw [ht]; exact hP9, va_K.moved hW.alike hK9, hD9⟩, hS.F ht⟩) hS.2.2 dL_wrap_18
    · skip
      refine vx_catch (own := RL) (name := "java/lang/IndexOutOfBoundsException") hown [(⟨0, 12, 15, 19⟩ : ExceptionTableEntry)] (⟨0, 12, 19, 13⟩ : ExceptionTableEntry) [] ht9 (fun z => (fun hz => (List.mem_cons.mp hz).elim (fun e => by subst e; exact Or.inr ⟨by decide, "java/lang/IllegalArgumentException", (hT _ wd257), xs_nIOOBEIAE hX.2.1⟩) (fun hz => nomatch hz))) (by decide) (by decide) (hT _ wd136) (va_Nw.use rfl (xs_cIOOBE hX.2.1)) hce hcv hcl ?_
      refine W.eq (g2 := F0 m 19 ls [.ref q9]) rfl ?_
      refine lv_astore (lv' := [(5, .ref q9), (0, .ref rr), (1, .int (iI x)), (2, .int (iI y)), (3, .int (iI cs)), (4, .ref ot)]) hx hb dL_wrap_19 hl (by decide) rfl (fun ls hl => ?_)
      refine lv_iconst (v := iI 2) hx hb dL_wrap_21 rfl ?_
      have hP9 := hP.sub (ws' := [(rr, .inr (3, [.ref tp, .ref b, .ref nda, .ref ndb])), (tp, .inr (0, [.ref r9, .int (iI z13)])), (r9, .inl (cA10, w11, .inl (fun j => bI (t12 j)))), (b, .inr (0, [.ref r4, .int (iI z8)])), (r4, .inl (cA5, w6, .inl (fun j => bI (t7 j)))), (ot, .inl (cO, 1, .inr (.inl (fun j => lI (g9 j)))))]) [1, 2, 3, 4, 5, 0] rfl
      have hD9 := hD.sub (ws' := [(rr, .inr (3, [.ref tp, .ref b, .ref nda, .ref ndb])), (tp, .inr (0, [.ref r9, .int (iI z13)])), (r9, .inl (cA10, w11, .inl (fun j => bI (t12 j)))), (b, .inr (0, [.ref r4, .int (iI z8)])), (r4, .inl (cA5, w6, .inl (fun j => bI (t7 j)))), (ot, .inl (cO, 1, .inr (.inl (fun j => lI (g9 j)))))]) [1, 2, 3, 4, 5, 0] (by decide) rfl
      have hK9 := hK.sub (tys' := [(cA10, .byte), (cA5, .byte), (cO, .long)]) [1, 2, 0] rfl
      exact mv_iret hx hb hr hlocks (fun tS ht hW => ⟨⟨_, (r4, cA5, w6, t7, z8, r9, cA10, w11, t12, z13, g9, 2), rfl, ⟨rfl, Or.inr (Or.inr (⟨rfl, hOv3⟩)), by omega, by omega⟩, by rw [ht]; exact hP9, va_K.moved hW.alike hK9, hD9⟩, hS.F ht⟩) hS.2.2 dL_wrap_22
  · skip
    obtain ⟨r14, cA15, w16, t17, z18, r19, cA20, w21, t22, z23⟩ := u
    obtain ⟨hP1, hK1, hD1⟩ := hB
    rw [ht] at hP1
    have hK1 := va_K.moved hvm.symm hK1
    try dsimp only at hw
    obtain ⟨hP, hD⟩ := va_join (wr := [(ot, .inl (cO, 1, .inr (.inl (fun j => lI (g9 j)))))]) (w1 := [(rr, .inr (3, [.ref tp, .ref b, .ref nda, .ref ndb])), (tp, .inr (0, [.ref r19, .int (iI z23)])), (r19, .inl (cA20, w21, .inl (fun j => bI (t22 j)))), (b, .inr (0, [.ref r14, .int (iI z18)])), (r14, .inl (cA15, w16, .inl (fun j => bI (t17 j))))]) hP hD [0, 1, 2, 3, 4] [5] rfl rfl (by decide) (by decide) hk1 hFc hP1 hD1
    have hK := (hK.sub (tys' := [(cO, .long)]) [2] rfl).app hK1
    generalize H1 = H at hP hS ⊢
    have hP : va_P (dC, dI) vwCl [(ot, .inl (cO, 1, .inr (.inl (fun j => lI (g9 j))))), (rr, .inr (3, [.ref tp, .ref b, .ref nda, .ref ndb])), (tp, .inr (0, [.ref r19, .int (iI z23)])), (r19, .inl (cA20, w21, .inl (fun j => bI (t22 j)))), (b, .inr (0, [.ref r14, .int (iI z18)])), (r14, .inl (cA15, w16, .inl (fun j => bI (t17 j))))] H := hP
    have hD : va_D A [(ot, .inl (cO, 1, .inr (.inl (fun j => lI (g9 j))))), (rr, .inr (3, [.ref tp, .ref b, .ref nda, .ref ndb])), (tp, .inr (0, [.ref r19, .int (iI z23)])), (r19, .inl (cA20, w21, .inl (fun j => bI (t22 j)))), (b, .inr (0, [.ref r14, .int (iI z18)])), (r14, .inl (cA15, w16, .inl (fun j => bI (t17 j))))] := hD
    have hK : va_K (dC, dI) vwCl [(cO, .long), (cA20, .byte), (cA15, .byte)] s := hK
    obtain ⟨rfl, hOv3, hCv3⟩ := hw
    refine W.eq (g2 := F0 m 10 ls [.int (iI z23), .int (iI 0), .ref ot]) rfl ?_
    have hr9 := okB_rng hOv3.2.1
    refine li_i2l hx hb (by omega) dL_wrap_10 ?_
    refine li_last hx hb hK hP hD hS 0 0 rfl rfl (z := 0) (by omega) (by omega) dL_wrap_11 (fun H locs hP hD hS => ?_)
    have hP : va_P (dC, dI) vwCl [(ot, .inl (cO, 1, .inr (.inl (fun j => lI ((vf_upd g9 (0 : Int).toNat z23) j))))), (rr, .inr (3, [.ref tp, .ref b, .ref nda, .ref ndb])), (tp, .inr (0, [.ref r19, .int (iI z23)])), (r19, .inl (cA20, w21, .inl (fun j => bI (t22 j)))), (b, .inr (0, [.ref r14, .int (iI z18)])), (r14, .inl (cA15, w16, .inl (fun j => bI (t17 j))))] H := hP
    have hD : va_D A [(ot, .inl (cO, 1, .inr (.inl (fun j => lI ((vf_upd g9 (0 : Int).toNat z23) j))))), (rr, .inr (3, [.ref tp, .ref b, .ref nda, .ref ndb])), (tp, .inr (0, [.ref r19, .int (iI z23)])), (r19, .inl (cA20, w21, .inl (fun j => bI (t22 j)))), (b, .inr (0, [.ref r14, .int (iI z18)])), (r14, .inl (cA15, w16, .inl (fun j => bI (t17 j))))] := hD
    refine lv_goto (tgt := 23) hx hb dL_wrap_12 (by decide) ?_
    refine lv_iconst (v := iI 0) hx hb dL_wrap_23 rfl ?_
    have hP9 := hP.sub (ws' := [(rr, .inr (3, [.ref tp, .ref b, .ref nda, .ref ndb])), (tp, .inr (0, [.ref r19, .int (iI z23)])), (r19, .inl (cA20, w21, .inl (fun j => bI (t22 j)))), (b, .inr (0, [.ref r14, .int (iI z18)])), (r14, .inl (cA15, w16, .inl (fun j => bI (t17 j)))), (ot, .inl (cO, 1, .inr (.inl (fun j => lI ((vf_upd g9 (0 : Int).toNat z23) j)))))]) [1, 2, 3, 4, 5, 0] rfl
    have hD9 := hD.sub (ws' := [(rr, .inr (3, [.ref tp, .ref b, .ref nda, .ref ndb])), (tp, .inr (0, [.ref r19, .int (iI z23)])), (r19, .inl (cA20, w21, .inl (fun j => bI (t22 j)))), (b, .inr (0, [.ref r14, .int (iI z18)])), (r14, .inl (cA15, w16, .inl (fun j => bI (t17 j)))), (ot, .inl (cO, 1, .inr (.inl (fun j => lI ((vf_upd g9 (0 : Int).toNat z23) j)))))]) [1, 2, 3, 4, 5, 0] (by decide) rfl
    have hK9 := hK.sub (tys' := [(cA20, .byte), (cA15, .byte), (cO, .long)]) [1, 2, 0] rfl
    exact mv_iret hx hb hr hlocks (fun tS ht hW => ⟨⟨_, (r14, cA15, w16, t17, z18, r19, cA20, w21, t22, z23, (vf_upd g9 (0 : Int).toNat z23), 0), rfl, ⟨rfl, Or.inl ⟨rfl, hOv3, upd_at rfl⟩, by omega, by omega⟩, by rw [ht]; exact hP9, va_K.moved hW.alike hK9, hD9⟩, hS.F ht⟩) hS.2.2 dL_wrap_24
set_option maxHeartbeats 4000000 in
set_option maxRecDepth 100000 in
theorem c_L_add (l : Launch) (hl9 : l.stackTraces = false) (dC : Nat → ClassId) (dI : Nat → Nat → Nat) (sz : Nat) (rr : Nat) (tp : Nat) (nda : Nat) (ndb : Nat) (b : Nat) (r : Nat) (cA : ClassId) (w : Nat) (t : Nat → Int) (z : Int) (L : List Int) (r2 : Nat) (cA2 : ClassId) (w2 : Nat) (t2 : Nat → Int) (z2 : Int) (L2 : List Int) (x : Int) (y : Int) (q : Int) (ot : Nat) (cO : ClassId) (g9 : Nat → Int) (hok : okB w t z L) (hok2 : okB w2 t2 z2 L2) (hx4 : -2147483648 ≤ x ∧ x < 2147483648) (hy : -2147483648 ≤ y ∧ y < 2147483648) (hq : -9223372036854775808 ≤ q ∧ q < 9223372036854775808) : mv_Met l yL_add wsL_add ({ frames := 10, cells := (phB w + phB w2 + 6), slots := (phB w + phB w2 + 6), locals := 360 }) (va_Pc [.ref rr, .int (iI x), .int (iI y), .long (lI q), .ref ot] (fun U => U.heap.size = sz ∧ va_P (dC, dI) vwCl [(rr, .inr (3, [.ref tp, .ref b, .ref nda, .ref ndb])), (tp, .inr (0, [.ref r2, .int (iI z2)])), (r2, .inl (cA2, w2, .inl (fun j => bI (t2 j)))), (b, .inr (0, [.ref r, .int (iI z)])), (r, .inl (cA, w, .inl (fun j => bI (t j)))), (ot, .inl (cO, 1, .inr (.inl (fun j => lI (g9 j)))))] U.heap ∧ va_K (dC, dI) vwCl [(cA2, .byte), (cA, .byte), (cO, .long)] U ∧ va_D (fun _ => True) [(rr, .inr (3, [.ref tp, .ref b, .ref nda, .ref ndb])), (tp, .inr (0, [.ref r2, .int (iI z2)])), (r2, .inl (cA2, w2, .inl (fun j => bI (t2 j)))), (b, .inr (0, [.ref r, .int (iI z)])), (r, .inl (cA, w, .inl (fun j => bI (t j)))), (ot, .inl (cO, 1, .inr (.inl (fun j => lI (g9 j)))))] ∧ xsE (va_A [(rr, .inr (3, [.ref tp, .ref b, .ref nda, .ref ndb])), (tp, .inr (0, [.ref r2, .int (iI z2)])), (r2, .inl (cA2, w2, .inl (fun j => bI (t2 j)))), (b, .inr (0, [.ref r, .int (iI z)])), (r, .inl (cA, w, .inl (fun j => bI (t j)))), (ot, .inl (cO, 1, .inr (.inl (fun j => lI (g9 j)))))] sz) U)) (mv_Q (fun (v : Option Value) (u : Nat × ClassId × Nat × (Nat → Int) × Int × Nat × ClassId × Nat × (Nat → Int) × Int × (Nat → Int) × Int) (k n : Nat) => match u with | (r', cA', w', t', z', r2', cA2', w2', t2', z2', g', e') => v = some (.int (iI e')) ∧ ((e' = 0 ∧ (okp w' t' z' ∧ okB w2' t2' z2' (L2 ++ (adL x y q)) ∧ 0 ≤ x ∧ x ≤ 3 ∧ 0 ≤ y ∧ z2' = z2 + ((adL x y q).length : Int)) ∧ g' 0 = z2') ∨ (e' = 1 ∧ (okp w' t' z' ∧ okB w2' t2' z2' L2 ∧ z2' = z2 ∧ (x < 0 ∨ 3 < x ∨ y < 0))) ∨ (e' = 2 ∧ (okp w' t' z' ∧ okB w2' t2' z2' L2 ∧ z2' = z2 ∧ 0 ≤ x ∧ x ≤ 3 ∧ 0 ≤ y ∧ 4096 < z2 + ((adL x y q).length : Int)))) ∧ n + phB w' + phB w2' ≤ phB w + phB w2 + 6 ∧ k ≤ n) (fun (u : Nat × ClassId × Nat × (Nat → Int) × Int × Nat × ClassId × Nat × (Nat → Int) × Int × (Nat → Int) × Int) (tS : State) => match u with | (r', cA', w', t', z', r2', cA2', w2', t2', z2', g', e') => va_P (dC, dI) vwCl [(rr, .inr (3, [.ref tp, .ref b, .ref nda, .ref ndb])), (tp, .inr (0, [.ref r2', .int (iI z2')])), (r2', .inl (cA2', w2', .inl (fun j => bI (t2' j)))), (b, .inr (0, [.ref r', .int (iI z')])), (r', .inl (cA', w', .inl (fun j => bI (t' j)))), (ot, .inl (cO, 1, .inr (.inl (fun j => lI (g' j)))))] tS.heap ∧ va_K (dC, dI) vwCl [(cA2', .byte), (cA', .byte), (cO, .long)] tS ∧ va_D (va_A [(rr, .inr (3, [.ref tp, .ref b, .ref nda, .ref ndb])), (tp, .inr (0, [.ref r2, .int (iI z2)])), (r2, .inl (cA2, w2, .inl (fun j => bI (t2 j)))), (b, .inr (0, [.ref r, .int (iI z)])), (r, .inl (cA, w, .inl (fun j => bI (t j)))), (ot, .inl (cO, 1, .inr (.inl (fun j => lI (g9 j)))))] sz) [(rr, .inr (3, [.ref tp, .ref b, .ref nda, .ref ndb])), (tp, .inr (0, [.ref r2', .int (iI z2')])), (r2', .inl (cA2', w2', .inl (fun j => bI (t2' j)))), (b, .inr (0, [.ref r', .int (iI z')])), (r', .inl (cA', w', .inl (fun j => bI (t' j)))), (ot, .inl (cO, 1, .inr (.inl (fun j => lI (g' j)))))]) (va_A [(rr, .inr (3, [.ref tp, .ref b, .ref nda, .ref ndb])), (tp, .inr (0, [.ref r2, .int (iI z2)])), (r2, .inl (cA2, w2, .inl (fun j => bI (t2 j)))), (b, .inr (0, [.ref r, .int (iI z)])), (r, .inl (cA, w, .inl (fun j => bI (t j)))), (ot, .inl (cO, 1, .inr (.inl (fun j => lI (g9 j)))))] sz)) (va_A [(rr, .inr (3, [.ref tp, .ref b, .ref nda, .ref ndb])), (tp, .inr (0, [.ref r2, .int (iI z2)])), (r2, .inl (cA2, w2, .inl (fun j => bI (t2 j)))), (b, .inr (0, [.ref r, .int (iI z)])), (r, .inl (cA, w, .inl (fun j => bI (t j)))), (ot, .inl (cO, 1, .inr (.inl (fun j => lI (g9 j)))))] sz) := by
  refine mv_ofWH (cc := cL_add) (maxL := 7) (ret := (some .int)) (by decide) rfl ?_
  intro p e s m args below meth c s₁ B hml ht9 hv
  obtain ⟨rfl, hsz, hP, hK, hD0, hX⟩ := hv
  have hx := B.exec
  have hb := B.bytes
  have hr := B.returns
  have hT : ∀ w ∈ wT, w.before _ s = true := fun w h => atoms_spec (ws := wsL_add) B.pre w (List.mem_cons_of_mem _ h)
  have hown : s.vm.findClass RL = some m.cls := findClass_of_methodNamed B.named
  have hlocks := B.notSynchronized
  subst hsz
  have hD := hD0.self (sz := s.heap.size)
  generalize hAe : va_A [(rr, .inr (3, [.ref tp, .ref b, .ref nda, .ref ndb])), (tp, .inr (0, [.ref r2, .int (iI z2)])), (r2, .inl (cA2, w2, .inl (fun j => bI (t2 j)))), (b, .inr (0, [.ref r, .int (iI z)])), (r, .inl (cA, w, .inl (fun j => bI (t j)))), (ot, .inl (cO, 1, .inr (.inl (fun j => lI (g9 j)))))] s.heap.size = A at hD hX ⊢
  have hA : ∀ q : Nat, s.heap.size ≤ q → A q := fun q h => by rw [← hAe]; exact Or.inr h
  have hS : va_S A s.heap s.heap [] := va_S.rf
  have hP : va_P (dC, dI) vwCl [(rr, .inr (3, [.ref tp, .ref b, .ref nda, .ref ndb])), (tp, .inr (0, [.ref r2, .int (iI z2)])), (r2, .inl (cA2, w2, .inl (fun j => bI (t2 j)))), (b, .inr (0, [.ref r, .int (iI z)])), (r, .inl (cA, w, .inl (fun j => bI (t j)))), (ot, .inl (cO, 1, .inr (.inl (fun j => lI (g9 j)))))] s.heap := hP
  have hl := lv_entry ([.ref rr, .int (iI x), .int (iI y), .long (lI q), .ref ot]) (n := 7) (Nat.le_of_ble_eq_true rfl)
  rw [lg_entry_eq]
  generalize (lg_sl ([.ref rr, .int (iI x), .int (iI y), .long (lI q), .ref ot]) ++ List.replicate (7 - (lg_sl ([.ref rr, .int (iI x), .int (iI y), .long (lI q), .ref ot])).length) Slot.unset).toArray = ls at hl ⊢
  have hl : lv_has ls 7 [(0, .ref rr), (1, .int (iI x)), (2, .int (iI y)), (3, .long (lI q)), (5, .ref ot)] := hl
  have hN := hX.1
  refine lv_aload hx hb dL_add_0 (lv_at hl 4 rfl) ?_
  refine lv_iconst (v := iI 0) hx hb dL_add_2 rfl ?_
  refine lv_aload_n hx hb dL_add_3 rfl (lv_at hl 0 rfl) ?_
  refine lv_iload_n hx hb dL_add_4 rfl (lv_at hl 1 rfl) ?_
  refine lv_iload_n hx hb dL_add_5 rfl (lv_at hl 2 rfl) ?_
  refine lv_lload_n hx hb dL_add_6 rfl (lv_at hl 3 rfl) ?_
  have hPc := hP.sub (ws' := [(rr, .inr (3, [.ref tp, .ref b, .ref nda, .ref ndb])), (tp, .inr (0, [.ref r2, .int (iI z2)])), (r2, .inl (cA2, w2, .inl (fun j => bI (t2 j)))), (b, .inr (0, [.ref r, .int (iI z)])), (r, .inl (cA, w, .inl (fun j => bI (t j))))]) [0, 1, 2, 3, 4] rfl
  have hDc := hD.sub (ws' := [(rr, .inr (3, [.ref tp, .ref b, .ref nda, .ref ndb])), (tp, .inr (0, [.ref r2, .int (iI z2)])), (r2, .inl (cA2, w2, .inl (fun j => bI (t2 j)))), (b, .inr (0, [.ref r, .int (iI z)])), (r, .inl (cA, w, .inl (fun j => bI (t j))))]) [0, 1, 2, 3, 4] (by decide) rfl
  have hKc := hK.sub (tys' := [(cA2, .byte), (cA, .byte)]) [0, 1] rfl
  have hFc := va_free (wc := [(rr, .inr (3, [.ref tp, .ref b, .ref nda, .ref ndb])), (tp, .inr (0, [.ref r2, .int (iI z2)])), (r2, .inl (cA2, w2, .inl (fun j => bI (t2 j)))), (b, .inr (0, [.ref r, .int (iI z)])), (r, .inl (cA, w, .inl (fun j => bI (t j))))]) hD hS hA [0, 1, 2, 3, 4] rfl
  refine mx_call (mx_runV (As := [.int (iI x), .int (iI y), .long (lI q)]) (rest := [.int (iI 0), .ref ot]) ⟨hx, hb, hml, hown, hT⟩ (c_R_add l hl9 dC dI s.heap.size rr tp nda ndb b r cA w t z L r2 cA2 w2 t2 z2 L2 x y q (hok) (hok2) (hx4) (hy) (hq)) (cwV 3 hT (gV wd470 wd471 wd472 wd26 wd473) rfl rfl rfl (by decide +kernel) ⟨show 8 + 1 ≤ 10 from by omega, show 8 + (6 + 11) + 300 ≤ 360 from by omega⟩) ⟨fun a U g mk q => by obtain ⟨q0, q1, qP, qK, qD, qN⟩ := q; exact ⟨q0, q1, qP, va_K.moved (u := U) (U := U.calling g mk a) (Vm.Alike.refl U.vm) qK, qD, xsE_same rfl rfl qN⟩, va_recv hKc hPc (ci := 3) (q0 := 0) rfl rfl, fun U hU hW => ⟨rfl, by rw [hU], by rw [hU]; exact hPc, va_K.moved hW.alike hKc, hDc.weaken (fun _ _ _ _ => trivial), xsE_in hX hS hFc hU hW⟩⟩ rfl rfl hl.1 rfl (lv_room (Nat.le_of_ble_eq_true rfl)) dL_add_7 ⟨show 0 + (phB w + phB w2 + 6) ≤ (phB w + phB w2 + 6) from by omega, show 0 + (phB w + phB w2 + 6) ≤ (phB w + phB w2 + 6) from by omega⟩) hS (fun q _ h => hFc q h) hFc (fun E9 ce9 q9 u k1 n2 tS H1 locs ht hvm hw hB hz1 hk1 hS hce hcv hcl => ?_) (fun v3 u k1 n2 tS H1 locs ht hvm hw hB hz1 hk1 hS => ?_)
  · skip
    obtain ⟨r4, cA5, w6, t7, z8, r9, cA10, w11, t12, z13⟩ := u
    obtain ⟨hP1, hK1, hD1⟩ := hB
    rw [ht] at hP1
    have hK1 := va_K.moved hvm.symm hK1
    try dsimp only at hw
    obtain ⟨hP, hD⟩ := va_join (wr := [(ot, .inl (cO, 1, .inr (.inl (fun j => lI (g9 j)))))]) (w1 := [(rr, .inr (3, [.ref tp, .ref b, .ref nda, .ref ndb])), (tp, .inr (0, [.ref r9, .int (iI z13)])), (r9, .inl (cA10, w11, .inl (fun j => bI (t12 j)))), (b, .inr (0, [.ref r4, .int (iI z8)])), (r4, .inl (cA5, w6, .inl (fun j => bI (t7 j))))]) hP hD [0, 1, 2, 3, 4] [5] rfl rfl (by decide) (by decide) hk1 hFc hP1 hD1
    have hK := (hK.sub (tys' := [(cO, .long)]) [2] rfl).app hK1
    generalize H1 = H at hP hS hce ⊢
    have hP : va_P (dC, dI) vwCl [(ot, .inl (cO, 1, .inr (.inl (fun j => lI (g9 j))))), (rr, .inr (3, [.ref tp, .ref b, .ref nda, .ref ndb])), (tp, .inr (0, [.ref r9, .int (iI z13)])), (r9, .inl (cA10, w11, .inl (fun j => bI (t12 j)))), (b, .inr (0, [.ref r4, .int (iI z8)])), (r4, .inl (cA5, w6, .inl (fun j => bI (t7 j))))] H := hP
    have hD : va_D A [(ot, .inl (cO, 1, .inr (.inl (fun j => lI (g9 j))))), (rr, .inr (3, [.ref tp, .ref b, .ref nda, .ref ndb])), (tp, .inr (0, [.ref r9, .int (iI z13)])), (r9, .inl (cA10, w11, .inl (fun j => bI (t12 j)))), (b, .inr (0, [.ref r4, .int (iI z8)])), (r4, .inl (cA5, w6, .inl (fun j => bI (t7 j))))] := hD
    have hK : va_K (dC, dI) vwCl [(cO, .long), (cA10, .byte), (cA5, .byte)] s := hK
    obtain ⟨hw0, hCv3⟩ := hw
    rcases hw0 with ⟨rfl, hOv3⟩ | ⟨rfl, hOv3⟩
    · skip
      refine vx_catch (own := RL) (name := "java/lang/IllegalArgumentException") hown [] (⟨0, 12, 15, 19⟩ : ExceptionTableEntry) [(⟨0, 12, 19, 13⟩ : ExceptionTableEntry)] ht9 (fun z => (fun hz => nomatch hz)) (by decide) (by decide) (hT _ wd257) (va_Nw.use rfl (xs_cIAE hX.2.1)) hce hcv hcl ?_
      refine W.eq (g2 := F0 m 15 ls [.ref q9]) rfl ?_
      refine lv_astore (lv' := [(6, .ref q9), (0, .ref rr), (1, .int (iI x)), (2, .int (iI y)), (3, .long (lI q)), (5, .ref ot)]) hx hb dL_add_15 hl (by decide) rfl (fun ls hl => ?_)
      refine lv_iconst (v := iI 1) hx hb dL_add_17 rfl ?_
      have hP9 := hP.sub (ws' := [(rr, .inr (3, [.ref tp, .ref b, .ref nda, .ref ndb])), (tp, .inr (0, [.ref r9, .int (iI z13)])), (r9, .inl (cA10, w11, .inl (fun j => bI (t12 j)))), (b, .inr (0, [.ref r4, .int (iI z8)])), (r4, .inl (cA5, w6, .inl (fun j => bI (t7 j)))), (ot, .inl (cO, 1, .inr (.inl (fun j => lI (g9 j)))))]) [1, 2, 3, 4, 5, 0] rfl
      have hD9 := hD.sub (ws' := [(rr, .inr (3, [.ref tp, .ref b, .ref nda, .ref ndb])), (tp, .inr (0, [.ref r9, .int (iI z13)])), (r9, .inl (cA10, w11, .inl (fun j => bI (t12 j)))), (b, .inr (0, [.ref r4, .int (iI z8)])), (r4, .inl (cA5, w6, .inl (fun j => bI (t7 j)))), (ot, .inl (cO, 1, .inr (.inl (fun j => lI (g9 j)))))]) [1, 2, 3, 4, 5, 0] (by decide) rfl
      have hK9 := hK.sub (tys' := [(cA10, .byte), (cA5, .byte), (cO, .long)]) [1, 2, 0] rfl
      exact mv_iret hx hb hr hlocks (fun tS ht hW => ⟨⟨_, (r4, cA5, w6, t7, z8, r9, cA10, w11, t12, z13, g9, 1), rfl, ⟨rfl, Or.inr (Or.inl ⟨rfl, hOv3⟩), by omega, by omega⟩, by rw [ht]; exact hP9, va_K.moved hW.alike hK9, hD9⟩, hS.F ht⟩) hS.2.2 dL_add_18
    · skip
      refine vx_catch (own := RL) (name := "java/lang/IndexOutOfBoundsException") hown [(⟨0, 12, 15, 19⟩ : ExceptionTableEntry)] (⟨0, 12, 19, 13⟩ : ExceptionTableEntry) [] ht9 (fun z => (fun hz => (List.mem_cons.mp hz).elim (fun e => by subst e; exact Or.inr ⟨by decide, "java/lang/IllegalArgumentException", (hT _ wd257), xs_nIOOBEIAE hX.2.1⟩) (fun hz => nomatch hz))) (by decide) (by decide) (hT _ wd136) (va_Nw.use rfl (xs_cIOOBE hX.2.1)) hce hcv hcl ?_
      refine W.eq (g2 := F0 m 19 ls [.ref q9]) rfl ?_
      refine lv_astore (lv' := [(6, .ref q9), (0, .ref rr), (1, .int (iI x)), (2, .int (iI y)), (3, .long (lI q)), (5, .ref ot)]) hx hb dL_add_19 hl (by decide) rfl (fun ls hl => ?_)
      refine lv_iconst (v := iI 2) hx hb dL_add_21 rfl ?_
      have hP9 := hP.sub (ws' := [(rr, .inr (3, [.ref tp, .ref b, .ref nda, .ref ndb])), (tp, .inr (0, [.ref r9, .int (iI z13)])), (r9, .inl (cA10, w11, .inl (fun j => bI (t12 j)))), (b, .inr (0, [.ref r4, .int (iI z8)])), (r4, .inl (cA5, w6, .inl (fun j => bI (t7 j)))), (ot, .inl (cO, 1, .inr (.inl (fun j => lI (g9 j)))))]) [1, 2, 3, 4, 5, 0] rfl
      have hD9 := hD.sub (ws' := [(rr, .inr (3, [.ref tp, .ref b, .ref nda, .ref ndb])), (tp, .inr (0, [.ref r9, .int (iI z13)])), (r9, .inl (cA10, w11, .inl (fun j => bI (t12 j)))), (b, .inr (0, [.ref r4, .int (iI z8)])), (r4, .inl (cA5, w6, .inl (fun j => bI (t7 j)))), (ot, .inl (cO, 1, .inr (.inl (fun j => lI (g9 j)))))]) [1, 2, 3, 4, 5, 0] (by decide) rfl
      have hK9 := hK.sub (tys' := [(cA10, .byte), (cA5, .byte), (cO, .long)]) [1, 2, 0] rfl
      exact mv_iret hx hb hr hlocks (fun tS ht hW => ⟨⟨_, (r4, cA5, w6, t7, z8, r9, cA10, w11, t12, z13, g9, 2), rfl, ⟨rfl, Or.inr (Or.inr (⟨rfl, hOv3⟩)), by omega, by omega⟩, by rw [ht]; exact hP9, va_K.moved hW.alike hK9, hD9⟩, hS.F ht⟩) hS.2.2 dL_add_22
  · skip
    obtain ⟨r14, cA15, w16, t17, z18, r19, cA20, w21, t22, z23⟩ := u
    obtain ⟨hP1, hK1, hD1⟩ := hB
    rw [ht] at hP1
    have hK1 := va_K.moved hvm.symm hK1
    try dsimp only at hw
    obtain ⟨hP, hD⟩ := va_join (wr := [(ot, .inl (cO, 1, .inr (.inl (fun j => lI (g9 j)))))]) (w1 := [(rr, .inr (3, [.ref tp, .ref b, .ref nda, .ref ndb])), (tp, .inr (0, [.ref r19, .int (iI z23)])), (r19, .inl (cA20, w21, .inl (fun j => bI (t22 j)))), (b, .inr (0, [.ref r14, .int (iI z18)])), (r14, .inl (cA15, w16, .inl (fun j => bI (t17 j))))]) hP hD [0, 1, 2, 3, 4] [5] rfl rfl (by decide) (by decide) hk1 hFc hP1 hD1
    have hK := (hK.sub (tys' := [(cO, .long)]) [2] rfl).app hK1
    generalize H1 = H at hP hS ⊢
    have hP : va_P (dC, dI) vwCl [(ot, .inl (cO, 1, .inr (.inl (fun j => lI (g9 j))))), (rr, .inr (3, [.ref tp, .ref b, .ref nda, .ref ndb])), (tp, .inr (0, [.ref r19, .int (iI z23)])), (r19, .inl (cA20, w21, .inl (fun j => bI (t22 j)))), (b, .inr (0, [.ref r14, .int (iI z18)])), (r14, .inl (cA15, w16, .inl (fun j => bI (t17 j))))] H := hP
    have hD : va_D A [(ot, .inl (cO, 1, .inr (.inl (fun j => lI (g9 j))))), (rr, .inr (3, [.ref tp, .ref b, .ref nda, .ref ndb])), (tp, .inr (0, [.ref r19, .int (iI z23)])), (r19, .inl (cA20, w21, .inl (fun j => bI (t22 j)))), (b, .inr (0, [.ref r14, .int (iI z18)])), (r14, .inl (cA15, w16, .inl (fun j => bI (t17 j))))] := hD
    have hK : va_K (dC, dI) vwCl [(cO, .long), (cA20, .byte), (cA15, .byte)] s := hK
    obtain ⟨rfl, hOv3, hCv3⟩ := hw
    refine W.eq (g2 := F0 m 10 ls [.int (iI z23), .int (iI 0), .ref ot]) rfl ?_
    have hr9 := okB_rng hOv3.2.1
    refine li_i2l hx hb (by omega) dL_add_10 ?_
    refine li_last hx hb hK hP hD hS 0 0 rfl rfl (z := 0) (by omega) (by omega) dL_add_11 (fun H locs hP hD hS => ?_)
    have hP : va_P (dC, dI) vwCl [(ot, .inl (cO, 1, .inr (.inl (fun j => lI ((vf_upd g9 (0 : Int).toNat z23) j))))), (rr, .inr (3, [.ref tp, .ref b, .ref nda, .ref ndb])), (tp, .inr (0, [.ref r19, .int (iI z23)])), (r19, .inl (cA20, w21, .inl (fun j => bI (t22 j)))), (b, .inr (0, [.ref r14, .int (iI z18)])), (r14, .inl (cA15, w16, .inl (fun j => bI (t17 j))))] H := hP
    have hD : va_D A [(ot, .inl (cO, 1, .inr (.inl (fun j => lI ((vf_upd g9 (0 : Int).toNat z23) j))))), (rr, .inr (3, [.ref tp, .ref b, .ref nda, .ref ndb])), (tp, .inr (0, [.ref r19, .int (iI z23)])), (r19, .inl (cA20, w21, .inl (fun j => bI (t22 j)))), (b, .inr (0, [.ref r14, .int (iI z18)])), (r14, .inl (cA15, w16, .inl (fun j => bI (t17 j))))] := hD
    refine lv_goto (tgt := 23) hx hb dL_add_12 (by decide) ?_
    refine lv_iconst (v := iI 0) hx hb dL_add_23 rfl ?_
    have hP9 := hP.sub (ws' := [(rr, .inr (3, [.ref tp, .ref b, .ref nda, .ref ndb])), (tp, .inr (0, [.ref r19, .int (iI z23)])), (r19, .inl (cA20, w21, .inl (fun j => bI (t22 j)))), (b, .inr (0, [.ref r14, .int (iI z18)])), (r14, .inl (cA15, w16, .inl (fun j => bI (t17 j)))), (ot, .inl (cO, 1, .inr (.inl (fun j => lI ((vf_upd g9 (0 : Int).toNat z23) j)))))]) [1, 2, 3, 4, 5, 0] rfl
    have hD9 := hD.sub (ws' := [(rr, .inr (3, [.ref tp, .ref b, .ref nda, .ref ndb])), (tp, .inr (0, [.ref r19, .int (iI z23)])), (r19, .inl (cA20, w21, .inl (fun j => bI (t22 j)))), (b, .inr (0, [.ref r14, .int (iI z18)])), (r14, .inl (cA15, w16, .inl (fun j => bI (t17 j)))), (ot, .inl (cO, 1, .inr (.inl (fun j => lI ((vf_upd g9 (0 : Int).toNat z23) j)))))]) [1, 2, 3, 4, 5, 0] (by decide) rfl
    have hK9 := hK.sub (tys' := [(cA20, .byte), (cA15, .byte), (cO, .long)]) [1, 2, 0] rfl
    exact mv_iret hx hb hr hlocks (fun tS ht hW => ⟨⟨_, (r14, cA15, w16, t17, z18, r19, cA20, w21, t22, z23, (vf_upd g9 (0 : Int).toNat z23), 0), rfl, ⟨rfl, Or.inl ⟨rfl, hOv3, upd_at rfl⟩, by omega, by omega⟩, by rw [ht]; exact hP9, va_K.moved hW.alike hK9, hD9⟩, hS.F ht⟩) hS.2.2 dL_add_24
set_option maxHeartbeats 4000000 in
set_option maxRecDepth 100000 in
theorem c_L_compare (l : Launch) (hl9 : l.stackTraces = false) (dC : Nat → ClassId) (dI : Nat → Nat → Nat) (sz : Nat) (x : Nat) (tb : Nat) (pb : Nat) (nd : Nat) (sp : Nat) (b : Nat) (h : Nat) (rw : Nat) (mn : Int) (sx : Int) (cR : ClassId) (M : Nat) (V : Nat → Int) (r : Nat) (cA : ClassId) (w : Nat) (t : Nat → Int) (z : Int) (L : List Int) (a : Int) (a2 : Int) (ot : Nat) (cO : ClassId) (g9 : Nat → Int) (hoN : okN M V mn) (hok : okB w t z L) (ha : -2147483648 ≤ a ∧ a < 2147483648) (ha2 : -2147483648 ≤ a2 ∧ a2 < 2147483648) : mv_Met l yL_compare wsL_compare ({ frames := 10, cells := 1, slots := 6, locals := 310 }) (va_Pc [.ref x, .int (iI a), .int (iI a2), .ref ot] (fun U => U.heap.size = sz ∧ va_P (dC, dI) vwCl [(x, .inr (3, [.ref tb, .ref pb, .ref nd, .ref sp])), (nd, .inr (2, [.ref b, .ref h, .ref rw, .int (iI mn), .int (iI sx)])), (rw, .inl (cR, M, .inl (fun j => iI (V j)))), (b, .inr (0, [.ref r, .int (iI z)])), (r, .inl (cA, w, .inl (fun j => bI (t j)))), (ot, .inl (cO, 1, .inr (.inl (fun j => lI (g9 j)))))] U.heap ∧ va_K (dC, dI) vwCl [(cR, .int), (cA, .byte), (cO, .long)] U ∧ va_D (fun _ => True) [(x, .inr (3, [.ref tb, .ref pb, .ref nd, .ref sp])), (nd, .inr (2, [.ref b, .ref h, .ref rw, .int (iI mn), .int (iI sx)])), (rw, .inl (cR, M, .inl (fun j => iI (V j)))), (b, .inr (0, [.ref r, .int (iI z)])), (r, .inl (cA, w, .inl (fun j => bI (t j)))), (ot, .inl (cO, 1, .inr (.inl (fun j => lI (g9 j)))))] ∧ xsE (va_A [(x, .inr (3, [.ref tb, .ref pb, .ref nd, .ref sp])), (nd, .inr (2, [.ref b, .ref h, .ref rw, .int (iI mn), .int (iI sx)])), (rw, .inl (cR, M, .inl (fun j => iI (V j)))), (b, .inr (0, [.ref r, .int (iI z)])), (r, .inl (cA, w, .inl (fun j => bI (t j)))), (ot, .inl (cO, 1, .inr (.inl (fun j => lI (g9 j)))))] sz) U)) (mv_Q (fun (v : Option Value) (u : (Nat → Int) × Int) (k n : Nat) => match u with | (g', e') => v = some (.int (iI e')) ∧ ((e' = 0 ∧ (0 ≤ a ∧ a < mn ∧ 0 ≤ a2 ∧ a2 < mn) ∧ g' 0 = ord2 L V a a2) ∨ (e' = 1 ∧ (a < 0 ∨ mn ≤ a ∨ a2 < 0 ∨ mn ≤ a2))) ∧ k ≤ 1 ∧ n ≤ 6) (fun (u : (Nat → Int) × Int) (tS : State) => match u with | (g', e') => va_P (dC, dI) vwCl [(x, .inr (3, [.ref tb, .ref pb, .ref nd, .ref sp])), (nd, .inr (2, [.ref b, .ref h, .ref rw, .int (iI mn), .int (iI sx)])), (rw, .inl (cR, M, .inl (fun j => iI (V j)))), (b, .inr (0, [.ref r, .int (iI z)])), (r, .inl (cA, w, .inl (fun j => bI (t j)))), (ot, .inl (cO, 1, .inr (.inl (fun j => lI (g' j)))))] tS.heap ∧ va_K (dC, dI) vwCl [(cR, .int), (cA, .byte), (cO, .long)] tS ∧ va_D (va_A [(x, .inr (3, [.ref tb, .ref pb, .ref nd, .ref sp])), (nd, .inr (2, [.ref b, .ref h, .ref rw, .int (iI mn), .int (iI sx)])), (rw, .inl (cR, M, .inl (fun j => iI (V j)))), (b, .inr (0, [.ref r, .int (iI z)])), (r, .inl (cA, w, .inl (fun j => bI (t j)))), (ot, .inl (cO, 1, .inr (.inl (fun j => lI (g9 j)))))] sz) [(x, .inr (3, [.ref tb, .ref pb, .ref nd, .ref sp])), (nd, .inr (2, [.ref b, .ref h, .ref rw, .int (iI mn), .int (iI sx)])), (rw, .inl (cR, M, .inl (fun j => iI (V j)))), (b, .inr (0, [.ref r, .int (iI z)])), (r, .inl (cA, w, .inl (fun j => bI (t j)))), (ot, .inl (cO, 1, .inr (.inl (fun j => lI (g' j)))))]) (va_A [(x, .inr (3, [.ref tb, .ref pb, .ref nd, .ref sp])), (nd, .inr (2, [.ref b, .ref h, .ref rw, .int (iI mn), .int (iI sx)])), (rw, .inl (cR, M, .inl (fun j => iI (V j)))), (b, .inr (0, [.ref r, .int (iI z)])), (r, .inl (cA, w, .inl (fun j => bI (t j)))), (ot, .inl (cO, 1, .inr (.inl (fun j => lI (g9 j)))))] sz)) (va_A [(x, .inr (3, [.ref tb, .ref pb, .ref nd, .ref sp])), (nd, .inr (2, [.ref b, .ref h, .ref rw, .int (iI mn), .int (iI sx)])), (rw, .inl (cR, M, .inl (fun j => iI (V j)))), (b, .inr (0, [.ref r, .int (iI z)])), (r, .inl (cA, w, .inl (fun j => bI (t j)))), (ot, .inl (cO, 1, .inr (.inl (fun j => lI (g9 j)))))] sz) := by
  refine mv_ofWH (cc := cL_compare) (maxL := 5) (ret := (some .int)) (by decide) rfl ?_
  intro p e s m args below meth c s₁ B hml ht9 hv
  obtain ⟨rfl, hsz, hP, hK, hD0, hX⟩ := hv
  have hx := B.exec
  have hb := B.bytes
  have hr := B.returns
  have hT : ∀ w ∈ wT, w.before _ s = true := fun w h => atoms_spec (ws := wsL_compare) B.pre w (List.mem_cons_of_mem _ h)
  have hown : s.vm.findClass RL = some m.cls := findClass_of_methodNamed B.named
  have hlocks := B.notSynchronized
  subst hsz
  have hD := hD0.self (sz := s.heap.size)
  generalize hAe : va_A [(x, .inr (3, [.ref tb, .ref pb, .ref nd, .ref sp])), (nd, .inr (2, [.ref b, .ref h, .ref rw, .int (iI mn), .int (iI sx)])), (rw, .inl (cR, M, .inl (fun j => iI (V j)))), (b, .inr (0, [.ref r, .int (iI z)])), (r, .inl (cA, w, .inl (fun j => bI (t j)))), (ot, .inl (cO, 1, .inr (.inl (fun j => lI (g9 j)))))] s.heap.size = A at hD hX ⊢
  have hA : ∀ q : Nat, s.heap.size ≤ q → A q := fun q h => by rw [← hAe]; exact Or.inr h
  have hS : va_S A s.heap s.heap [] := va_S.rf
  have hP : va_P (dC, dI) vwCl [(x, .inr (3, [.ref tb, .ref pb, .ref nd, .ref sp])), (nd, .inr (2, [.ref b, .ref h, .ref rw, .int (iI mn), .int (iI sx)])), (rw, .inl (cR, M, .inl (fun j => iI (V j)))), (b, .inr (0, [.ref r, .int (iI z)])), (r, .inl (cA, w, .inl (fun j => bI (t j)))), (ot, .inl (cO, 1, .inr (.inl (fun j => lI (g9 j)))))] s.heap := hP
  have hl := lv_entry ([.ref x, .int (iI a), .int (iI a2), .ref ot]) (n := 5) (Nat.le_of_ble_eq_true rfl)
  rw [lg_entry_eq]
  generalize (lg_sl ([.ref x, .int (iI a), .int (iI a2), .ref ot]) ++ List.replicate (5 - (lg_sl ([.ref x, .int (iI a), .int (iI a2), .ref ot])).length) Slot.unset).toArray = ls at hl ⊢
  have hl : lv_has ls 5 [(0, .ref x), (1, .int (iI a)), (2, .int (iI a2)), (3, .ref ot)] := hl
  have hN := hX.1
  refine lv_aload_n hx hb dL_compare_0 rfl (lv_at hl 3 rfl) ?_
  refine lv_iconst (v := iI 0) hx hb dL_compare_1 rfl ?_
  refine lv_aload_n hx hb dL_compare_2 rfl (lv_at hl 0 rfl) ?_
  refine lv_iload_n hx hb dL_compare_3 rfl (lv_at hl 1 rfl) ?_
  refine lv_iload_n hx hb dL_compare_4 rfl (lv_at hl 2 rfl) ?_
  have hPc := hP.sub (ws' := [(x, .inr (3, [.ref tb, .ref pb, .ref nd, .ref sp])), (nd, .inr (2, [.ref b, .ref h, .ref rw, .int (iI mn), .int (iI sx)])), (rw, .inl (cR, M, .inl (fun j => iI (V j)))), (b, .inr (0, [.ref r, .int (iI z)])), (r, .inl (cA, w, .inl (fun j => bI (t j))))]) [0, 1, 2, 3, 4] rfl
  have hDc := hD.sub (ws' := [(x, .inr (3, [.ref tb, .ref pb, .ref nd, .ref sp])), (nd, .inr (2, [.ref b, .ref h, .ref rw, .int (iI mn), .int (iI sx)])), (rw, .inl (cR, M, .inl (fun j => iI (V j)))), (b, .inr (0, [.ref r, .int (iI z)])), (r, .inl (cA, w, .inl (fun j => bI (t j))))]) [0, 1, 2, 3, 4] (by decide) rfl
  have hKc := hK.sub (tys' := [(cR, .int), (cA, .byte)]) [0, 1] rfl
  have hFc := va_free (wc := [(x, .inr (3, [.ref tb, .ref pb, .ref nd, .ref sp])), (nd, .inr (2, [.ref b, .ref h, .ref rw, .int (iI mn), .int (iI sx)])), (rw, .inl (cR, M, .inl (fun j => iI (V j)))), (b, .inr (0, [.ref r, .int (iI z)])), (r, .inl (cA, w, .inl (fun j => bI (t j))))]) hD hS hA [0, 1, 2, 3, 4] rfl
  refine mx_call (mx_runV (As := [.int (iI a), .int (iI a2)]) (rest := [.int (iI 0), .ref ot]) ⟨hx, hb, hml, hown, hT⟩ (c_R_compare l hl9 dC dI s.heap.size x tb pb nd sp b h rw mn sx cR M V r cA w t z L a a2 (hoN) (hok) (ha) (ha2)) (cwV 2 hT (gV wd482 wd483 wd484 wd26 wd485) rfl rfl rfl (by decide +kernel) ⟨show 8 + 1 ≤ 10 from by omega, show 8 + (3 + 11) + 250 ≤ 310 from by omega⟩) ⟨fun a U g mk q => by obtain ⟨q0, q1, qP, qK, qD, qN⟩ := q; exact ⟨q0, q1, qP, va_K.moved (u := U) (U := U.calling g mk a) (Vm.Alike.refl U.vm) qK, qD, xsE_same rfl rfl qN⟩, va_recv hKc hPc (ci := 3) (q0 := 0) rfl rfl, fun U hU hW => ⟨rfl, by rw [hU], by rw [hU]; exact hPc, va_K.moved hW.alike hKc, hDc.weaken (fun _ _ _ _ => trivial), xsE_in hX hS hFc hU hW⟩⟩ rfl rfl hl.1 rfl (lv_room (Nat.le_of_ble_eq_true rfl)) dL_compare_5 ⟨show 0 + 1 ≤ 1 from by omega, show 0 + 6 ≤ 6 from by omega⟩) hS (fun q _ h => hFc q h) hFc (fun E9 ce9 q9 u k1 n2 tS H1 locs ht hvm hw hB hz1 hk1 hS hce hcv hcl => ?_) (fun v3 u k1 n2 tS H1 locs ht hvm hw hB hz1 hk1 hS => ?_)
  · skip
    obtain ⟨hP1, hK1, hD1⟩ := hB
    rw [ht] at hP1
    have hK1 := va_K.moved hvm.symm hK1
    try dsimp only at hw
    obtain ⟨hP, hD⟩ := va_join (wr := [(ot, .inl (cO, 1, .inr (.inl (fun j => lI (g9 j)))))]) (w1 := [(x, .inr (3, [.ref tb, .ref pb, .ref nd, .ref sp])), (nd, .inr (2, [.ref b, .ref h, .ref rw, .int (iI mn), .int (iI sx)])), (rw, .inl (cR, M, .inl (fun j => iI (V j)))), (b, .inr (0, [.ref r, .int (iI z)])), (r, .inl (cA, w, .inl (fun j => bI (t j))))]) hP hD [0, 1, 2, 3, 4] [5] rfl rfl (by decide) (by decide) hk1 hFc hP1 hD1
    have hK := (hK.sub (tys' := [(cO, .long)]) [2] rfl).app hK1
    generalize H1 = H at hP hS hce ⊢
    have hP : va_P (dC, dI) vwCl [(ot, .inl (cO, 1, .inr (.inl (fun j => lI (g9 j))))), (x, .inr (3, [.ref tb, .ref pb, .ref nd, .ref sp])), (nd, .inr (2, [.ref b, .ref h, .ref rw, .int (iI mn), .int (iI sx)])), (rw, .inl (cR, M, .inl (fun j => iI (V j)))), (b, .inr (0, [.ref r, .int (iI z)])), (r, .inl (cA, w, .inl (fun j => bI (t j))))] H := hP
    have hD : va_D A [(ot, .inl (cO, 1, .inr (.inl (fun j => lI (g9 j))))), (x, .inr (3, [.ref tb, .ref pb, .ref nd, .ref sp])), (nd, .inr (2, [.ref b, .ref h, .ref rw, .int (iI mn), .int (iI sx)])), (rw, .inl (cR, M, .inl (fun j => iI (V j)))), (b, .inr (0, [.ref r, .int (iI z)])), (r, .inl (cA, w, .inl (fun j => bI (t j))))] := hD
    have hK : va_K (dC, dI) vwCl [(cO, .long), (cR, .int), (cA, .byte)] s := hK
    obtain ⟨hw0, hCv3⟩ := hw
    rcases hw0 with ⟨rfl, hOv3⟩
    · skip
      refine vx_catch (own := RL) (name := "java/lang/IllegalArgumentException") hown [] (⟨0, 10, 13, 19⟩ : ExceptionTableEntry) [] ht9 (fun z => (fun hz => nomatch hz)) (by decide) (by decide) (hT _ wd257) (va_Nw.use rfl (xs_cIAE hX.2.1)) hce hcv hcl ?_
      refine W.eq (g2 := F0 m 13 ls [.ref q9]) rfl ?_
      refine lv_astore (lv' := [(4, .ref q9), (0, .ref x), (1, .int (iI a)), (2, .int (iI a2)), (3, .ref ot)]) hx hb dL_compare_13 hl (by decide) rfl (fun ls hl => ?_)
      refine lv_iconst (v := iI 1) hx hb dL_compare_15 rfl ?_
      have hP9 := hP.sub (ws' := [(x, .inr (3, [.ref tb, .ref pb, .ref nd, .ref sp])), (nd, .inr (2, [.ref b, .ref h, .ref rw, .int (iI mn), .int (iI sx)])), (rw, .inl (cR, M, .inl (fun j => iI (V j)))), (b, .inr (0, [.ref r, .int (iI z)])), (r, .inl (cA, w, .inl (fun j => bI (t j)))), (ot, .inl (cO, 1, .inr (.inl (fun j => lI (g9 j)))))]) [1, 2, 3, 4, 5, 0] rfl
      have hD9 := hD.sub (ws' := [(x, .inr (3, [.ref tb, .ref pb, .ref nd, .ref sp])), (nd, .inr (2, [.ref b, .ref h, .ref rw, .int (iI mn), .int (iI sx)])), (rw, .inl (cR, M, .inl (fun j => iI (V j)))), (b, .inr (0, [.ref r, .int (iI z)])), (r, .inl (cA, w, .inl (fun j => bI (t j)))), (ot, .inl (cO, 1, .inr (.inl (fun j => lI (g9 j)))))]) [1, 2, 3, 4, 5, 0] (by decide) rfl
      have hK9 := hK.sub (tys' := [(cR, .int), (cA, .byte), (cO, .long)]) [1, 2, 0] rfl
      exact mv_iret hx hb hr hlocks (fun tS ht hW => ⟨⟨_, (g9, 1), rfl, ⟨rfl, Or.inr (⟨rfl, hOv3⟩), by omega, by omega⟩, by rw [ht]; exact hP9, va_K.moved hW.alike hK9, hD9⟩, hS.F ht⟩) hS.2.2 dL_compare_16
  · skip
    obtain ⟨hP1, hK1, hD1⟩ := hB
    rw [ht] at hP1
    have hK1 := va_K.moved hvm.symm hK1
    try dsimp only at hw
    obtain ⟨hP, hD⟩ := va_join (wr := [(ot, .inl (cO, 1, .inr (.inl (fun j => lI (g9 j)))))]) (w1 := [(x, .inr (3, [.ref tb, .ref pb, .ref nd, .ref sp])), (nd, .inr (2, [.ref b, .ref h, .ref rw, .int (iI mn), .int (iI sx)])), (rw, .inl (cR, M, .inl (fun j => iI (V j)))), (b, .inr (0, [.ref r, .int (iI z)])), (r, .inl (cA, w, .inl (fun j => bI (t j))))]) hP hD [0, 1, 2, 3, 4] [5] rfl rfl (by decide) (by decide) hk1 hFc hP1 hD1
    have hK := (hK.sub (tys' := [(cO, .long)]) [2] rfl).app hK1
    generalize H1 = H at hP hS ⊢
    have hP : va_P (dC, dI) vwCl [(ot, .inl (cO, 1, .inr (.inl (fun j => lI (g9 j))))), (x, .inr (3, [.ref tb, .ref pb, .ref nd, .ref sp])), (nd, .inr (2, [.ref b, .ref h, .ref rw, .int (iI mn), .int (iI sx)])), (rw, .inl (cR, M, .inl (fun j => iI (V j)))), (b, .inr (0, [.ref r, .int (iI z)])), (r, .inl (cA, w, .inl (fun j => bI (t j))))] H := hP
    have hD : va_D A [(ot, .inl (cO, 1, .inr (.inl (fun j => lI (g9 j))))), (x, .inr (3, [.ref tb, .ref pb, .ref nd, .ref sp])), (nd, .inr (2, [.ref b, .ref h, .ref rw, .int (iI mn), .int (iI sx)])), (rw, .inl (cR, M, .inl (fun j => iI (V j)))), (b, .inr (0, [.ref r, .int (iI z)])), (r, .inl (cA, w, .inl (fun j => bI (t j))))] := hD
    have hK : va_K (dC, dI) vwCl [(cO, .long), (cR, .int), (cA, .byte)] s := hK
    obtain ⟨rfl, hOv3, hCv3⟩ := hw
    refine W.eq (g2 := F0 m 8 ls [.int (iI (ord2 L V a a2)), .int (iI 0), .ref ot]) rfl ?_
    have hr9 := ord2_rng L V a a2
    refine li_i2l hx hb (by omega) dL_compare_8 ?_
    refine li_last hx hb hK hP hD hS 0 0 rfl rfl (z := 0) (by omega) (by omega) dL_compare_9 (fun H locs hP hD hS => ?_)
    have hP : va_P (dC, dI) vwCl [(ot, .inl (cO, 1, .inr (.inl (fun j => lI ((vf_upd g9 (0 : Int).toNat (ord2 L V a a2)) j))))), (x, .inr (3, [.ref tb, .ref pb, .ref nd, .ref sp])), (nd, .inr (2, [.ref b, .ref h, .ref rw, .int (iI mn), .int (iI sx)])), (rw, .inl (cR, M, .inl (fun j => iI (V j)))), (b, .inr (0, [.ref r, .int (iI z)])), (r, .inl (cA, w, .inl (fun j => bI (t j))))] H := hP
    have hD : va_D A [(ot, .inl (cO, 1, .inr (.inl (fun j => lI ((vf_upd g9 (0 : Int).toNat (ord2 L V a a2)) j))))), (x, .inr (3, [.ref tb, .ref pb, .ref nd, .ref sp])), (nd, .inr (2, [.ref b, .ref h, .ref rw, .int (iI mn), .int (iI sx)])), (rw, .inl (cR, M, .inl (fun j => iI (V j)))), (b, .inr (0, [.ref r, .int (iI z)])), (r, .inl (cA, w, .inl (fun j => bI (t j))))] := hD
    refine lv_goto (tgt := 17) hx hb dL_compare_10 (by decide) ?_
    refine lv_iconst (v := iI 0) hx hb dL_compare_17 rfl ?_
    have hP9 := hP.sub (ws' := [(x, .inr (3, [.ref tb, .ref pb, .ref nd, .ref sp])), (nd, .inr (2, [.ref b, .ref h, .ref rw, .int (iI mn), .int (iI sx)])), (rw, .inl (cR, M, .inl (fun j => iI (V j)))), (b, .inr (0, [.ref r, .int (iI z)])), (r, .inl (cA, w, .inl (fun j => bI (t j)))), (ot, .inl (cO, 1, .inr (.inl (fun j => lI ((vf_upd g9 (0 : Int).toNat (ord2 L V a a2)) j)))))]) [1, 2, 3, 4, 5, 0] rfl
    have hD9 := hD.sub (ws' := [(x, .inr (3, [.ref tb, .ref pb, .ref nd, .ref sp])), (nd, .inr (2, [.ref b, .ref h, .ref rw, .int (iI mn), .int (iI sx)])), (rw, .inl (cR, M, .inl (fun j => iI (V j)))), (b, .inr (0, [.ref r, .int (iI z)])), (r, .inl (cA, w, .inl (fun j => bI (t j)))), (ot, .inl (cO, 1, .inr (.inl (fun j => lI ((vf_upd g9 (0 : Int).toNat (ord2 L V a a2)) j)))))]) [1, 2, 3, 4, 5, 0] (by decide) rfl
    have hK9 := hK.sub (tys' := [(cR, .int), (cA, .byte), (cO, .long)]) [1, 2, 0] rfl
    exact mv_iret hx hb hr hlocks (fun tS ht hW => ⟨⟨_, ((vf_upd g9 (0 : Int).toNat (ord2 L V a a2)), 0), rfl, ⟨rfl, Or.inl ⟨rfl, hOv3, upd_at rfl⟩, by omega, by omega⟩, by rw [ht]; exact hP9, va_K.moved hW.alike hK9, hD9⟩, hS.F ht⟩) hS.2.2 dL_compare_18
set_option maxHeartbeats 4000000 in
set_option maxRecDepth 100000 in
theorem c_L_count (l : Launch) (hl9 : l.stackTraces = false) (dC : Nat → ClassId) (dI : Nat → Nat → Nat) (sz : Nat) (x : Nat) (tb : Nat) (pb : Nat) (nd : Nat) (sp : Nat) (r : Nat) (z : Int) (b : Nat) (h : Nat) (rw : Nat) (mn : Int) (sx : Int) (i : Int) (ot : Nat) (cO : ClassId) (g9 : Nat → Int) (hi : -2147483648 ≤ i ∧ i < 2147483648) (hz : 0 ≤ z ∧ z ≤ 4096) (hmn : 0 ≤ mn ∧ mn ≤ 2048) : mv_Met l yL_count wsL_count ({ frames := 8, cells := 1, slots := 6, locals := 210 }) (va_Pc [.ref x, .int (iI i), .ref ot] (fun U => U.heap.size = sz ∧ va_P (dC, dI) vwCl [(x, .inr (3, [.ref tb, .ref pb, .ref nd, .ref sp])), (tb, .inr (0, [.ref r, .int (iI z)])), (nd, .inr (2, [.ref b, .ref h, .ref rw, .int (iI mn), .int (iI sx)])), (ot, .inl (cO, 1, .inr (.inl (fun j => lI (g9 j)))))] U.heap ∧ va_K (dC, dI) vwCl [(cO, .long)] U ∧ va_D (fun _ => True) [(x, .inr (3, [.ref tb, .ref pb, .ref nd, .ref sp])), (tb, .inr (0, [.ref r, .int (iI z)])), (nd, .inr (2, [.ref b, .ref h, .ref rw, .int (iI mn), .int (iI sx)])), (ot, .inl (cO, 1, .inr (.inl (fun j => lI (g9 j)))))] ∧ xsE (va_A [(x, .inr (3, [.ref tb, .ref pb, .ref nd, .ref sp])), (tb, .inr (0, [.ref r, .int (iI z)])), (nd, .inr (2, [.ref b, .ref h, .ref rw, .int (iI mn), .int (iI sx)])), (ot, .inl (cO, 1, .inr (.inl (fun j => lI (g9 j)))))] sz) U)) (mv_Q (fun (v : Option Value) (u : (Nat → Int) × Int) (k n : Nat) => match u with | (g', e') => v = some (.int (iI e')) ∧ ((e' = 0 ∧ (i = 0 ∨ i = 1) ∧ g' 0 = if i = 0 then z else mn) ∨ (e' = 1 ∧ (¬ i = 0 ∧ ¬ i = 1))) ∧ k ≤ 1 ∧ n ≤ 6) (fun (u : (Nat → Int) × Int) (tS : State) => match u with | (g', e') => va_P (dC, dI) vwCl [(x, .inr (3, [.ref tb, .ref pb, .ref nd, .ref sp])), (tb, .inr (0, [.ref r, .int (iI z)])), (nd, .inr (2, [.ref b, .ref h, .ref rw, .int (iI mn), .int (iI sx)])), (ot, .inl (cO, 1, .inr (.inl (fun j => lI (g' j)))))] tS.heap ∧ va_K (dC, dI) vwCl [(cO, .long)] tS ∧ va_D (va_A [(x, .inr (3, [.ref tb, .ref pb, .ref nd, .ref sp])), (tb, .inr (0, [.ref r, .int (iI z)])), (nd, .inr (2, [.ref b, .ref h, .ref rw, .int (iI mn), .int (iI sx)])), (ot, .inl (cO, 1, .inr (.inl (fun j => lI (g9 j)))))] sz) [(x, .inr (3, [.ref tb, .ref pb, .ref nd, .ref sp])), (tb, .inr (0, [.ref r, .int (iI z)])), (nd, .inr (2, [.ref b, .ref h, .ref rw, .int (iI mn), .int (iI sx)])), (ot, .inl (cO, 1, .inr (.inl (fun j => lI (g' j)))))]) (va_A [(x, .inr (3, [.ref tb, .ref pb, .ref nd, .ref sp])), (tb, .inr (0, [.ref r, .int (iI z)])), (nd, .inr (2, [.ref b, .ref h, .ref rw, .int (iI mn), .int (iI sx)])), (ot, .inl (cO, 1, .inr (.inl (fun j => lI (g9 j)))))] sz)) (va_A [(x, .inr (3, [.ref tb, .ref pb, .ref nd, .ref sp])), (tb, .inr (0, [.ref r, .int (iI z)])), (nd, .inr (2, [.ref b, .ref h, .ref rw, .int (iI mn), .int (iI sx)])), (ot, .inl (cO, 1, .inr (.inl (fun j => lI (g9 j)))))] sz) := by
  refine mv_ofWH (cc := cL_count) (maxL := 4) (ret := (some .int)) (by decide) rfl ?_
  intro p e s m args below meth c s₁ B hml ht9 hv
  obtain ⟨rfl, hsz, hP, hK, hD0, hX⟩ := hv
  have hx := B.exec
  have hb := B.bytes
  have hr := B.returns
  have hT : ∀ w ∈ wT, w.before _ s = true := fun w h => atoms_spec (ws := wsL_count) B.pre w (List.mem_cons_of_mem _ h)
  have hown : s.vm.findClass RL = some m.cls := findClass_of_methodNamed B.named
  have hlocks := B.notSynchronized
  subst hsz
  have hD := hD0.self (sz := s.heap.size)
  generalize hAe : va_A [(x, .inr (3, [.ref tb, .ref pb, .ref nd, .ref sp])), (tb, .inr (0, [.ref r, .int (iI z)])), (nd, .inr (2, [.ref b, .ref h, .ref rw, .int (iI mn), .int (iI sx)])), (ot, .inl (cO, 1, .inr (.inl (fun j => lI (g9 j)))))] s.heap.size = A at hD hX ⊢
  have hA : ∀ q : Nat, s.heap.size ≤ q → A q := fun q h => by rw [← hAe]; exact Or.inr h
  have hS : va_S A s.heap s.heap [] := va_S.rf
  have hP : va_P (dC, dI) vwCl [(x, .inr (3, [.ref tb, .ref pb, .ref nd, .ref sp])), (tb, .inr (0, [.ref r, .int (iI z)])), (nd, .inr (2, [.ref b, .ref h, .ref rw, .int (iI mn), .int (iI sx)])), (ot, .inl (cO, 1, .inr (.inl (fun j => lI (g9 j)))))] s.heap := hP
  have hl := lv_entry ([.ref x, .int (iI i), .ref ot]) (n := 4) (Nat.le_of_ble_eq_true rfl)
  rw [lg_entry_eq]
  generalize (lg_sl ([.ref x, .int (iI i), .ref ot]) ++ List.replicate (4 - (lg_sl ([.ref x, .int (iI i), .ref ot])).length) Slot.unset).toArray = ls at hl ⊢
  have hl : lv_has ls 4 [(0, .ref x), (1, .int (iI i)), (2, .ref ot)] := hl
  have hN := hX.1
  refine lv_aload_n hx hb dL_count_0 rfl (lv_at hl 2 rfl) ?_
  refine lv_iconst (v := iI 0) hx hb dL_count_1 rfl ?_
  refine lv_aload_n hx hb dL_count_2 rfl (lv_at hl 0 rfl) ?_
  refine lv_iload_n hx hb dL_count_3 rfl (lv_at hl 1 rfl) ?_
  have hPc := hP.sub (ws' := [(x, .inr (3, [.ref tb, .ref pb, .ref nd, .ref sp])), (tb, .inr (0, [.ref r, .int (iI z)])), (nd, .inr (2, [.ref b, .ref h, .ref rw, .int (iI mn), .int (iI sx)]))]) [0, 1, 2] rfl
  have hDc := hD.sub (ws' := [(x, .inr (3, [.ref tb, .ref pb, .ref nd, .ref sp])), (tb, .inr (0, [.ref r, .int (iI z)])), (nd, .inr (2, [.ref b, .ref h, .ref rw, .int (iI mn), .int (iI sx)]))]) [0, 1, 2] (by decide) rfl
  have hKc := hK.sub (tys' := []) [] rfl
  have hFc := va_free (wc := [(x, .inr (3, [.ref tb, .ref pb, .ref nd, .ref sp])), (tb, .inr (0, [.ref r, .int (iI z)])), (nd, .inr (2, [.ref b, .ref h, .ref rw, .int (iI mn), .int (iI sx)]))]) hD hS hA [0, 1, 2] rfl
  refine mx_call (mx_runV (As := [.int (iI i)]) (rest := [.int (iI 0), .ref ot]) ⟨hx, hb, hml, hown, hT⟩ (c_R_count l hl9 dC dI s.heap.size x tb pb nd sp r z b h rw mn sx i (hi) (hz) (hmn)) (cwV 1 hT (gV wd497 wd498 wd499 wd26 wd500) rfl rfl rfl (by decide +kernel) ⟨show 6 + 1 ≤ 8 from by omega, show 8 + (2 + 11) + 150 ≤ 210 from by omega⟩) ⟨fun a U g mk q => by obtain ⟨q0, q1, qP, qK, qD, qN⟩ := q; exact ⟨q0, q1, qP, va_K.moved (u := U) (U := U.calling g mk a) (Vm.Alike.refl U.vm) qK, qD, xsE_same rfl rfl qN⟩, va_recv hKc hPc (ci := 3) (q0 := 0) rfl rfl, fun U hU hW => ⟨rfl, by rw [hU], by rw [hU]; exact hPc, va_K.moved hW.alike hKc, hDc.weaken (fun _ _ _ _ => trivial), xsE_in hX hS hFc hU hW⟩⟩ rfl rfl hl.1 rfl (lv_room (Nat.le_of_ble_eq_true rfl)) dL_count_4 ⟨show 0 + 1 ≤ 1 from by omega, show 0 + 6 ≤ 6 from by omega⟩) hS (fun q _ h => hFc q h) hFc (fun E9 ce9 q9 u k1 n2 tS H1 locs ht hvm hw hB hz1 hk1 hS hce hcv hcl => ?_) (fun v3 u k1 n2 tS H1 locs ht hvm hw hB hz1 hk1 hS => ?_)
  · skip
    obtain ⟨hP1, hK1, hD1⟩ := hB
    rw [ht] at hP1
    have hK1 := va_K.moved hvm.symm hK1
    try dsimp only at hw
    obtain ⟨hP, hD⟩ := va_join (wr := [(ot, .inl (cO, 1, .inr (.inl (fun j => lI (g9 j)))))]) (w1 := [(x, .inr (3, [.ref tb, .ref pb, .ref nd, .ref sp])), (tb, .inr (0, [.ref r, .int (iI z)])), (nd, .inr (2, [.ref b, .ref h, .ref rw, .int (iI mn), .int (iI sx)]))]) hP hD [0, 1, 2] [3] rfl rfl (by decide) (by decide) hk1 hFc hP1 hD1
    have hK := (hK.sub (tys' := [(cO, .long)]) [0] rfl).app hK1
    generalize H1 = H at hP hS hce ⊢
    have hP : va_P (dC, dI) vwCl [(ot, .inl (cO, 1, .inr (.inl (fun j => lI (g9 j))))), (x, .inr (3, [.ref tb, .ref pb, .ref nd, .ref sp])), (tb, .inr (0, [.ref r, .int (iI z)])), (nd, .inr (2, [.ref b, .ref h, .ref rw, .int (iI mn), .int (iI sx)]))] H := hP
    have hD : va_D A [(ot, .inl (cO, 1, .inr (.inl (fun j => lI (g9 j))))), (x, .inr (3, [.ref tb, .ref pb, .ref nd, .ref sp])), (tb, .inr (0, [.ref r, .int (iI z)])), (nd, .inr (2, [.ref b, .ref h, .ref rw, .int (iI mn), .int (iI sx)]))] := hD
    have hK : va_K (dC, dI) vwCl [(cO, .long)] s := hK
    obtain ⟨hw0, hCv3⟩ := hw
    rcases hw0 with ⟨rfl, hOv3⟩
    · skip
      refine vx_catch (own := RL) (name := "java/lang/IllegalArgumentException") hown [] (⟨0, 9, 12, 19⟩ : ExceptionTableEntry) [] ht9 (fun z => (fun hz => nomatch hz)) (by decide) (by decide) (hT _ wd257) (va_Nw.use rfl (xs_cIAE hX.2.1)) hce hcv hcl ?_
      refine W.eq (g2 := F0 m 12 ls [.ref q9]) rfl ?_
      refine lv_astore_n (lv' := [(3, .ref q9), (0, .ref x), (1, .int (iI i)), (2, .ref ot)]) hx hb dL_count_12 rfl hl (by decide) rfl (fun ls hl => ?_)
      refine lv_iconst (v := iI 1) hx hb dL_count_13 rfl ?_
      have hP9 := hP.sub (ws' := [(x, .inr (3, [.ref tb, .ref pb, .ref nd, .ref sp])), (tb, .inr (0, [.ref r, .int (iI z)])), (nd, .inr (2, [.ref b, .ref h, .ref rw, .int (iI mn), .int (iI sx)])), (ot, .inl (cO, 1, .inr (.inl (fun j => lI (g9 j)))))]) [1, 2, 3, 0] rfl
      have hD9 := hD.sub (ws' := [(x, .inr (3, [.ref tb, .ref pb, .ref nd, .ref sp])), (tb, .inr (0, [.ref r, .int (iI z)])), (nd, .inr (2, [.ref b, .ref h, .ref rw, .int (iI mn), .int (iI sx)])), (ot, .inl (cO, 1, .inr (.inl (fun j => lI (g9 j)))))]) [1, 2, 3, 0] (by decide) rfl
      have hK9 := hK.sub (tys' := [(cO, .long)]) [0] rfl
      exact mv_iret hx hb hr hlocks (fun tS ht hW => ⟨⟨_, (g9, 1), rfl, ⟨rfl, Or.inr (⟨rfl, hOv3⟩), by omega, by omega⟩, by rw [ht]; exact hP9, va_K.moved hW.alike hK9, hD9⟩, hS.F ht⟩) hS.2.2 dL_count_14
  · skip
    obtain ⟨hP1, hK1, hD1⟩ := hB
    rw [ht] at hP1
    have hK1 := va_K.moved hvm.symm hK1
    try dsimp only at hw
    obtain ⟨hP, hD⟩ := va_join (wr := [(ot, .inl (cO, 1, .inr (.inl (fun j => lI (g9 j)))))]) (w1 := [(x, .inr (3, [.ref tb, .ref pb, .ref nd, .ref sp])), (tb, .inr (0, [.ref r, .int (iI z)])), (nd, .inr (2, [.ref b, .ref h, .ref rw, .int (iI mn), .int (iI sx)]))]) hP hD [0, 1, 2] [3] rfl rfl (by decide) (by decide) hk1 hFc hP1 hD1
    have hK := (hK.sub (tys' := [(cO, .long)]) [0] rfl).app hK1
    generalize H1 = H at hP hS ⊢
    have hP : va_P (dC, dI) vwCl [(ot, .inl (cO, 1, .inr (.inl (fun j => lI (g9 j))))), (x, .inr (3, [.ref tb, .ref pb, .ref nd, .ref sp])), (tb, .inr (0, [.ref r, .int (iI z)])), (nd, .inr (2, [.ref b, .ref h, .ref rw, .int (iI mn), .int (iI sx)]))] H := hP
    have hD : va_D A [(ot, .inl (cO, 1, .inr (.inl (fun j => lI (g9 j))))), (x, .inr (3, [.ref tb, .ref pb, .ref nd, .ref sp])), (tb, .inr (0, [.ref r, .int (iI z)])), (nd, .inr (2, [.ref b, .ref h, .ref rw, .int (iI mn), .int (iI sx)]))] := hD
    have hK : va_K (dC, dI) vwCl [(cO, .long)] s := hK
    obtain ⟨rfl, hOv3, hCv3⟩ := hw
    refine W.eq (g2 := F0 m 7 ls [.int (iI (if i = 0 then z else mn)), .int (iI 0), .ref ot]) rfl ?_
    have hr9 : -2147483648 ≤ (if i = 0 then z else mn) ∧ (if i = 0 then z else mn) < 2147483648 := by split <;> omega
    refine li_i2l hx hb (by omega) dL_count_7 ?_
    refine li_last hx hb hK hP hD hS 0 0 rfl rfl (z := 0) (by omega) (by omega) dL_count_8 (fun H locs hP hD hS => ?_)
    have hP : va_P (dC, dI) vwCl [(ot, .inl (cO, 1, .inr (.inl (fun j => lI ((vf_upd g9 (0 : Int).toNat (if i = 0 then z else mn)) j))))), (x, .inr (3, [.ref tb, .ref pb, .ref nd, .ref sp])), (tb, .inr (0, [.ref r, .int (iI z)])), (nd, .inr (2, [.ref b, .ref h, .ref rw, .int (iI mn), .int (iI sx)]))] H := hP
    have hD : va_D A [(ot, .inl (cO, 1, .inr (.inl (fun j => lI ((vf_upd g9 (0 : Int).toNat (if i = 0 then z else mn)) j))))), (x, .inr (3, [.ref tb, .ref pb, .ref nd, .ref sp])), (tb, .inr (0, [.ref r, .int (iI z)])), (nd, .inr (2, [.ref b, .ref h, .ref rw, .int (iI mn), .int (iI sx)]))] := hD
    refine lv_goto (tgt := 15) hx hb dL_count_9 (by decide) ?_
    refine lv_iconst (v := iI 0) hx hb dL_count_15 rfl ?_
    have hP9 := hP.sub (ws' := [(x, .inr (3, [.ref tb, .ref pb, .ref nd, .ref sp])), (tb, .inr (0, [.ref r, .int (iI z)])), (nd, .inr (2, [.ref b, .ref h, .ref rw, .int (iI mn), .int (iI sx)])), (ot, .inl (cO, 1, .inr (.inl (fun j => lI ((vf_upd g9 (0 : Int).toNat (if i = 0 then z else mn)) j)))))]) [1, 2, 3, 0] rfl
    have hD9 := hD.sub (ws' := [(x, .inr (3, [.ref tb, .ref pb, .ref nd, .ref sp])), (tb, .inr (0, [.ref r, .int (iI z)])), (nd, .inr (2, [.ref b, .ref h, .ref rw, .int (iI mn), .int (iI sx)])), (ot, .inl (cO, 1, .inr (.inl (fun j => lI ((vf_upd g9 (0 : Int).toNat (if i = 0 then z else mn)) j)))))]) [1, 2, 3, 0] (by decide) rfl
    have hK9 := hK.sub (tys' := [(cO, .long)]) [0] rfl
    exact mv_iret hx hb hr hlocks (fun tS ht hW => ⟨⟨_, ((vf_upd g9 (0 : Int).toNat (if i = 0 then z else mn)), 0), rfl, ⟨rfl, Or.inl ⟨rfl, hOv3, upd_at rfl⟩, by omega, by omega⟩, by rw [ht]; exact hP9, va_K.moved hW.alike hK9, hD9⟩, hS.F ht⟩) hS.2.2 dL_count_16
set_option maxHeartbeats 4000000 in
set_option maxRecDepth 100000 in
theorem c_L_word (l : Launch) (hl9 : l.stackTraces = false) (dC : Nat → ClassId) (dI : Nat → Nat → Nat) (sz : Nat) (x : Nat) (b : Nat) (pb : Nat) (nd : Nat) (sp : Nat) (r : Nat) (cA : ClassId) (w : Nat) (t : Nat → Int) (z : Int) (L : List Int) (i : Int) (ot : Nat) (cO : ClassId) (g9 : Nat → Int) (hok : okB w t z L) (hi : -2147483648 ≤ i ∧ i < 2147483648) : mv_Met l yL_word wsL_word ({ frames := 8, cells := 1, slots := 6, locals := 210 }) (va_Pc [.ref x, .int (iI i), .ref ot] (fun U => U.heap.size = sz ∧ va_P (dC, dI) vwCl [(x, .inr (3, [.ref b, .ref pb, .ref nd, .ref sp])), (b, .inr (0, [.ref r, .int (iI z)])), (r, .inl (cA, w, .inl (fun j => bI (t j)))), (ot, .inl (cO, 1, .inr (.inl (fun j => lI (g9 j)))))] U.heap ∧ va_K (dC, dI) vwCl [(cA, .byte), (cO, .long)] U ∧ va_D (fun _ => True) [(x, .inr (3, [.ref b, .ref pb, .ref nd, .ref sp])), (b, .inr (0, [.ref r, .int (iI z)])), (r, .inl (cA, w, .inl (fun j => bI (t j)))), (ot, .inl (cO, 1, .inr (.inl (fun j => lI (g9 j)))))] ∧ xsE (va_A [(x, .inr (3, [.ref b, .ref pb, .ref nd, .ref sp])), (b, .inr (0, [.ref r, .int (iI z)])), (r, .inl (cA, w, .inl (fun j => bI (t j)))), (ot, .inl (cO, 1, .inr (.inl (fun j => lI (g9 j)))))] sz) U)) (mv_Q (fun (v : Option Value) (u : (Nat → Int) × Int) (k n : Nat) => match u with | (g', e') => v = some (.int (iI e')) ∧ ((e' = 0 ∧ (0 ≤ i ∧ i < z) ∧ g' 0 = wrd L i) ∨ (e' = 1 ∧ (i < 0 ∨ z ≤ i))) ∧ k ≤ 1 ∧ n ≤ 6) (fun (u : (Nat → Int) × Int) (tS : State) => match u with | (g', e') => va_P (dC, dI) vwCl [(x, .inr (3, [.ref b, .ref pb, .ref nd, .ref sp])), (b, .inr (0, [.ref r, .int (iI z)])), (r, .inl (cA, w, .inl (fun j => bI (t j)))), (ot, .inl (cO, 1, .inr (.inl (fun j => lI (g' j)))))] tS.heap ∧ va_K (dC, dI) vwCl [(cA, .byte), (cO, .long)] tS ∧ va_D (va_A [(x, .inr (3, [.ref b, .ref pb, .ref nd, .ref sp])), (b, .inr (0, [.ref r, .int (iI z)])), (r, .inl (cA, w, .inl (fun j => bI (t j)))), (ot, .inl (cO, 1, .inr (.inl (fun j => lI (g9 j)))))] sz) [(x, .inr (3, [.ref b, .ref pb, .ref nd, .ref sp])), (b, .inr (0, [.ref r, .int (iI z)])), (r, .inl (cA, w, .inl (fun j => bI (t j)))), (ot, .inl (cO, 1, .inr (.inl (fun j => lI (g' j)))))]) (va_A [(x, .inr (3, [.ref b, .ref pb, .ref nd, .ref sp])), (b, .inr (0, [.ref r, .int (iI z)])), (r, .inl (cA, w, .inl (fun j => bI (t j)))), (ot, .inl (cO, 1, .inr (.inl (fun j => lI (g9 j)))))] sz)) (va_A [(x, .inr (3, [.ref b, .ref pb, .ref nd, .ref sp])), (b, .inr (0, [.ref r, .int (iI z)])), (r, .inl (cA, w, .inl (fun j => bI (t j)))), (ot, .inl (cO, 1, .inr (.inl (fun j => lI (g9 j)))))] sz) := by
  refine mv_ofWH (cc := cL_word) (maxL := 4) (ret := (some .int)) (by decide) rfl ?_
  intro p e s m args below meth c s₁ B hml ht9 hv
  obtain ⟨rfl, hsz, hP, hK, hD0, hX⟩ := hv
  have hx := B.exec
  have hb := B.bytes
  have hr := B.returns
  have hT : ∀ w ∈ wT, w.before _ s = true := fun w h => atoms_spec (ws := wsL_word) B.pre w (List.mem_cons_of_mem _ h)
  have hown : s.vm.findClass RL = some m.cls := findClass_of_methodNamed B.named
  have hlocks := B.notSynchronized
  subst hsz
  have hD := hD0.self (sz := s.heap.size)
  generalize hAe : va_A [(x, .inr (3, [.ref b, .ref pb, .ref nd, .ref sp])), (b, .inr (0, [.ref r, .int (iI z)])), (r, .inl (cA, w, .inl (fun j => bI (t j)))), (ot, .inl (cO, 1, .inr (.inl (fun j => lI (g9 j)))))] s.heap.size = A at hD hX ⊢
  have hA : ∀ q : Nat, s.heap.size ≤ q → A q := fun q h => by rw [← hAe]; exact Or.inr h
  have hS : va_S A s.heap s.heap [] := va_S.rf
  have hP : va_P (dC, dI) vwCl [(x, .inr (3, [.ref b, .ref pb, .ref nd, .ref sp])), (b, .inr (0, [.ref r, .int (iI z)])), (r, .inl (cA, w, .inl (fun j => bI (t j)))), (ot, .inl (cO, 1, .inr (.inl (fun j => lI (g9 j)))))] s.heap := hP
  have hl := lv_entry ([.ref x, .int (iI i), .ref ot]) (n := 4) (Nat.le_of_ble_eq_true rfl)
  rw [lg_entry_eq]
  generalize (lg_sl ([.ref x, .int (iI i), .ref ot]) ++ List.replicate (4 - (lg_sl ([.ref x, .int (iI i), .ref ot])).length) Slot.unset).toArray = ls at hl ⊢
  have hl : lv_has ls 4 [(0, .ref x), (1, .int (iI i)), (2, .ref ot)] := hl
  have hN := hX.1
  obtain ⟨hw1, hw2, hw3, hw4, hw5, hw6⟩ := id hok
  refine lv_aload_n hx hb dL_word_0 rfl (lv_at hl 2 rfl) ?_
  refine lv_iconst (v := iI 0) hx hb dL_word_1 rfl ?_
  refine lv_aload_n hx hb dL_word_2 rfl (lv_at hl 0 rfl) ?_
  refine lv_iload_n hx hb dL_word_3 rfl (lv_at hl 1 rfl) ?_
  have hPc := hP.sub (ws' := [(x, .inr (3, [.ref b, .ref pb, .ref nd, .ref sp])), (b, .inr (0, [.ref r, .int (iI z)])), (r, .inl (cA, w, .inl (fun j => bI (t j))))]) [0, 1, 2] rfl
  have hDc := hD.sub (ws' := [(x, .inr (3, [.ref b, .ref pb, .ref nd, .ref sp])), (b, .inr (0, [.ref r, .int (iI z)])), (r, .inl (cA, w, .inl (fun j => bI (t j))))]) [0, 1, 2] (by decide) rfl
  have hKc := hK.sub (tys' := [(cA, .byte)]) [0] rfl
  have hFc := va_free (wc := [(x, .inr (3, [.ref b, .ref pb, .ref nd, .ref sp])), (b, .inr (0, [.ref r, .int (iI z)])), (r, .inl (cA, w, .inl (fun j => bI (t j))))]) hD hS hA [0, 1, 2] rfl
  refine mx_call (mx_runV (As := [.int (iI i)]) (rest := [.int (iI 0), .ref ot]) ⟨hx, hb, hml, hown, hT⟩ (c_R_word l hl9 dC dI s.heap.size x b pb nd sp r cA w t z L i (hok) (hi)) (cwV 1 hT (gV wd505 wd506 wd507 wd26 wd508) rfl rfl rfl (by decide +kernel) ⟨show 6 + 1 ≤ 8 from by omega, show 8 + (5 + 11) + 150 ≤ 210 from by omega⟩) ⟨fun a U g mk q => by obtain ⟨q0, q1, qP, qK, qD, qN⟩ := q; exact ⟨q0, q1, qP, va_K.moved (u := U) (U := U.calling g mk a) (Vm.Alike.refl U.vm) qK, qD, xsE_same rfl rfl qN⟩, va_recv hKc hPc (ci := 3) (q0 := 0) rfl rfl, fun U hU hW => ⟨rfl, by rw [hU], by rw [hU]; exact hPc, va_K.moved hW.alike hKc, hDc.weaken (fun _ _ _ _ => trivial), xsE_in hX hS hFc hU hW⟩⟩ rfl rfl hl.1 rfl (lv_room (Nat.le_of_ble_eq_true rfl)) dL_word_4 ⟨show 0 + 1 ≤ 1 from by omega, show 0 + 6 ≤ 6 from by omega⟩) hS (fun q _ h => hFc q h) hFc (fun E9 ce9 q9 u k1 n2 tS H1 locs ht hvm hw hB hz1 hk1 hS hce hcv hcl => ?_) (fun v3 u k1 n2 tS H1 locs ht hvm hw hB hz1 hk1 hS => ?_)
  · skip
    obtain ⟨hP1, hK1, hD1⟩ := hB
    rw [ht] at hP1
    have hK1 := va_K.moved hvm.symm hK1
    try dsimp only at hw
    obtain ⟨hP, hD⟩ := va_join (wr := [(ot, .inl (cO, 1, .inr (.inl (fun j => lI (g9 j)))))]) (w1 := [(x, .inr (3, [.ref b, .ref pb, .ref nd, .ref sp])), (b, .inr (0, [.ref r, .int (iI z)])), (r, .inl (cA, w, .inl (fun j => bI (t j))))]) hP hD [0, 1, 2] [3] rfl rfl (by decide) (by decide) hk1 hFc hP1 hD1
    have hK := (hK.sub (tys' := [(cO, .long)]) [1] rfl).app hK1
    generalize H1 = H at hP hS hce ⊢
    have hP : va_P (dC, dI) vwCl [(ot, .inl (cO, 1, .inr (.inl (fun j => lI (g9 j))))), (x, .inr (3, [.ref b, .ref pb, .ref nd, .ref sp])), (b, .inr (0, [.ref r, .int (iI z)])), (r, .inl (cA, w, .inl (fun j => bI (t j))))] H := hP
    have hD : va_D A [(ot, .inl (cO, 1, .inr (.inl (fun j => lI (g9 j))))), (x, .inr (3, [.ref b, .ref pb, .ref nd, .ref sp])), (b, .inr (0, [.ref r, .int (iI z)])), (r, .inl (cA, w, .inl (fun j => bI (t j))))] := hD
    have hK : va_K (dC, dI) vwCl [(cO, .long), (cA, .byte)] s := hK
    obtain ⟨hw0, hCv3⟩ := hw
    rcases hw0 with ⟨rfl, hOv3⟩
    · skip
      refine vx_catch (own := RL) (name := "java/lang/IndexOutOfBoundsException") hown [] (⟨0, 8, 11, 13⟩ : ExceptionTableEntry) [] ht9 (fun z => (fun hz => nomatch hz)) (by decide) (by decide) (hT _ wd136) (va_Nw.use rfl (xs_cIOOBE hX.2.1)) hce hcv hcl ?_
      refine W.eq (g2 := F0 m 11 ls [.ref q9]) rfl ?_
      refine lv_astore_n (lv' := [(3, .ref q9), (0, .ref x), (1, .int (iI i)), (2, .ref ot)]) hx hb dL_word_11 rfl hl (by decide) rfl (fun ls hl => ?_)
      refine lv_iconst (v := iI 1) hx hb dL_word_12 rfl ?_
      have hP9 := hP.sub (ws' := [(x, .inr (3, [.ref b, .ref pb, .ref nd, .ref sp])), (b, .inr (0, [.ref r, .int (iI z)])), (r, .inl (cA, w, .inl (fun j => bI (t j)))), (ot, .inl (cO, 1, .inr (.inl (fun j => lI (g9 j)))))]) [1, 2, 3, 0] rfl
      have hD9 := hD.sub (ws' := [(x, .inr (3, [.ref b, .ref pb, .ref nd, .ref sp])), (b, .inr (0, [.ref r, .int (iI z)])), (r, .inl (cA, w, .inl (fun j => bI (t j)))), (ot, .inl (cO, 1, .inr (.inl (fun j => lI (g9 j)))))]) [1, 2, 3, 0] (by decide) rfl
      have hK9 := hK.sub (tys' := [(cA, .byte), (cO, .long)]) [1, 0] rfl
      exact mv_iret hx hb hr hlocks (fun tS ht hW => ⟨⟨_, (g9, 1), rfl, ⟨rfl, Or.inr (⟨rfl, hOv3⟩), by omega, by omega⟩, by rw [ht]; exact hP9, va_K.moved hW.alike hK9, hD9⟩, hS.F ht⟩) hS.2.2 dL_word_13
  · skip
    obtain ⟨hP1, hK1, hD1⟩ := hB
    rw [ht] at hP1
    have hK1 := va_K.moved hvm.symm hK1
    try dsimp only at hw
    obtain ⟨hP, hD⟩ := va_join (wr := [(ot, .inl (cO, 1, .inr (.inl (fun j => lI (g9 j)))))]) (w1 := [(x, .inr (3, [.ref b, .ref pb, .ref nd, .ref sp])), (b, .inr (0, [.ref r, .int (iI z)])), (r, .inl (cA, w, .inl (fun j => bI (t j))))]) hP hD [0, 1, 2] [3] rfl rfl (by decide) (by decide) hk1 hFc hP1 hD1
    have hK := (hK.sub (tys' := [(cO, .long)]) [1] rfl).app hK1
    generalize H1 = H at hP hS ⊢
    have hP : va_P (dC, dI) vwCl [(ot, .inl (cO, 1, .inr (.inl (fun j => lI (g9 j))))), (x, .inr (3, [.ref b, .ref pb, .ref nd, .ref sp])), (b, .inr (0, [.ref r, .int (iI z)])), (r, .inl (cA, w, .inl (fun j => bI (t j))))] H := hP
    have hD : va_D A [(ot, .inl (cO, 1, .inr (.inl (fun j => lI (g9 j))))), (x, .inr (3, [.ref b, .ref pb, .ref nd, .ref sp])), (b, .inr (0, [.ref r, .int (iI z)])), (r, .inl (cA, w, .inl (fun j => bI (t j))))] := hD
    have hK : va_K (dC, dI) vwCl [(cO, .long), (cA, .byte)] s := hK
    obtain ⟨rfl, hOv3, hCv3⟩ := hw
    refine W.eq (g2 := F0 m 7 ls [.long (lI (wrd L i)), .int (iI 0), .ref ot]) rfl ?_
    refine li_last hx hb hK hP hD hS 0 0 rfl rfl (z := 0) (by omega) (by omega) dL_word_7 (fun H locs hP hD hS => ?_)
    have hP : va_P (dC, dI) vwCl [(ot, .inl (cO, 1, .inr (.inl (fun j => lI ((vf_upd g9 (0 : Int).toNat (wrd L i)) j))))), (x, .inr (3, [.ref b, .ref pb, .ref nd, .ref sp])), (b, .inr (0, [.ref r, .int (iI z)])), (r, .inl (cA, w, .inl (fun j => bI (t j))))] H := hP
    have hD : va_D A [(ot, .inl (cO, 1, .inr (.inl (fun j => lI ((vf_upd g9 (0 : Int).toNat (wrd L i)) j))))), (x, .inr (3, [.ref b, .ref pb, .ref nd, .ref sp])), (b, .inr (0, [.ref r, .int (iI z)])), (r, .inl (cA, w, .inl (fun j => bI (t j))))] := hD
    refine lv_goto (tgt := 14) hx hb dL_word_8 (by decide) ?_
    refine lv_iconst (v := iI 0) hx hb dL_word_14 rfl ?_
    have hP9 := hP.sub (ws' := [(x, .inr (3, [.ref b, .ref pb, .ref nd, .ref sp])), (b, .inr (0, [.ref r, .int (iI z)])), (r, .inl (cA, w, .inl (fun j => bI (t j)))), (ot, .inl (cO, 1, .inr (.inl (fun j => lI ((vf_upd g9 (0 : Int).toNat (wrd L i)) j)))))]) [1, 2, 3, 0] rfl
    have hD9 := hD.sub (ws' := [(x, .inr (3, [.ref b, .ref pb, .ref nd, .ref sp])), (b, .inr (0, [.ref r, .int (iI z)])), (r, .inl (cA, w, .inl (fun j => bI (t j)))), (ot, .inl (cO, 1, .inr (.inl (fun j => lI ((vf_upd g9 (0 : Int).toNat (wrd L i)) j)))))]) [1, 2, 3, 0] (by decide) rfl
    have hK9 := hK.sub (tys' := [(cA, .byte), (cO, .long)]) [1, 0] rfl
    exact mv_iret hx hb hr hlocks (fun tS ht hW => ⟨⟨_, ((vf_upd g9 (0 : Int).toNat (wrd L i)), 0), rfl, ⟨rfl, Or.inl ⟨rfl, hOv3, upd_at rfl⟩, by omega, by omega⟩, by rw [ht]; exact hP9, va_K.moved hW.alike hK9, hD9⟩, hS.F ht⟩) hS.2.2 dL_word_15
