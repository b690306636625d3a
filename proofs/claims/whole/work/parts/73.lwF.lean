set_option maxHeartbeats 8000000 in
set_option maxRecDepth 100000 in
theorem lw_add (l : Launch) (hl9 : l.stackTraces = false) {p : Program} {e : Env} {s : State} {m : MethodId} {below : List Frame} {meth : Method} {c : Code} {b L : Nat} {xs : Nat → Int32} {dC : Nat → ClassId} {dI : Nat → Nat → Nat} {A : Nat → Prop} (hL : L ≤ 3072) (C0 : lw_At p s m meth c b L xs) (hAe : ∀ q, A q ↔ s.heap.size ≤ q) (hX : xsE A s) {fu : Nat} (ih : lw_LH p l e s m below meth c b L dC dI A 23 0 fu) : lw_LH p l e s m below meth c b L dC dI A 547 6 (fu + 1) := by
  obtain ⟨hx, hb, hr, hml, hown0, hts, hXs, hbl, hlocks, hgv⟩ := id C0
  have hT : ∀ w ∈ wT, w.before #[Value.ref b] s = true := fun w h => hts w (wT_in h)
  have hown : s.vm.findClass RL = some m.cls := hown0
  have hA : ∀ q : Nat, s.heap.size ≤ q → A q := fun q h => (hAe q).mpr h
  have hbA : ¬ A b := fun h => Nat.not_le.mpr hbl ((hAe b).mp h)
  intro ii x tb pb nd sp tr tA tw tt tl pr pA pw ptt pl nb nh nrw nmn nsx nR nM nV nkd ncs ntg nop nsg nct nr nA nw nt nz sb sh srw smn ssx sR sM sV skd scs stg sop ssg sct sr sA sw stt szz mm mfl ta ka da ya mpt mmd msx cT mt cK kt cD Vt cY Y ot cO gg LT LN LS H locs ls kc ks hfu hii hok hokp hoN hokN hoM hokS hokm hE hkb hgN hco hkk hK hP hD hS hl
  obtain ⟨sc1, esc1⟩ : ∃ y : Int, y = (xs (ii + 1 : Int).toNat).toInt := ⟨_, rfl⟩
  have hsc1 : -2147483648 ≤ sc1 ∧ sc1 < 2147483648 := by rw [esc1]; exact iI_rng _
  obtain ⟨sc2, esc2⟩ : ∃ y : Int, y = (xs (ii + 2 : Int).toNat).toInt := ⟨_, rfl⟩
  have hsc2 : -2147483648 ≤ sc2 ∧ sc2 < 2147483648 := by rw [esc2]; exact iI_rng _
  obtain ⟨sc3, esc3⟩ : ∃ y : Int, y = (xs (ii + 3 : Int).toNat).toInt := ⟨_, rfl⟩
  have hsc3 : -2147483648 ≤ sc3 ∧ sc3 < 2147483648 := by rw [esc3]; exact iI_rng _
  obtain ⟨sc4, esc4⟩ : ∃ y : Int, y = (xs (ii + 4 : Int).toNat).toInt := ⟨_, rfl⟩
  have hsc4 : -2147483648 ≤ sc4 ∧ sc4 < 2147483648 := by rw [esc4]; exact iI_rng _
  obtain ⟨sc5, esc5⟩ : ∃ y : Int, y = (xs (ii + 5 : Int).toNat).toInt := ⟨_, rfl⟩
  have hsc5 : -2147483648 ≤ sc5 ∧ sc5 < 2147483648 := by rw [esc5]; exact iI_rng _
  obtain ⟨LP, hokP⟩ := id hokp
  have hrg := okB_rng hok
  refine lv_aload_n hx hb dL_law_547 rfl (lv_at hl 1 rfl) ?_
  refine lv_aload_n hx hb dL_law_548 rfl (lv_at hl 0 rfl) ?_
  refine lv_iload hx hb dL_law_549 (lv_at hl 4 rfl) ?_
  refine lv_iconst (v := iI 1) hx hb dL_law_551 rfl ?_
  refine li_iadd hx hb dL_law_552 ?_
  refine li_sld hx hb hXs hbl hbA hS (z := (ii + 1)) (v := sc1) (by omega) (by omega) esc1 dL_law_553 ?_
  refine lv_aload_n hx hb dL_law_554 rfl (lv_at hl 0 rfl) ?_
  refine lv_iload hx hb dL_law_555 (lv_at hl 4 rfl) ?_
  refine lv_iconst (v := iI 2) hx hb dL_law_557 rfl ?_
  refine li_iadd hx hb dL_law_558 ?_
  refine li_sld hx hb hXs hbl hbA hS (z := (ii + 2)) (v := sc2) (by omega) (by omega) esc2 dL_law_559 ?_
  refine lv_aload_n hx hb dL_law_560 rfl (lv_at hl 0 rfl) ?_
  refine lv_iload hx hb dL_law_561 (lv_at hl 4 rfl) ?_
  refine lv_iconst (v := iI 3) hx hb dL_law_563 rfl ?_
  refine li_iadd hx hb dL_law_564 ?_
  refine li_sld hx hb hXs hbl hbA hS (z := (ii + 3)) (v := sc3) (by omega) (by omega) esc3 dL_law_565 ?_
  refine li_i2l hx hb (by omega) dL_law_566 ?_
  refine lv_bipush (v := iI 32) hx hb dL_law_567 (by decide +kernel) ?_
  refine li_lshl32 hx hb dL_law_569 ?_
  refine lv_aload_n hx hb dL_law_570 rfl (lv_at hl 0 rfl) ?_
  refine lv_iload hx hb dL_law_571 (lv_at hl 4 rfl) ?_
  refine lv_iconst (v := iI 4) hx hb dL_law_573 rfl ?_
  refine li_iadd hx hb dL_law_574 ?_
  refine li_sld hx hb hXs hbl hbA hS (z := (ii + 4)) (v := sc4) (by omega) (by omega) esc4 dL_law_575 ?_
  refine li_i2l hx hb (by omega) dL_law_576 ?_
  refine lv_ldc2 (v := lI 4294967295) hx hb hown (hT _ wd638) dL_law_577 ?_
  refine li_land32 hx hb dL_law_580 ?_
  refine li_lor32 hx hb (by omega) dL_law_581 ?_
  refine lv_aload_n hx hb dL_law_582 rfl (lv_at hl 3 rfl) ?_
  have hPc := hP.sub (ws' := [(x, .inr (3, [.ref tb, .ref pb, .ref nd, .ref sp])), (tb, .inr (0, [.ref tr, .int (iI tl)])), (tr, .inl (tA, tw, .inl (fun j => bI (tt j)))), (pb, .inr (0, [.ref pr, .int (iI pl)])), (pr, .inl (pA, pw, .inl (fun j => bI (ptt j)))), (ot, .inl (cO, 1, .inr (.inl (fun j => lI (gg j)))))]) [0, 1, 2, 3, 4, 20] rfl
  have hDc := hD.sub (ws' := [(x, .inr (3, [.ref tb, .ref pb, .ref nd, .ref sp])), (tb, .inr (0, [.ref tr, .int (iI tl)])), (tr, .inl (tA, tw, .inl (fun j => bI (tt j)))), (pb, .inr (0, [.ref pr, .int (iI pl)])), (pr, .inl (pA, pw, .inl (fun j => bI (ptt j)))), (ot, .inl (cO, 1, .inr (.inl (fun j => lI (gg j)))))]) [0, 1, 2, 3, 4, 20] (by decide) rfl
  have hKc := hK.sub (tys' := [(tA, .byte), (pA, .byte), (cO, .long)]) [0, 1, 10] rfl
  have hFc := va_free (wc := [(x, .inr (3, [.ref tb, .ref pb, .ref nd, .ref sp])), (tb, .inr (0, [.ref tr, .int (iI tl)])), (tr, .inl (tA, tw, .inl (fun j => bI (tt j)))), (pb, .inr (0, [.ref pr, .int (iI pl)])), (pr, .inl (pA, pw, .inl (fun j => bI (ptt j)))), (ot, .inl (cO, 1, .inr (.inl (fun j => lI (gg j)))))]) hD hS hA [0, 1, 2, 3, 4, 20] rfl
  refine mv_call (mv_runSW (As := [.ref x, .int (iI sc1), .int (iI sc2), .long (lI ((sc3 * 4294967296) + (sc4 % 4294967296))), .ref ot]) (rest := []) ⟨hx, hb, hml, hown, hT⟩ (c_L_add l hl9 dC dI H.size x tb nd sp pb pr pA pw ptt pl LP tr tA tw tt tl LT sc1 sc2 ((sc3 * 4294967296) + (sc4 % 4294967296)) ot cO gg (hokP) (hok) (by omega) (by omega) (by omega)) (vx_cwSW 5 hT (gS2 wd467 wd468 wd25 wd469) rfl rfl rfl (by decide +kernel) ⟨show 10 + 1 ≤ 2048 from by omega, show 8 + (7 + 11) + 360 ≤ 84000 from by omega⟩) ⟨fun a U g mk q => by obtain ⟨q0, q1, qP, qK, qD, qN⟩ := q; exact ⟨q0, q1, qP, va_K.moved (u := U) (U := U.calling g mk a) (Vm.Alike.refl U.vm) qK, qD, xsE_same rfl rfl qN⟩, fun U hU hW => ⟨rfl, by rw [hU], by rw [hU]; exact hPc, va_K.moved hW.alike hKc, hDc.weaken (fun _ _ _ _ => trivial), xsE_in hX hS hFc hU hW⟩⟩ rfl rfl hl.1 rfl (lv_room (Nat.le_of_ble_eq_true rfl)) dL_law_583 ⟨show kc + (phB pw + phB tw + 6) ≤ 601024 from by omega, show ks + (phB pw + phB tw + 6) ≤ 7293034 from by omega⟩) hS (fun q _ h => hFc q h) hFc (fun v3 u k1 n2 tS H1 locs ht hvm hw hB hz1 hk1 hS => ?_)
  obtain ⟨r4, cA5, w6, t7, z8, r9, cA10, w11, t12, z13, g14, e15⟩ := u
  obtain ⟨hP1, hK1, hD1⟩ := hB
  rw [ht] at hP1
  have hK1 := va_K.moved hvm.symm hK1
  try dsimp only at hw
  obtain ⟨hP, hD⟩ := va_join (wr := [(nd, .inr (2, [.ref nb, .ref nh, .ref nrw, .int (iI nmn), .int (iI nsx)])), (nrw, .inl (nR, nM, .inl (fun j => iI (nV j)))), (nh, .inr (1, [.int (iI nkd), .int (iI ncs), .int (iI ntg), .int (iI nop), .int (iI nsg), .int (iI nct)])), (nb, .inr (0, [.ref nr, .int (iI nz)])), (nr, .inl (nA, nw, .inl (fun j => bI (nt j)))), (sp, .inr (2, [.ref sb, .ref sh, .ref srw, .int (iI smn), .int (iI ssx)])), (srw, .inl (sR, sM, .inl (fun j => iI (sV j)))), (sh, .inr (1, [.int (iI skd), .int (iI scs), .int (iI stg), .int (iI sop), .int (iI ssg), .int (iI sct)])), (sb, .inr (0, [.ref sr, .int (iI szz)])), (sr, .inl (sA, sw, .inl (fun j => bI (stt j)))), (mm, .inr (4, [.int (iI mfl), .ref ta, .int (iI tl), .ref ka, .int (iI nmn), .ref da, .ref ya, .int (iI mpt), .int (iI mmd), .int (iI msx)])), (ta, .inl (cT, 4096, .inl (fun j => bI (mt j)))), (ka, .inl (cK, 4096, .inl (fun j => bI (kt j)))), (da, .inl (cD, 16400, .inl (fun j => iI (Vt j)))), (ya, .inl (cY, 16400, .inl (fun j => iI (Y j))))]) (w1 := [(x, .inr (3, [.ref tb, .ref pb, .ref nd, .ref sp])), (tb, .inr (0, [.ref r9, .int (iI z13)])), (r9, .inl (cA10, w11, .inl (fun j => bI (t12 j)))), (pb, .inr (0, [.ref r4, .int (iI z8)])), (r4, .inl (cA5, w6, .inl (fun j => bI (t7 j)))), (ot, .inl (cO, 1, .inr (.inl (fun j => lI (g14 j)))))]) hP hD [0, 1, 2, 3, 4, 20] [5, 6, 7, 8, 9, 10, 11, 12, 13, 14, 15, 16, 17, 18, 19] rfl rfl (by decide) (by decide) hk1 hFc hP1 hD1
  have hK := (hK.sub (tys' := [(nR, .int), (nA, .byte), (sR, .int), (sA, .byte), (cT, .byte), (cK, .byte), (cD, .int), (cY, .int)]) [2, 3, 4, 5, 6, 7, 8, 9] rfl).app hK1
  generalize H1 = H at hP hS ⊢
  have hP : va_P (dC, dI) vwCl [(nd, .inr (2, [.ref nb, .ref nh, .ref nrw, .int (iI nmn), .int (iI nsx)])), (nrw, .inl (nR, nM, .inl (fun j => iI (nV j)))), (nh, .inr (1, [.int (iI nkd), .int (iI ncs), .int (iI ntg), .int (iI nop), .int (iI nsg), .int (iI nct)])), (nb, .inr (0, [.ref nr, .int (iI nz)])), (nr, .inl (nA, nw, .inl (fun j => bI (nt j)))), (sp, .inr (2, [.ref sb, .ref sh, .ref srw, .int (iI smn), .int (iI ssx)])), (srw, .inl (sR, sM, .inl (fun j => iI (sV j)))), (sh, .inr (1, [.int (iI skd), .int (iI scs), .int (iI stg), .int (iI sop), .int (iI ssg), .int (iI sct)])), (sb, .inr (0, [.ref sr, .int (iI szz)])), (sr, .inl (sA, sw, .inl (fun j => bI (stt j)))), (mm, .inr (4, [.int (iI mfl), .ref ta, .int (iI tl), .ref ka, .int (iI nmn), .ref da, .ref ya, .int (iI mpt), .int (iI mmd), .int (iI msx)])), (ta, .inl (cT, 4096, .inl (fun j => bI (mt j)))), (ka, .inl (cK, 4096, .inl (fun j => bI (kt j)))), (da, .inl (cD, 16400, .inl (fun j => iI (Vt j)))), (ya, .inl (cY, 16400, .inl (fun j => iI (Y j)))), (x, .inr (3, [.ref tb, .ref pb, .ref nd, .ref sp])), (tb, .inr (0, [.ref r9, .int (iI z13)])), (r9, .inl (cA10, w11, .inl (fun j => bI (t12 j)))), (pb, .inr (0, [.ref r4, .int (iI z8)])), (r4, .inl (cA5, w6, .inl (fun j => bI (t7 j)))), (ot, .inl (cO, 1, .inr (.inl (fun j => lI (g14 j)))))] H := hP
  have hD : va_D A [(nd, .inr (2, [.ref nb, .ref nh, .ref nrw, .int (iI nmn), .int (iI nsx)])), (nrw, .inl (nR, nM, .inl (fun j => iI (nV j)))), (nh, .inr (1, [.int (iI nkd), .int (iI ncs), .int (iI ntg), .int (iI nop), .int (iI nsg), .int (iI nct)])), (nb, .inr (0, [.ref nr, .int (iI nz)])), (nr, .inl (nA, nw, .inl (fun j => bI (nt j)))), (sp, .inr (2, [.ref sb, .ref sh, .ref srw, .int (iI smn), .int (iI ssx)])), (srw, .inl (sR, sM, .inl (fun j => iI (sV j)))), (sh, .inr (1, [.int (iI skd), .int (iI scs), .int (iI stg), .int (iI sop), .int (iI ssg), .int (iI sct)])), (sb, .inr (0, [.ref sr, .int (iI szz)])), (sr, .inl (sA, sw, .inl (fun j => bI (stt j)))), (mm, .inr (4, [.int (iI mfl), .ref ta, .int (iI tl), .ref ka, .int (iI nmn), .ref da, .ref ya, .int (iI mpt), .int (iI mmd), .int (iI msx)])), (ta, .inl (cT, 4096, .inl (fun j => bI (mt j)))), (ka, .inl (cK, 4096, .inl (fun j => bI (kt j)))), (da, .inl (cD, 16400, .inl (fun j => iI (Vt j)))), (ya, .inl (cY, 16400, .inl (fun j => iI (Y j)))), (x, .inr (3, [.ref tb, .ref pb, .ref nd, .ref sp])), (tb, .inr (0, [.ref r9, .int (iI z13)])), (r9, .inl (cA10, w11, .inl (fun j => bI (t12 j)))), (pb, .inr (0, [.ref r4, .int (iI z8)])), (r4, .inl (cA5, w6, .inl (fun j => bI (t7 j)))), (ot, .inl (cO, 1, .inr (.inl (fun j => lI (g14 j)))))] := hD
  have hK : va_K (dC, dI) vwCl [(nR, .int), (nA, .byte), (sR, .int), (sA, .byte), (cT, .byte), (cK, .byte), (cD, .int), (cY, .int), (cA10, .byte), (cA5, .byte), (cO, .long)] s := hK
  obtain ⟨rfl, hOv3, hCv3⟩ := hw
  refine W.eq (g2 := F0 m 586 ls [.int (iI e15)]) rfl ?_
  refine lv_istore (lv' := [(5, .int (iI e15)), (0, .ref b), (1, .ref x), (2, .ref mm), (3, .ref ot), (4, .int (iI ii))]) hx hb dL_law_586 hl (by decide) rfl (fun ls hl => ?_)
  refine lv_aload_n hx hb dL_law_588 rfl (lv_at hl 3 rfl) ?_
  refine lv_aload_n hx hb dL_law_589 rfl (lv_at hl 1 rfl) ?_
  refine lv_iload hx hb dL_law_590 (lv_at hl 5 rfl) ?_
  refine lv_iconst (v := iI 1) hx hb dL_law_592 rfl ?_
  refine li_iadd hx hb dL_law_593 ?_
  refine li_sld hx hb hXs hbl hbA hS (z := (ii + 1)) (v := sc1) (by omega) (by omega) esc1 dL_law_594 ?_
  refine lv_aload_n hx hb dL_law_595 rfl (lv_at hl 1 rfl) ?_
  refine lv_iload hx hb dL_law_596 (lv_at hl 5 rfl) ?_
  refine lv_iconst (v := iI 2) hx hb dL_law_598 rfl ?_
  refine li_iadd hx hb dL_law_599 ?_
  refine li_sld hx hb hXs hbl hbA hS (z := (ii + 2)) (v := sc2) (by omega) (by omega) esc2 dL_law_600 ?_
  refine lv_aload_n hx hb dL_law_601 rfl (lv_at hl 1 rfl) ?_
  refine lv_iload hx hb dL_law_602 (lv_at hl 5 rfl) ?_
  refine lv_iconst (v := iI 3) hx hb dL_law_604 rfl ?_
  refine li_iadd hx hb dL_law_605 ?_
  refine li_sld hx hb hXs hbl hbA hS (z := (ii + 3)) (v := sc3) (by omega) (by omega) esc3 dL_law_606 ?_
  refine li_i2l hx hb (by omega) dL_law_607 ?_
  refine lv_bipush (v := iI 32) hx hb dL_law_608 (by decide +kernel) ?_
  refine li_lshl32 hx hb dL_law_610 ?_
  refine lv_aload_n hx hb dL_law_611 rfl (lv_at hl 1 rfl) ?_
  refine lv_iload hx hb dL_law_612 (lv_at hl 5 rfl) ?_
  refine lv_iconst (v := iI 4) hx hb dL_law_614 rfl ?_
  refine li_iadd hx hb dL_law_615 ?_
  refine li_sld hx hb hXs hbl hbA hS (z := (ii + 4)) (v := sc4) (by omega) (by omega) esc4 dL_law_616 ?_
  refine li_i2l hx hb (by omega) dL_law_617 ?_
  refine lv_ldc2 (v := lI 4294967295) hx hb hown (hT _ wd638) dL_law_618 ?_
  refine li_land32 hx hb dL_law_621 ?_
  refine li_lor32 hx hb (by omega) dL_law_622 ?_
  have hPc := hP.sub (ws' := [(mm, .inr (4, [.int (iI mfl), .ref ta, .int (iI tl), .ref ka, .int (iI nmn), .ref da, .ref ya, .int (iI mpt), .int (iI mmd), .int (iI msx)])), (ta, .inl (cT, 4096, .inl (fun j => bI (mt j))))]) [10, 11] rfl
  have hDc := hD.sub (ws' := [(mm, .inr (4, [.int (iI mfl), .ref ta, .int (iI tl), .ref ka, .int (iI nmn), .ref da, .ref ya, .int (iI mpt), .int (iI mmd), .int (iI msx)])), (ta, .inl (cT, 4096, .inl (fun j => bI (mt j))))]) [10, 11] (by decide) rfl
  have hKc := hK.sub (tys' := [(cT, .byte)]) [4] rfl
  have hFc := va_free (wc := [(mm, .inr (4, [.int (iI mfl), .ref ta, .int (iI tl), .ref ka, .int (iI nmn), .ref da, .ref ya, .int (iI mpt), .int (iI mmd), .int (iI msx)])), (ta, .inl (cT, 4096, .inl (fun j => bI (mt j))))]) hD hS hA [10, 11] rfl
  refine mv_call (mv_runV (As := [.int (iI sc1), .int (iI sc2), .long (lI ((sc3 * 4294967296) + (sc4 % 4294967296)))]) (rest := []) ⟨hx, hb, hml, hown, hT⟩ (c_M_add l dC dI H.size mm mfl ta tl ka nmn da ya mpt mmd msx cT mt LT sc1 sc2 ((sc3 * 4294967296) + (sc4 % 4294967296)) (hokm) (by omega) (by omega) (by omega)) (cwV 3 hT (gV wd617 wd618 wd619 wd30 wd620) rfl rfl rfl (by decide +kernel) ⟨show 3 + 1 ≤ 2048 from by omega, show 8 + (7 + 11) + 120 ≤ 84000 from by omega⟩) ⟨fun a U g mk q => by obtain ⟨q0, q1, qP, qK, qD⟩ := q; exact ⟨q0, q1, qP, va_K.moved (u := U) (U := U.calling g mk a) (Vm.Alike.refl U.vm) qK, qD⟩, va_recv hKc hPc (ci := 4) (q0 := 0) rfl rfl, fun U hU hW => ⟨rfl, by rw [hU], by rw [hU]; exact hPc, va_K.moved hW.alike hKc, hDc.weaken (fun _ _ _ _ => trivial)⟩⟩ rfl rfl hl.1 rfl (lv_room (Nat.le_of_ble_eq_true rfl)) dL_law_623 ⟨show kc + k1 + 0 ≤ 601024 from by omega, show ks + n2 + 0 ≤ 7293034 from by omega⟩) hS (fun q _ h => hFc q h) hFc (fun v18 u k16 n17 tS H1 locs ht hvm hw hB hz1 hk1 hS => ?_)
  obtain ⟨fl19, tz20, t21, q22⟩ := u
  obtain ⟨hP1, hK1, hD1⟩ := hB
  rw [ht] at hP1
  have hK1 := va_K.moved hvm.symm hK1
  try dsimp only at hw
  obtain ⟨hP, hD⟩ := va_join (wr := [(nd, .inr (2, [.ref nb, .ref nh, .ref nrw, .int (iI nmn), .int (iI nsx)])), (nrw, .inl (nR, nM, .inl (fun j => iI (nV j)))), (nh, .inr (1, [.int (iI nkd), .int (iI ncs), .int (iI ntg), .int (iI nop), .int (iI nsg), .int (iI nct)])), (nb, .inr (0, [.ref nr, .int (iI nz)])), (nr, .inl (nA, nw, .inl (fun j => bI (nt j)))), (sp, .inr (2, [.ref sb, .ref sh, .ref srw, .int (iI smn), .int (iI ssx)])), (srw, .inl (sR, sM, .inl (fun j => iI (sV j)))), (sh, .inr (1, [.int (iI skd), .int (iI scs), .int (iI stg), .int (iI sop), .int (iI ssg), .int (iI sct)])), (sb, .inr (0, [.ref sr, .int (iI szz)])), (sr, .inl (sA, sw, .inl (fun j => bI (stt j)))), (ka, .inl (cK, 4096, .inl (fun j => bI (kt j)))), (da, .inl (cD, 16400, .inl (fun j => iI (Vt j)))), (ya, .inl (cY, 16400, .inl (fun j => iI (Y j)))), (x, .inr (3, [.ref tb, .ref pb, .ref nd, .ref sp])), (tb, .inr (0, [.ref r9, .int (iI z13)])), (r9, .inl (cA10, w11, .inl (fun j => bI (t12 j)))), (pb, .inr (0, [.ref r4, .int (iI z8)])), (r4, .inl (cA5, w6, .inl (fun j => bI (t7 j)))), (ot, .inl (cO, 1, .inr (.inl (fun j => lI (g14 j)))))]) (w1 := [(mm, .inr (4, [.int (iI fl19), .ref ta, .int (iI tz20), .ref ka, .int (iI nmn), .ref da, .ref ya, .int (iI mpt), .int (iI mmd), .int (iI msx)])), (ta, .inl (cT, 4096, .inl (fun j => bI (t21 j))))]) hP hD [10, 11] [0, 1, 2, 3, 4, 5, 6, 7, 8, 9, 12, 13, 14, 15, 16, 17, 18, 19, 20] rfl rfl (by decide) (by decide) hk1 hFc hP1 hD1
  have hK := (hK.sub (tys' := [(nR, .int), (nA, .byte), (sR, .int), (sA, .byte), (cK, .byte), (cD, .int), (cY, .int), (cA10, .byte), (cA5, .byte), (cO, .long)]) [0, 1, 2, 3, 5, 6, 7, 8, 9, 10] rfl).app hK1
  generalize H1 = H at hP hS ⊢
  have hP : va_P (dC, dI) vwCl [(nd, .inr (2, [.ref nb, .ref nh, .ref nrw, .int (iI nmn), .int (iI nsx)])), (nrw, .inl (nR, nM, .inl (fun j => iI (nV j)))), (nh, .inr (1, [.int (iI nkd), .int (iI ncs), .int (iI ntg), .int (iI nop), .int (iI nsg), .int (iI nct)])), (nb, .inr (0, [.ref nr, .int (iI nz)])), (nr, .inl (nA, nw, .inl (fun j => bI (nt j)))), (sp, .inr (2, [.ref sb, .ref sh, .ref srw, .int (iI smn), .int (iI ssx)])), (srw, .inl (sR, sM, .inl (fun j => iI (sV j)))), (sh, .inr (1, [.int (iI skd), .int (iI scs), .int (iI stg), .int (iI sop), .int (iI ssg), .int (iI sct)])), (sb, .inr (0, [.ref sr, .int (iI szz)])), (sr, .inl (sA, sw, .inl (fun j => bI (stt j)))), (ka, .inl (cK, 4096, .inl (fun j => bI (kt j)))), (da, .inl (cD, 16400, .inl (fun j => iI (Vt j)))), (ya, .inl (cY, 16400, .inl (fun j => iI (Y j)))), (x, .inr (3, [.ref tb, .ref pb, .ref nd, .ref sp])), (tb, .inr (0, [.ref r9, .int (iI z13)])), (r9, .inl (cA10, w11, .inl (fun j => bI (t12 j)))), (pb, .inr (0, [.ref r4, .int (iI z8)])), (r4, .inl (cA5, w6, .inl (fun j => bI (t7 j)))), (ot, .inl (cO, 1, .inr (.inl (fun j => lI (g14 j))))), (mm, .inr (4, [.int (iI fl19), .ref ta, .int (iI tz20), .ref ka, .int (iI nmn), .ref da, .ref ya, .int (iI mpt), .int (iI mmd), .int (iI msx)])), (ta, .inl (cT, 4096, .inl (fun j => bI (t21 j))))] H := hP
  have hD : va_D A [(nd, .inr (2, [.ref nb, .ref nh, .ref nrw, .int (iI nmn), .int (iI nsx)])), (nrw, .inl (nR, nM, .inl (fun j => iI (nV j)))), (nh, .inr (1, [.int (iI nkd), .int (iI ncs), .int (iI ntg), .int (iI nop), .int (iI nsg), .int (iI nct)])), (nb, .inr (0, [.ref nr, .int (iI nz)])), (nr, .inl (nA, nw, .inl (fun j => bI (nt j)))), (sp, .inr (2, [.ref sb, .ref sh, .ref srw, .int (iI smn), .int (iI ssx)])), (srw, .inl (sR, sM, .inl (fun j => iI (sV j)))), (sh, .inr (1, [.int (iI skd), .int (iI scs), .int (iI stg), .int (iI sop), .int (iI ssg), .int (iI sct)])), (sb, .inr (0, [.ref sr, .int (iI szz)])), (sr, .inl (sA, sw, .inl (fun j => bI (stt j)))), (ka, .inl (cK, 4096, .inl (fun j => bI (kt j)))), (da, .inl (cD, 16400, .inl (fun j => iI (Vt j)))), (ya, .inl (cY, 16400, .inl (fun j => iI (Y j)))), (x, .inr (3, [.ref tb, .ref pb, .ref nd, .ref sp])), (tb, .inr (0, [.ref r9, .int (iI z13)])), (r9, .inl (cA10, w11, .inl (fun j => bI (t12 j)))), (pb, .inr (0, [.ref r4, .int (iI z8)])), (r4, .inl (cA5, w6, .inl (fun j => bI (t7 j)))), (ot, .inl (cO, 1, .inr (.inl (fun j => lI (g14 j))))), (mm, .inr (4, [.int (iI fl19), .ref ta, .int (iI tz20), .ref ka, .int (iI nmn), .ref da, .ref ya, .int (iI mpt), .int (iI mmd), .int (iI msx)])), (ta, .inl (cT, 4096, .inl (fun j => bI (t21 j))))] := hD
  have hK : va_K (dC, dI) vwCl [(nR, .int), (nA, .byte), (sR, .int), (sA, .byte), (cK, .byte), (cD, .int), (cY, .int), (cA10, .byte), (cA5, .byte), (cO, .long), (cT, .byte)] s := hK
  obtain ⟨rfl, hOv18, rfl, rfl⟩ := hw
  refine W.eq (g2 := F0 m 626 ls [.int (iI q22)]) rfl ?_
  rcases hOv3 with ⟨e0, ⟨b1, b2, b3, b4, b5, b6⟩, hg⟩ | ⟨e0, b1, b2, b3, b4⟩ | ⟨e0, b1, b2, b3, b4, b5, b6, b7⟩
  · skip
    rcases hOv18 with ⟨f0, c1, c2, c3, c4, hq, c5⟩ | ⟨f0, c1, c2, c3⟩ | ⟨f0, c1, c2, c3, c4, c5, c6⟩
    · skip
      have hr7 := okB_rng b2
      have hr6 := okB_rng c5
      have ez : tz20 = z13 := by omega
      rw [ez] at hP hD
      refine lv_istore (lv' := [(6, .int (iI q22)), (5, .int (iI e15)), (0, .ref b), (1, .ref x), (2, .ref mm), (3, .ref ot), (4, .int (iI ii))]) hx hb dL_law_626 hl (by decide) rfl (fun ls hl => ?_)
      refine lv_aload_n hx hb dL_law_628 rfl (lv_at hl 4 rfl) ?_
      have hPc := hP.sub (ws' := [(mm, .inr (4, [.int (iI fl19), .ref ta, .int (iI z13), .ref ka, .int (iI nmn), .ref da, .ref ya, .int (iI mpt), .int (iI mmd), .int (iI msx)]))]) [19] rfl
      have hDc := hD.sub (ws' := [(mm, .inr (4, [.int (iI fl19), .ref ta, .int (iI z13), .ref ka, .int (iI nmn), .ref da, .ref ya, .int (iI mpt), .int (iI mmd), .int (iI msx)]))]) [19] (by decide) rfl
      have hKc := hK.sub (tys' := []) [] rfl
      have hFc := va_free (wc := [(mm, .inr (4, [.int (iI fl19), .ref ta, .int (iI z13), .ref ka, .int (iI nmn), .ref da, .ref ya, .int (iI mpt), .int (iI mmd), .int (iI msx)]))]) hD hS hA [19] rfl
      refine mv_call (mv_runV (As := []) (rest := []) ⟨hx, hb, hml, hown, hT⟩ (c_M_thrown l dC dI H.size mm fl19 ta z13 ka nmn da ya mpt mmd msx ) (cwV 0 hT (gV wd548 wd549 wd550 wd30 wd551) rfl rfl rfl (by decide +kernel) ⟨show 0 + 1 ≤ 2048 from by omega, show 8 + (1 + 11) + 0 ≤ 84000 from by omega⟩) ⟨fun a U g mk q => by obtain ⟨q0, q1, qP, qK, qD⟩ := q; exact ⟨q0, q1, qP, va_K.moved (u := U) (U := U.calling g mk a) (Vm.Alike.refl U.vm) qK, qD⟩, va_recv hKc hPc (ci := 4) (q0 := 0) rfl rfl, fun U hU hW => ⟨rfl, by rw [hU], by rw [hU]; exact hPc, va_K.moved hW.alike hKc, hDc.weaken (fun _ _ _ _ => trivial)⟩⟩ rfl rfl hl.1 rfl (lv_room (Nat.le_of_ble_eq_true rfl)) dL_law_629 ⟨show kc + k1 + 0 + 0 ≤ 601024 from by omega, show ks + n2 + 0 + 0 ≤ 7293034 from by omega⟩) hS (fun q _ h => hFc q h) hFc (fun v25 u k23 n24 tS H1 locs ht hvm hw hB hz1 hk1 hS => ?_)
      obtain ⟨hP1, hK1, hD1⟩ := hB
      rw [ht] at hP1
      have hK1 := va_K.moved hvm.symm hK1
      try dsimp only at hw
      obtain ⟨hP, hD⟩ := va_join (wr := [(nd, .inr (2, [.ref nb, .ref nh, .ref nrw, .int (iI nmn), .int (iI nsx)])), (nrw, .inl (nR, nM, .inl (fun j => iI (nV j)))), (nh, .inr (1, [.int (iI nkd), .int (iI ncs), .int (iI ntg), .int (iI nop), .int (iI nsg), .int (iI nct)])), (nb, .inr (0, [.ref nr, .int (iI nz)])), (nr, .inl (nA, nw, .inl (fun j => bI (nt j)))), (sp, .inr (2, [.ref sb, .ref sh, .ref srw, .int (iI smn), .int (iI ssx)])), (srw, .inl (sR, sM, .inl (fun j => iI (sV j)))), (sh, .inr (1, [.int (iI skd), .int (iI scs), .int (iI stg), .int (iI sop), .int (iI ssg), .int (iI sct)])), (sb, .inr (0, [.ref sr, .int (iI szz)])), (sr, .inl (sA, sw, .inl (fun j => bI (stt j)))), (ka, .inl (cK, 4096, .inl (fun j => bI (kt j)))), (da, .inl (cD, 16400, .inl (fun j => iI (Vt j)))), (ya, .inl (cY, 16400, .inl (fun j => iI (Y j)))), (x, .inr (3, [.ref tb, .ref pb, .ref nd, .ref sp])), (tb, .inr (0, [.ref r9, .int (iI z13)])), (r9, .inl (cA10, w11, .inl (fun j => bI (t12 j)))), (pb, .inr (0, [.ref r4, .int (iI z8)])), (r4, .inl (cA5, w6, .inl (fun j => bI (t7 j)))), (ot, .inl (cO, 1, .inr (.inl (fun j => lI (g14 j))))), (ta, .inl (cT, 4096, .inl (fun j => bI (t21 j))))]) (w1 := [(mm, .inr (4, [.int (iI fl19), .ref ta, .int (iI z13), .ref ka, .int (iI nmn), .ref da, .ref ya, .int (iI mpt), .int (iI mmd), .int (iI msx)]))]) hP hD [19] [0, 1, 2, 3, 4, 5, 6, 7, 8, 9, 10, 11, 12, 13, 14, 15, 16, 17, 18, 20] rfl rfl (by decide) (by decide) hk1 hFc hP1 hD1
      have hK := (hK.sub (tys' := [(nR, .int), (nA, .byte), (sR, .int), (sA, .byte), (cK, .byte), (cD, .int), (cY, .int), (cA10, .byte), (cA5, .byte), (cO, .long), (cT, .byte)]) [0, 1, 2, 3, 4, 5, 6, 7, 8, 9, 10] rfl).app hK1
      generalize H1 = H at hP hS ⊢
      have hP : va_P (dC, dI) vwCl [(nd, .inr (2, [.ref nb, .ref nh, .ref nrw, .int (iI nmn), .int (iI nsx)])), (nrw, .inl (nR, nM, .inl (fun j => iI (nV j)))), (nh, .inr (1, [.int (iI nkd), .int (iI ncs), .int (iI ntg), .int (iI nop), .int (iI nsg), .int (iI nct)])), (nb, .inr (0, [.ref nr, .int (iI nz)])), (nr, .inl (nA, nw, .inl (fun j => bI (nt j)))), (sp, .inr (2, [.ref sb, .ref sh, .ref srw, .int (iI smn), .int (iI ssx)])), (srw, .inl (sR, sM, .inl (fun j => iI (sV j)))), (sh, .inr (1, [.int (iI skd), .int (iI scs), .int (iI stg), .int (iI sop), .int (iI ssg), .int (iI sct)])), (sb, .inr (0, [.ref sr, .int (iI szz)])), (sr, .inl (sA, sw, .inl (fun j => bI (stt j)))), (ka, .inl (cK, 4096, .inl (fun j => bI (kt j)))), (da, .inl (cD, 16400, .inl (fun j => iI (Vt j)))), (ya, .inl (cY, 16400, .inl (fun j => iI (Y j)))), (x, .inr (3, [.ref tb, .ref pb, .ref nd, .ref sp])), (tb, .inr (0, [.ref r9, .int (iI z13)])), (r9, .inl (cA10, w11, .inl (fun j => bI (t12 j)))), (pb, .inr (0, [.ref r4, .int (iI z8)])), (r4, .inl (cA5, w6, .inl (fun j => bI (t7 j)))), (ot, .inl (cO, 1, .inr (.inl (fun j => lI (g14 j))))), (ta, .inl (cT, 4096, .inl (fun j => bI (t21 j)))), (mm, .inr (4, [.int (iI fl19), .ref ta, .int (iI z13), .ref ka, .int (iI nmn), .ref da, .ref ya, .int (iI mpt), .int (iI mmd), .int (iI msx)]))] H := hP
      have hD : va_D A [(nd, .inr (2, [.ref nb, .ref nh, .ref nrw, .int (iI nmn), .int (iI nsx)])), (nrw, .inl (nR, nM, .inl (fun j => iI (nV j)))), (nh, .inr (1, [.int (iI nkd), .int (iI ncs), .int (iI ntg), .int (iI nop), .int (iI nsg), .int (iI nct)])), (nb, .inr (0, [.ref nr, .int (iI nz)])), (nr, .inl (nA, nw, .inl (fun j => bI (nt j)))), (sp, .inr (2, [.ref sb, .ref sh, .ref srw, .int (iI smn), .int (iI ssx)])), (srw, .inl (sR, sM, .inl (fun j => iI (sV j)))), (sh, .inr (1, [.int (iI skd), .int (iI scs), .int (iI stg), .int (iI sop), .int (iI ssg), .int (iI sct)])), (sb, .inr (0, [.ref sr, .int (iI szz)])), (sr, .inl (sA, sw, .inl (fun j => bI (stt j)))), (ka, .inl (cK, 4096, .inl (fun j => bI (kt j)))), (da, .inl (cD, 16400, .inl (fun j => iI (Vt j)))), (ya, .inl (cY, 16400, .inl (fun j => iI (Y j)))), (x, .inr (3, [.ref tb, .ref pb, .ref nd, .ref sp])), (tb, .inr (0, [.ref r9, .int (iI z13)])), (r9, .inl (cA10, w11, .inl (fun j => bI (t12 j)))), (pb, .inr (0, [.ref r4, .int (iI z8)])), (r4, .inl (cA5, w6, .inl (fun j => bI (t7 j)))), (ot, .inl (cO, 1, .inr (.inl (fun j => lI (g14 j))))), (ta, .inl (cT, 4096, .inl (fun j => bI (t21 j)))), (mm, .inr (4, [.int (iI fl19), .ref ta, .int (iI z13), .ref ka, .int (iI nmn), .ref da, .ref ya, .int (iI mpt), .int (iI mmd), .int (iI msx)]))] := hD
      have hK : va_K (dC, dI) vwCl [(nR, .int), (nA, .byte), (sR, .int), (sA, .byte), (cK, .byte), (cD, .int), (cY, .int), (cA10, .byte), (cA5, .byte), (cO, .long), (cT, .byte)] s := hK
      obtain ⟨rfl, rfl, rfl⟩ := hw
      refine W.eq (g2 := F0 m 632 ls [.int (iI fl19)]) rfl ?_
      refine lv_iload hx hb dL_law_632 (lv_at hl 1 rfl) ?_
      refine li_icmp_eq (tgt := 639) hx hb (by omega) (by omega) dL_law_634 (by decide) (fun c26 => ?_) (fun c26 => absurd c26 (by omega))
      refine lv_iload hx hb dL_law_639 (lv_at hl 1 rfl) ?_
      refine li_if_ne (tgt := 656) hx hb (by omega) dL_law_641 (by decide) (fun c27 => absurd c27 (by omega)) (fun c27 => ?_)
      refine lv_aload_n hx hb dL_law_644 rfl (lv_at hl 5 rfl) ?_
      refine lv_iconst (v := iI 0) hx hb dL_law_645 rfl ?_
      refine li_lald hx hb hK hP 18 9 rfl rfl (z := 0) (by omega) (by omega) dL_law_646 ?_
      refine lv_iload hx hb dL_law_647 (lv_at hl 0 rfl) ?_
      refine li_i2l hx hb (by omega) dL_law_649 ?_
      refine li_lsame (tgt := 656) hx hb (by first | exact hg.trans hq.symm | (show g14 0 = q22; omega)) dL_law_650 dL_law_651 (by decide) ?_
      refine lv_goto (tgt := 838) hx hb dL_law_656 (by decide) ?_
      obtain ⟨z28, ez28⟩ : ∃ y : Int, y = ii + 6 := ⟨_, rfl⟩
      refine lv_iinc (v := iI z28) (lv' := [(4, .int (iI z28)), (6, .int (iI q22)), (5, .int (iI e15)), (0, .ref b), (1, .ref x), (2, .ref mm), (3, .ref ot)]) hx hb dL_law_838 hl (k := 6) rfl (by rw [ez28]; exact iI_add _ _) (by decide) rfl (fun ls hl => ?_)
      refine lv_goto (tgt := 23) hx hb dL_law_841 (by decide) ?_
      exact ih z28 x tb pb nd sp r9 cA10 w11 t12 z13 r4 cA5 w6 t7 z8 nb nh nrw nmn nsx nR nM nV nkd ncs ntg nop nsg nct nr nA nw nt nz sb sh srw smn ssx sR sM sV skd scs stg sop ssg sct sr sA sw stt szz mm fl19 ta ka da ya mpt mmd msx cT t21 cK kt cD Vt cY Y ot cO g14 (LT ++ (adL sc1 sc2 ((sc3 * 4294967296) + (sc4 % 4294967296)))) LN LS _ _ _ _ _ (by omega) (by omega) (b2) (b1) (hoN) (hokN) (hoM) (hokS) (by rw [← ez]; exact c5) (hE) (hkb) (hgN) (by omega) (by omega) (hK.sub [7, 8, 0, 1, 2, 3, 10, 4, 5, 6, 9] rfl) (hP.sub [13, 14, 15, 16, 17, 0, 1, 2, 3, 4, 5, 6, 7, 8, 9, 20, 19, 10, 11, 12, 18] rfl) (hD.sub [13, 14, 15, 16, 17, 0, 1, 2, 3, 4, 5, 6, 7, 8, 9, 20, 19, 10, 11, 12, 18] (by decide) rfl) hS (lv_sub hl [3, 4, 5, 6, 0] rfl)
    · skip
      have hr7 := okB_rng b2
      exfalso
      omega
    · skip
      have hr7 := okB_rng b2
      exfalso
      omega
  · skip
    rcases hOv18 with ⟨f0, c1, c2, c3, c4, hq, c5⟩ | ⟨f0, c1, c2, c3⟩ | ⟨f0, c1, c2, c3, c4, c5, c6⟩
    · skip
      have hr6 := okB_rng c5
      exfalso
      omega
    · skip
      have ez : tz20 = z13 := by omega
      rw [ez] at hP hD
      refine lv_istore (lv' := [(6, .int (iI q22)), (5, .int (iI e15)), (0, .ref b), (1, .ref x), (2, .ref mm), (3, .ref ot), (4, .int (iI ii))]) hx hb dL_law_626 hl (by decide) rfl (fun ls hl => ?_)
      refine lv_aload_n hx hb dL_law_628 rfl (lv_at hl 4 rfl) ?_
      have hPc := hP.sub (ws' := [(mm, .inr (4, [.int (iI fl19), .ref ta, .int (iI z13), .ref ka, .int (iI nmn), .ref da, .ref ya, .int (iI mpt), .int (iI mmd), .int (iI msx)]))]) [19] rfl
      have hDc := hD.sub (ws' := [(mm, .inr (4, [.int (iI fl19), .ref ta, .int (iI z13), .ref ka, .int (iI nmn), .ref da, .ref ya, .int (iI mpt), .int (iI mmd), .int (iI msx)]))]) [19] (by decide) rfl
      have hKc := hK.sub (tys' := []) [] rfl
      have hFc := va_free (wc := [(mm, .inr (4, [.int (iI fl19), .ref ta, .int (iI z13), .ref ka, .int (iI nmn), .ref da, .ref ya, .int (iI mpt), .int (iI mmd), .int (iI msx)]))]) hD hS hA [19] rfl
      refine mv_call (mv_runV (As := []) (rest := []) ⟨hx, hb, hml, hown, hT⟩ (c_M_thrown l dC dI H.size mm fl19 ta z13 ka nmn da ya mpt mmd msx ) (cwV 0 hT (gV wd548 wd549 wd550 wd30 wd551) rfl rfl rfl (by decide +kernel) ⟨show 0 + 1 ≤ 2048 from by omega, show 8 + (1 + 11) + 0 ≤ 84000 from by omega⟩) ⟨fun a U g mk q => by obtain ⟨q0, q1, qP, qK, qD⟩ := q; exact ⟨q0, q1, qP, va_K.moved (u := U) (U := U.calling g mk a) (Vm.Alike.refl U.vm) qK, qD⟩, va_recv hKc hPc (ci := 4) (q0 := 0) rfl rfl, fun U hU hW => ⟨rfl, by rw [hU], by rw [hU]; exact hPc, va_K.moved hW.alike hKc, hDc.weaken (fun _ _ _ _ => trivial)⟩⟩ rfl rfl hl.1 rfl (lv_room (Nat.le_of_ble_eq_true rfl)) dL_law_629 ⟨show kc + k1 + 0 + 0 ≤ 601024 from by omega, show ks + n2 + 0 + 0 ≤ 7293034 from by omega⟩) hS (fun q _ h => hFc q h) hFc (fun v31 u k29 n30 tS H1 locs ht hvm hw hB hz1 hk1 hS => ?_)
      obtain ⟨hP1, hK1, hD1⟩ := hB
      rw [ht] at hP1
      have hK1 := va_K.moved hvm.symm hK1
      try dsimp only at hw
      obtain ⟨hP, hD⟩ := va_join (wr := [(nd, .inr (2, [.ref nb, .ref nh, .ref nrw, .int (iI nmn), .int (iI nsx)])), (nrw, .inl (nR, nM, .inl (fun j => iI (nV j)))), (nh, .inr (1, [.int (iI nkd), .int (iI ncs), .int (iI ntg), .int (iI nop), .int (iI nsg), .int (iI nct)])), (nb, .inr (0, [.ref nr, .int (iI nz)])), (nr, .inl (nA, nw, .inl (fun j => bI (nt j)))), (sp, .inr (2, [.ref sb, .ref sh, .ref srw, .int (iI smn), .int (iI ssx)])), (srw, .inl (sR, sM, .inl (fun j => iI (sV j)))), (sh, .inr (1, [.int (iI skd), .int (iI scs), .int (iI stg), .int (iI sop), .int (iI ssg), .int (iI sct)])), (sb, .inr (0, [.ref sr, .int (iI szz)])), (sr, .inl (sA, sw, .inl (fun j => bI (stt j)))), (ka, .inl (cK, 4096, .inl (fun j => bI (kt j)))), (da, .inl (cD, 16400, .inl (fun j => iI (Vt j)))), (ya, .inl (cY, 16400, .inl (fun j => iI (Y j)))), (x, .inr (3, [.ref tb, .ref pb, .ref nd, .ref sp])), (tb, .inr (0, [.ref r9, .int (iI z13)])), (r9, .inl (cA10, w11, .inl (fun j => bI (t12 j)))), (pb, .inr (0, [.ref r4, .int (iI z8)])), (r4, .inl (cA5, w6, .inl (fun j => bI (t7 j)))), (ot, .inl (cO, 1, .inr (.inl (fun j => lI (g14 j))))), (ta, .inl (cT, 4096, .inl (fun j => bI (t21 j))))]) (w1 := [(mm, .inr (4, [.int (iI fl19), .ref ta, .int (iI z13), .ref ka, .int (iI nmn), .ref da, .ref ya, .int (iI mpt), .int (iI mmd), .int (iI msx)]))]) hP hD [19] [0, 1, 2, 3, 4, 5, 6, 7, 8, 9, 10, 11, 12, 13, 14, 15, 16, 17, 18, 20] rfl rfl (by decide) (by decide) hk1 hFc hP1 hD1
      have hK := (hK.sub (tys' := [(nR, .int), (nA, .byte), (sR, .int), (sA, .byte), (cK, .byte), (cD, .int), (cY, .int), (cA10, .byte), (cA5, .byte), (cO, .long), (cT, .byte)]) [0, 1, 2, 3, 4, 5, 6, 7, 8, 9, 10] rfl).app hK1
      generalize H1 = H at hP hS ⊢
      have hP : va_P (dC, dI) vwCl [(nd, .inr (2, [.ref nb, .ref nh, .ref nrw, .int (iI nmn), .int (iI nsx)])), (nrw, .inl (nR, nM, .inl (fun j => iI (nV j)))), (nh, .inr (1, [.int (iI nkd), .int (iI ncs), .int (iI ntg), .int (iI nop), .int (iI nsg), .int (iI nct)])), (nb, .inr (0, [.ref nr, .int (iI nz)])), (nr, .inl (nA, nw, .inl (fun j => bI (nt j)))), (sp, .inr (2, [.ref sb, .ref sh, .ref srw, .int (iI smn), .int (iI ssx)])), (srw, .inl (sR, sM, .inl (fun j => iI (sV j)))), (sh, .inr (1, [.int (iI skd), .int (iI scs), .int (iI stg), .int (iI sop), .int (iI ssg), .int (iI sct)])), (sb, .inr (0, [.ref sr, .int (iI szz)])), (sr, .inl (sA, sw, .inl (fun j => bI (stt j)))), (ka, .inl (cK, 4096, .inl (fun j => bI (kt j)))), (da, .inl (cD, 16400, .inl (fun j => iI (Vt j)))), (ya, .inl (cY, 16400, .inl (fun j => iI (Y j)))), (x, .inr (3, [.ref tb, .ref pb, .ref nd, .ref sp])), (tb, .inr (0, [.ref r9, .int (iI z13)])), (r9, .inl (cA10, w11, .inl (fun j => bI (t12 j)))), (pb, .inr (0, [.ref r4, .int (iI z8)])), (r4, .inl (cA5, w6, .inl (fun j => bI (t7 j)))), (ot, .inl (cO, 1, .inr (.inl (fun j => lI (g14 j))))), (ta, .inl (cT, 4096, .inl (fun j => bI (t21 j)))), (mm, .inr (4, [.int (iI fl19), .ref ta, .int (iI z13), .ref ka, .int (iI nmn), .ref da, .ref ya, .int (iI mpt), .int (iI mmd), .int (iI msx)]))] H := hP
      have hD : va_D A [(nd, .inr (2, [.ref nb, .ref nh, .ref nrw, .int (iI nmn), .int (iI nsx)])), (nrw, .inl (nR, nM, .inl (fun j => iI (nV j)))), (nh, .inr (1, [.int (iI nkd), .int (iI ncs), .int (iI ntg), .int (iI nop), .int (iI nsg), .int (iI nct)])), (nb, .inr (0, [.ref nr, .int (iI nz)])), (nr, .inl (nA, nw, .inl (fun j => bI (nt j)))), (sp, .inr (2, [.ref sb, .ref sh, .ref srw, .int (iI smn), .int (iI ssx)])), (srw, .inl (sR, sM, .inl (fun j => iI (sV j)))), (sh, .inr (1, [.int (iI skd), .int (iI scs), .int (iI stg), .int (iI sop), .int (iI ssg), .int (iI sct)])), (sb, .inr (0, [.ref sr, .int (iI szz)])), (sr, .inl (sA, sw, .inl (fun j => bI (stt j)))), (ka, .inl (cK, 4096, .inl (fun j => bI (kt j)))), (da, .inl (cD, 16400, .inl (fun j => iI (Vt j)))), (ya, .inl (cY, 16400, .inl (fun j => iI (Y j)))), (x, .inr (3, [.ref tb, .ref pb, .ref nd, .ref sp])), (tb, .inr (0, [.ref r9, .int (iI z13)])), (r9, .inl (cA10, w11, .inl (fun j => bI (t12 j)))), (pb, .inr (0, [.ref r4, .int (iI z8)])), (r4, .inl (cA5, w6, .inl (fun j => bI (t7 j)))), (ot, .inl (cO, 1, .inr (.inl (fun j => lI (g14 j))))), (ta, .inl (cT, 4096, .inl (fun j => bI (t21 j)))), (mm, .inr (4, [.int (iI fl19), .ref ta, .int (iI z13), .ref ka, .int (iI nmn), .ref da, .ref ya, .int (iI mpt), .int (iI mmd), .int (iI msx)]))] := hD
      have hK : va_K (dC, dI) vwCl [(nR, .int), (nA, .byte), (sR, .int), (sA, .byte), (cK, .byte), (cD, .int), (cY, .int), (cA10, .byte), (cA5, .byte), (cO, .long), (cT, .byte)] s := hK
      obtain ⟨rfl, rfl, rfl⟩ := hw
      refine W.eq (g2 := F0 m 632 ls [.int (iI fl19)]) rfl ?_
      refine lv_iload hx hb dL_law_632 (lv_at hl 1 rfl) ?_
      refine li_icmp_eq (tgt := 639) hx hb (by omega) (by omega) dL_law_634 (by decide) (fun c32 => ?_) (fun c32 => absurd c32 (by omega))
      refine lv_iload hx hb dL_law_639 (lv_at hl 1 rfl) ?_
      refine li_if_ne (tgt := 656) hx hb (by omega) dL_law_641 (by decide) (fun c33 => ?_) (fun c33 => absurd c33 (by omega))
      refine lv_goto (tgt := 838) hx hb dL_law_656 (by decide) ?_
      obtain ⟨z34, ez34⟩ : ∃ y : Int, y = ii + 6 := ⟨_, rfl⟩
      refine lv_iinc (v := iI z34) (lv' := [(4, .int (iI z34)), (6, .int (iI q22)), (5, .int (iI e15)), (0, .ref b), (1, .ref x), (2, .ref mm), (3, .ref ot)]) hx hb dL_law_838 hl (k := 6) rfl (by rw [ez34]; exact iI_add _ _) (by decide) rfl (fun ls hl => ?_)
      refine lv_goto (tgt := 23) hx hb dL_law_841 (by decide) ?_
      exact ih z34 x tb pb nd sp r9 cA10 w11 t12 z13 r4 cA5 w6 t7 z8 nb nh nrw nmn nsx nR nM nV nkd ncs ntg nop nsg nct nr nA nw nt nz sb sh srw smn ssx sR sM sV skd scs stg sop ssg sct sr sA sw stt szz mm fl19 ta ka da ya mpt mmd msx cT t21 cK kt cD Vt cY Y ot cO g14 LT LN LS _ _ _ _ _ (by omega) (by omega) (b2) (b1) (hoN) (hokN) (hoM) (hokS) (by rw [← ez]; exact c3) (hE) (hkb) (hgN) (by omega) (by omega) (hK.sub [7, 8, 0, 1, 2, 3, 10, 4, 5, 6, 9] rfl) (hP.sub [13, 14, 15, 16, 17, 0, 1, 2, 3, 4, 5, 6, 7, 8, 9, 20, 19, 10, 11, 12, 18] rfl) (hD.sub [13, 14, 15, 16, 17, 0, 1, 2, 3, 4, 5, 6, 7, 8, 9, 20, 19, 10, 11, 12, 18] (by decide) rfl) hS (lv_sub hl [3, 4, 5, 6, 0] rfl)
    · skip
      exfalso
      omega
  · skip
    rcases hOv18 with ⟨f0, c1, c2, c3, c4, hq, c5⟩ | ⟨f0, c1, c2, c3⟩ | ⟨f0, c1, c2, c3, c4, c5, c6⟩
    · skip
      have hr6 := okB_rng c5
      exfalso
      omega
    · skip
      exfalso
      omega
    · skip
      have ez : tz20 = z13 := by omega
      rw [ez] at hP hD
      refine lv_istore (lv' := [(6, .int (iI q22)), (5, .int (iI e15)), (0, .ref b), (1, .ref x), (2, .ref mm), (3, .ref ot), (4, .int (iI ii))]) hx hb dL_law_626 hl (by decide) rfl (fun ls hl => ?_)
      refine lv_aload_n hx hb dL_law_628 rfl (lv_at hl 4 rfl) ?_
      have hPc := hP.sub (ws' := [(mm, .inr (4, [.int (iI fl19), .ref ta, .int (iI z13), .ref ka, .int (iI nmn), .ref da, .ref ya, .int (iI mpt), .int (iI mmd), .int (iI msx)]))]) [19] rfl
      have hDc := hD.sub (ws' := [(mm, .inr (4, [.int (iI fl19), .ref ta, .int (iI z13), .ref ka, .int (iI nmn), .ref da, .ref ya, .int (iI mpt), .int (iI mmd), .int (iI msx)]))]) [19] (by decide) rfl
      have hKc := hK.sub (tys' := []) [] rfl
      have hFc := va_free (wc := [(mm, .inr (4, [.int (iI fl19), .ref ta, .int (iI z13), .ref ka, .int (iI nmn), .ref da, .ref ya, .int (iI mpt), .int (iI mmd), .int (iI msx)]))]) hD hS hA [19] rfl
      refine mv_call (mv_runV (As := []) (rest := []) ⟨hx, hb, hml, hown, hT⟩ (c_M_thrown l dC dI H.size mm fl19 ta z13 ka nmn da ya mpt mmd msx ) (cwV 0 hT (gV wd548 wd549 wd550 wd30 wd551) rfl rfl rfl (by decide +kernel) ⟨show 0 + 1 ≤ 2048 from by omega, show 8 + (1 + 11) + 0 ≤ 84000 from by omega⟩) ⟨fun a U g mk q => by obtain ⟨q0, q1, qP, qK, qD⟩ := q; exact ⟨q0, q1, qP, va_K.moved (u := U) (U := U.calling g mk a) (Vm.Alike.refl U.vm) qK, qD⟩, va_recv hKc hPc (ci := 4) (q0 := 0) rfl rfl, fun U hU hW => ⟨rfl, by rw [hU], by rw [hU]; exact hPc, va_K.moved hW.alike hKc, hDc.weaken (fun _ _ _ _ => trivial)⟩⟩ rfl rfl hl.1 rfl (lv_room (Nat.le_of_ble_eq_true rfl)) dL_law_629 ⟨show kc + k1 + 0 + 0 ≤ 601024 from by omega, show ks + n2 + 0 + 0 ≤ 7293034 from by omega⟩) hS (fun q _ h => hFc q h) hFc (fun v37 u k35 n36 tS H1 locs ht hvm hw hB hz1 hk1 hS => ?_)
      obtain ⟨hP1, hK1, hD1⟩ := hB
      rw [ht] at hP1
      have hK1 := va_K.moved hvm.symm hK1
      try dsimp only at hw
      obtain ⟨hP, hD⟩ := va_join (wr := [(nd, .inr (2, [.ref nb, .ref nh, .ref nrw, .int (iI nmn), .int (iI nsx)])), (nrw, .inl (nR, nM, .inl (fun j => iI (nV j)))), (nh, .inr (1, [.int (iI nkd), .int (iI ncs), .int (iI ntg), .int (iI nop), .int (iI nsg), .int (iI nct)])), (nb, .inr (0, [.ref nr, .int (iI nz)])), (nr, .inl (nA, nw, .inl (fun j => bI (nt j)))), (sp, .inr (2, [.ref sb, .ref sh, .ref srw, .int (iI smn), .int (iI ssx)])), (srw, .inl (sR, sM, .inl (fun j => iI (sV j)))), (sh, .inr (1, [.int (iI skd), .int (iI scs), .int (iI stg), .int (iI sop), .int (iI ssg), .int (iI sct)])), (sb, .inr (0, [.ref sr, .int (iI szz)])), (sr, .inl (sA, sw, .inl (fun j => bI (stt j)))), (ka, .inl (cK, 4096, .inl (fun j => bI (kt j)))), (da, .inl (cD, 16400, .inl (fun j => iI (Vt j)))), (ya, .inl (cY, 16400, .inl (fun j => iI (Y j)))), (x, .inr (3, [.ref tb, .ref pb, .ref nd, .ref sp])), (tb, .inr (0, [.ref r9, .int (iI z13)])), (r9, .inl (cA10, w11, .inl (fun j => bI (t12 j)))), (pb, .inr (0, [.ref r4, .int (iI z8)])), (r4, .inl (cA5, w6, .inl (fun j => bI (t7 j)))), (ot, .inl (cO, 1, .inr (.inl (fun j => lI (g14 j))))), (ta, .inl (cT, 4096, .inl (fun j => bI (t21 j))))]) (w1 := [(mm, .inr (4, [.int (iI fl19), .ref ta, .int (iI z13), .ref ka, .int (iI nmn), .ref da, .ref ya, .int (iI mpt), .int (iI mmd), .int (iI msx)]))]) hP hD [19] [0, 1, 2, 3, 4, 5, 6, 7, 8, 9, 10, 11, 12, 13, 14, 15, 16, 17, 18, 20] rfl rfl (by decide) (by decide) hk1 hFc hP1 hD1
      have hK := (hK.sub (tys' := [(nR, .int), (nA, .byte), (sR, .int), (sA, .byte), (cK, .byte), (cD, .int), (cY, .int), (cA10, .byte), (cA5, .byte), (cO, .long), (cT, .byte)]) [0, 1, 2, 3, 4, 5, 6, 7, 8, 9, 10] rfl).app hK1
      generalize H1 = H at hP hS ⊢
      have hP : va_P (dC, dI) vwCl [(nd, .inr (2, [.ref nb, .ref nh, .ref nrw, .int (iI nmn), .int (iI nsx)])), (nrw, .inl (nR, nM, .inl (fun j => iI (nV j)))), (nh, .inr (1, [.int (iI nkd), .int (iI ncs), .int (iI ntg), .int (iI nop), .int (iI nsg), .int (iI nct)])), (nb, .inr (0, [.ref nr, .int (iI nz)])), (nr, .inl (nA, nw, .inl (fun j => bI (nt j)))), (sp, .inr (2, [.ref sb, .ref sh, .ref srw, .int (iI smn), .int (iI ssx)])), (srw, .inl (sR, sM, .inl (fun j => iI (sV j)))), (sh, .inr (1, [.int (iI skd), .int (iI scs), .int (iI stg), .int (iI sop), .int (iI ssg), .int (iI sct)])), (sb, .inr (0, [.ref sr, .int (iI szz)])), (sr, .inl (sA, sw, .inl (fun j => bI (stt j)))), (ka, .inl (cK, 4096, .inl (fun j => bI (kt j)))), (da, .inl (cD, 16400, .inl (fun j => iI (Vt j)))), (ya, .inl (cY, 16400, .inl (fun j => iI (Y j)))), (x, .inr (3, [.ref tb, .ref pb, .ref nd, .ref sp])), (tb, .inr (0, [.ref r9, .int (iI z13)])), (r9, .inl (cA10, w11, .inl (fun j => bI (t12 j)))), (pb, .inr (0, [.ref r4, .int (iI z8)])), (r4, .inl (cA5, w6, .inl (fun j => bI (t7 j)))), (ot, .inl (cO, 1, .inr (.inl (fun j => lI (g14 j))))), (ta, .inl (cT, 4096, .inl (fun j => bI (t21 j)))), (mm, .inr (4, [.int (iI fl19), .ref ta, .int (iI z13), .ref ka, .int (iI nmn), .ref da, .ref ya, .int (iI mpt), .int (iI mmd), .int (iI msx)]))] H := hP
      have hD : va_D A [(nd, .inr (2, [.ref nb, .ref nh, .ref nrw, .int (iI nmn), .int (iI nsx)])), (nrw, .inl (nR, nM, .inl (fun j => iI (nV j)))), (nh, .inr (1, [.int (iI nkd), .int (iI ncs), .int (iI ntg), .int (iI nop), .int (iI nsg), .int (iI nct)])), (nb, .inr (0, [.ref nr, .int (iI nz)])), (nr, .inl (nA, nw, .inl (fun j => bI (nt j)))), (sp, .inr (2, [.ref sb, .ref sh, .ref srw, .int (iI smn), .int (iI ssx)])), (srw, .inl (sR, sM, .inl (fun j => iI (sV j)))), (sh, .inr (1, [.int (iI skd), .int (iI scs), .int (iI stg), .int (iI sop), .int (iI ssg), .int (iI sct)])), (sb, .inr (0, [.ref sr, .int (iI szz)])), (sr, .inl (sA, sw, .inl (fun j => bI (stt j)))), (ka, .inl (cK, 4096, .inl (fun j => bI (kt j)))), (da, .inl (cD, 16400, .inl (fun j => iI (Vt j)))), (ya, .inl (cY, 16400, .inl (fun j => iI (Y j)))), (x, .inr (3, [.ref tb, .ref pb, .ref nd, .ref sp])), (tb, .inr (0, [.ref r9, .int (iI z13)])), (r9, .inl (cA10, w11, .inl (fun j => bI (t12 j)))), (pb, .inr (0, [.ref r4, .int (iI z8)])), (r4, .inl (cA5, w6, .inl (fun j => bI (t7 j)))), (ot, .inl (cO, 1, .inr (.inl (fun j => lI (g14 j))))), (ta, .inl (cT, 4096, .inl (fun j => bI (t21 j)))), (mm, .inr (4, [.int (iI fl19), .ref ta, .int (iI z13), .ref ka, .int (iI nmn), .ref da, .ref ya, .int (iI mpt), .int (iI mmd), .int (iI msx)]))] := hD
      have hK : va_K (dC, dI) vwCl [(nR, .int), (nA, .byte), (sR, .int), (sA, .byte), (cK, .byte), (cD, .int), (cY, .int), (cA10, .byte), (cA5, .byte), (cO, .long), (cT, .byte)] s := hK
      obtain ⟨rfl, rfl, rfl⟩ := hw
      refine W.eq (g2 := F0 m 632 ls [.int (iI fl19)]) rfl ?_
      refine lv_iload hx hb dL_law_632 (lv_at hl 1 rfl) ?_
      refine li_icmp_eq (tgt := 639) hx hb (by omega) (by omega) dL_law_634 (by decide) (fun c38 => ?_) (fun c38 => absurd c38 (by omega))
      refine lv_iload hx hb dL_law_639 (lv_at hl 1 rfl) ?_
      refine li_if_ne (tgt := 656) hx hb (by omega) dL_law_641 (by decide) (fun c39 => ?_) (fun c39 => absurd c39 (by omega))
      refine lv_goto (tgt := 838) hx hb dL_law_656 (by decide) ?_
      obtain ⟨z40, ez40⟩ : ∃ y : Int, y = ii + 6 := ⟨_, rfl⟩
      refine lv_iinc (v := iI z40) (lv' := [(4, .int (iI z40)), (6, .int (iI q22)), (5, .int (iI e15)), (0, .ref b), (1, .ref x), (2, .ref mm), (3, .ref ot)]) hx hb dL_law_838 hl (k := 6) rfl (by rw [ez40]; exact iI_add _ _) (by decide) rfl (fun ls hl => ?_)
      refine lv_goto (tgt := 23) hx hb dL_law_841 (by decide) ?_
      exact ih z40 x tb pb nd sp r9 cA10 w11 t12 z13 r4 cA5 w6 t7 z8 nb nh nrw nmn nsx nR nM nV nkd ncs ntg nop nsg nct nr nA nw nt nz sb sh srw smn ssx sR sM sV skd scs stg sop ssg sct sr sA sw stt szz mm fl19 ta ka da ya mpt mmd msx cT t21 cK kt cD Vt cY Y ot cO g14 LT LN LS _ _ _ _ _ (by omega) (by omega) (b2) (b1) (hoN) (hokN) (hoM) (hokS) (by rw [← ez]; exact c6) (hE) (hkb) (hgN) (by omega) (by omega) (hK.sub [7, 8, 0, 1, 2, 3, 10, 4, 5, 6, 9] rfl) (hP.sub [13, 14, 15, 16, 17, 0, 1, 2, 3, 4, 5, 6, 7, 8, 9, 20, 19, 10, 11, 12, 18] rfl) (hD.sub [13, 14, 15, 16, 17, 0, 1, 2, 3, 4, 5, 6, 7, 8, 9, 20, 19, 10, 11, 12, 18] (by decide) rfl) hS (lv_sub hl [3, 4, 5, 6, 0] rfl)
