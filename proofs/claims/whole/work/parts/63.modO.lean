set_option maxHeartbeats 4000000 in
set_option maxRecDepth 100000 in
theorem MO_of (l : Launch) (dC : Nat → ClassId) (dI : Nat → Nat → Nat) (d : Nat) (hMV : MV l dC dI d) : MO l dC dI d := by
  intro sz mm fl ta tz ka nn da ya pt md sx cT t L cY Y Vs Pg nw x dp ct hok hsx hx9 hmd hEP hPg hct hdp
  refine mv_ofW (cc := cX4_open) (maxL := 4) (ret := (some .boolean)) (by decide) rfl ?_
  intro p e s m args below meth c s₁ B hml hv
  obtain ⟨rfl, hsz, hP, hK, hD0⟩ := hv
  have hx := B.exec
  have hb := B.bytes
  have hr := B.returns
  have hT : ∀ w ∈ wT, w.before _ s = true := fun w h => atoms_spec (ws := wsX4_open) B.pre w (List.mem_cons_of_mem _ h)
  have hown : s.vm.findClass RX4 = some m.cls := findClass_of_methodNamed B.named
  have hlocks := B.notSynchronized
  subst hsz
  have hD := hD0.self (sz := s.heap.size)
  generalize hAe : va_A [(mm, .inr (4, [.int (iI fl), .ref ta, .int (iI tz), .ref ka, .int (iI nn), .ref da, .ref ya, .int (iI pt), .int (iI md), .int (iI sx)])), (ta, .inl (cT, 4096, .inl (fun j => bI (t j)))), (ya, .inl (cY, 16400, .inl (fun j => iI (Y j))))] s.heap.size = A at hD ⊢
  have hA : ∀ q : Nat, s.heap.size ≤ q → A q := fun q h => by rw [← hAe]; exact Or.inr h
  have hS : va_S A s.heap s.heap [] := va_S.rf
  have hP : va_P (dC, dI) vwCl [(mm, .inr (4, [.int (iI fl), .ref ta, .int (iI tz), .ref ka, .int (iI nn), .ref da, .ref ya, .int (iI pt), .int (iI md), .int (iI sx)])), (ta, .inl (cT, 4096, .inl (fun j => bI (t j)))), (ya, .inl (cY, 16400, .inl (fun j => iI (Y j))))] s.heap := hP
  have hl := lv_entry ([.ref mm, .int (iI nw), .int (iI x), .int (iI dp)]) (n := 4) (Nat.le_of_ble_eq_true rfl)
  rw [lg_entry_eq]
  generalize (lg_sl ([.ref mm, .int (iI nw), .int (iI x), .int (iI dp)]) ++ List.replicate (4 - (lg_sl ([.ref mm, .int (iI nw), .int (iI x), .int (iI dp)])).length) Slot.unset).toArray = ls at hl ⊢
  have hl : lv_has ls 4 [(0, .ref mm), (1, .int (iI nw)), (2, .int (iI x)), (3, .int (iI dp))] := hl
  obtain ⟨hw1, hw2, hw3, hw4, hw5, hw6⟩ := id hok
  have hg8 := gd_rng hok
  refine mv_nameQ (fun Q9 hQ9 => ?_)
  have LP : ∀ (fu : Nat) (a : Int) (N2 : Int) (Y3 : Nat → Int) (V2 : Nat → Int) (jj : Int) (H : Heap) (locs : List Loc) (ls : Array Slot) (kc ks : Nat), (x - a < (fu : Int)) → (pt + 2 * jj ≤ a ∧ a ≤ x ∧ 0 ≤ jj) → (md ≤ N2 ∧ 2 * N2 ≤ a) → (loopZ (gd L) (layV (gd L) sx d) x nw 4096 pt md Vs = loopZ (gd L) (layV (gd L) sx d) x nw (4096 - jj).toNat a N2 V2) → (eqP (fun j => Pg j ∨ (j : Int) = 8 * nw + 5) Y3 V2 N2) → (∀ j : Nat, (j : Int) < 8 * md → ¬ j % 8 = 7 → Y3 j = Y j) → (kc = 0 ∧ ks = 0) → va_K (dC, dI) vwCl [(cT, .byte), (cY, .int)] s → va_P (dC, dI) vwCl [(mm, .inr (4, [.int (iI fl), .ref ta, .int (iI tz), .ref ka, .int (iI nn), .ref da, .ref ya, .int (iI a), .int (iI N2), .int (iI sx)])), (ta, .inl (cT, 4096, .inl (fun j => bI (t j)))), (ya, .inl (cY, 16400, .inl (fun j => iI (Y3 j))))] H → va_D A [(mm, .inr (4, [.int (iI fl), .ref ta, .int (iI tz), .ref ka, .int (iI nn), .ref da, .ref ya, .int (iI a), .int (iI N2), .int (iI sx)])), (ta, .inl (cT, 4096, .inl (fun j => bI (t j)))), (ya, .inl (cY, 16400, .inl (fun j => iI (Y3 j))))] → va_S A s.heap H locs → lv_has ls 4 [(0, .ref mm), (1, .int (iI nw)), (2, .int (iI x)), (3, .int (iI dp))] → W p l e ({ frames := (2 * d + 6), cells := 0, slots := 0, locals := (60 * d + 230) }) s m ([.ref mm, .int (iI nw), .int (iI x), .int (iI dp)] : List Value).toArray below meth c H locs kc ks Q9 (F0 m 0 ls []) := by
    intro fu
    induction fu with
    | zero =>
      intro a N2 Y3 V2 jj H locs ls kc ks hfu ha hN2 hC hE3 hk hkc hK hP hD hS hl
      exfalso
      omega
    | succ fu ih =>
      intro a N2 Y3 V2 jj H locs ls kc ks hfu ha hN2 hC hE3 hk hkc hK hP hD hS hl
      have hga := hg8 a
      have hga1 := hg8 (a + 1)
      have hta : a < tz → t (a : Int).toNat = gd L a := fun h => by have h1 := gd_in hok (i := a) (by omega); have h2 := hw5 (a : Int).toNat; omega
      have hta1 : a + 1 < tz → t (a + 1 : Int).toNat = gd L (a + 1) := fun h => by have h1 := gd_in hok (i := a + 1) (by omega); have h2 := hw5 (a + 1 : Int).toNat; omega
      have hy4 : Y3 (((8 * nw) + 4) : Int).toNat = ct := (hk _ (by omega) (by omega)).trans hct.1
      refine lv_aload_n hx hb dX4_open_0 rfl (lv_at hl 0 rfl) ?_
      refine va_get (D := (dC, dI)) (ci := 4) (v := .int (iI a)) (C := RX4) (T := TX4) (N := 10) hx hb hT inX4 hown hK hP 0 rfl rfl 7 (by decide) (hT _ wd524) (fun _ h9 => h9) rfl dX4_open_1 ?_
      refine lv_iconst (v := iI 1) hx hb dX4_open_4 rfl ?_
      refine li_iadd hx hb dX4_open_5 ?_
      refine lv_iload_n hx hb dX4_open_6 rfl (lv_at hl 2 rfl) ?_
      refine li_icmp_ge (tgt := 50) hx hb (by omega) (by omega) dX4_open_7 (by decide) (fun c1 => ?_) (fun c1 => ?_)
      · skip
        refine lv_aload_n hx hb dX4_open_50 rfl (lv_at hl 0 rfl) ?_
        refine va_get (D := (dC, dI)) (ci := 4) (v := .ref ya) (C := RX4) (T := TX4) (N := 10) hx hb hT inX4 hown hK hP 0 rfl rfl 6 (by decide) (hT _ wd523) (fun _ h9 => h9) rfl dX4_open_51 ?_
        refine lv_bipush (v := iI 8) hx hb dX4_open_54 (by decide +kernel) ?_
        refine lv_iload_n hx hb dX4_open_56 rfl (lv_at hl 1 rfl) ?_
        refine li_imul hx hb dX4_open_57 ?_
        refine lv_iconst (v := iI 5) hx hb dX4_open_58 rfl ?_
        refine li_iadd hx hb dX4_open_59 ?_
        refine lv_aload_n hx hb dX4_open_60 rfl (lv_at hl 0 rfl) ?_
        refine va_get (D := (dC, dI)) (ci := 4) (v := .int (iI a)) (C := RX4) (T := TX4) (N := 10) hx hb hT inX4 hown hK hP 0 rfl rfl 7 (by decide) (hT _ wd524) (fun _ h9 => h9) rfl dX4_open_61 ?_
        refine lv_aload_n hx hb dX4_open_64 rfl (lv_at hl 0 rfl) ?_
        refine va_get (D := (dC, dI)) (ci := 4) (v := .ref ya) (C := RX4) (T := TX4) (N := 10) hx hb hT inX4 hown hK hP 0 rfl rfl 6 (by decide) (hT _ wd523) (fun _ h9 => h9) rfl dX4_open_65 ?_
        refine lv_bipush (v := iI 8) hx hb dX4_open_68 (by decide +kernel) ?_
        refine lv_iload_n hx hb dX4_open_70 rfl (lv_at hl 1 rfl) ?_
        refine li_imul hx hb dX4_open_71 ?_
        refine lv_iconst (v := iI 4) hx hb dX4_open_72 rfl ?_
        refine li_iadd hx hb dX4_open_73 ?_
        refine li_iald hx hb hK hP 2 1 rfl rfl (z := ((8 * nw) + 4)) (by omega) (by omega) dX4_open_74 ?_
        refine li_isub hx hb dX4_open_75 ?_
        refine li_iast hx hb hK hP hD hS 2 1 rfl rfl (z := ((8 * nw) + 5)) (by omega) (by omega) dX4_open_76 (fun H locs hP hD hS => ?_)
        have hP : va_P (dC, dI) vwCl [(mm, .inr (4, [.int (iI fl), .ref ta, .int (iI tz), .ref ka, .int (iI nn), .ref da, .ref ya, .int (iI a), .int (iI N2), .int (iI sx)])), (ta, .inl (cT, 4096, .inl (fun j => bI (t j)))), (ya, .inl (cY, 16400, .inl (fun j => iI ((vf_upd Y3 (((8 * nw) + 5) : Int).toNat (a - (Y3 (((8 * nw) + 4) : Int).toNat))) j))))] H := hP
        have hD : va_D A [(mm, .inr (4, [.int (iI fl), .ref ta, .int (iI tz), .ref ka, .int (iI nn), .ref da, .ref ya, .int (iI a), .int (iI N2), .int (iI sx)])), (ta, .inl (cT, 4096, .inl (fun j => bI (t j)))), (ya, .inl (cY, 16400, .inl (fun j => iI ((vf_upd Y3 (((8 * nw) + 5) : Int).toNat (a - (Y3 (((8 * nw) + 4) : Int).toNat))) j))))] := hD
        refine lv_aload_n hx hb dX4_open_77 rfl (lv_at hl 0 rfl) ?_
        refine lv_dup hx hb dX4_open_78 rfl ?_
        refine va_get (D := (dC, dI)) (ci := 4) (v := .int (iI a)) (C := RX4) (T := TX4) (N := 10) hx hb hT inX4 hown hK hP 0 rfl rfl 7 (by decide) (hT _ wd524) (fun _ h9 => h9) rfl dX4_open_79 ?_
        refine lv_iconst (v := iI 2) hx hb dX4_open_82 rfl ?_
        refine li_iadd hx hb dX4_open_83 ?_
        refine li_nm (fun z2 ez2 => ?_)
        refine va_put (D := (dC, dI)) (ci := 4) (v := .int (iI z2)) (ty := .int) (C := RX4) (T := TX4) (N := 10) hx hb hT inX4 tyX4 tyX4_ok nX4 hown hK hP hD hS 0 rfl rfl 7 (by decide) (hT _ wd524) (fun _ h9 => h9) rfl (by decide +kernel) rfl rfl (Nat.le_of_ble_eq_true rfl) dX4_open_84 (fun H locs hP hD hS => ?_)
        have hP : va_P (dC, dI) vwCl [(mm, .inr (4, [.int (iI fl), .ref ta, .int (iI tz), .ref ka, .int (iI nn), .ref da, .ref ya, .int (iI z2), .int (iI N2), .int (iI sx)])), (ta, .inl (cT, 4096, .inl (fun j => bI (t j)))), (ya, .inl (cY, 16400, .inl (fun j => iI ((vf_upd Y3 (((8 * nw) + 5) : Int).toNat (a - (Y3 (((8 * nw) + 4) : Int).toNat))) j))))] H := hP
        have hD : va_D A [(mm, .inr (4, [.int (iI fl), .ref ta, .int (iI tz), .ref ka, .int (iI nn), .ref da, .ref ya, .int (iI z2), .int (iI N2), .int (iI sx)])), (ta, .inl (cT, 4096, .inl (fun j => bI (t j)))), (ya, .inl (cY, 16400, .inl (fun j => iI ((vf_upd Y3 (((8 * nw) + 5) : Int).toNat (a - (Y3 (((8 * nw) + 4) : Int).toNat))) j))))] := hD
        refine lv_aload_n hx hb dX4_open_87 rfl (lv_at hl 0 rfl) ?_
        refine va_get (D := (dC, dI)) (ci := 4) (v := .int (iI z2)) (C := RX4) (T := TX4) (N := 10) hx hb hT inX4 hown hK hP 0 rfl rfl 7 (by decide) (hT _ wd524) (fun _ h9 => h9) rfl dX4_open_88 ?_
        refine lv_iload_n hx hb dX4_open_91 rfl (lv_at hl 2 rfl) ?_
        refine li_icmp_gt (tgt := 99) hx hb (by omega) (by omega) dX4_open_92 (by decide) (fun c3 => ?_) (fun c3 => absurd c3 (by omega))
        refine lv_iconst (v := iI 0) hx hb dX4_open_99 rfl ?_
        subst hQ9
        have hP9 := hP.sub (ws' := [(mm, .inr (4, [.int (iI fl), .ref ta, .int (iI tz), .ref ka, .int (iI nn), .ref da, .ref ya, .int (iI z2), .int (iI N2), .int (iI sx)])), (ta, .inl (cT, 4096, .inl (fun j => bI (t j)))), (ya, .inl (cY, 16400, .inl (fun j => iI ((vf_upd Y3 (((8 * nw) + 5) : Int).toNat (a - (Y3 (((8 * nw) + 4) : Int).toNat))) j))))]) [0, 1, 2] rfl
        have hD9 := hD.sub (ws' := [(mm, .inr (4, [.int (iI fl), .ref ta, .int (iI tz), .ref ka, .int (iI nn), .ref da, .ref ya, .int (iI z2), .int (iI N2), .int (iI sx)])), (ta, .inl (cT, 4096, .inl (fun j => bI (t j)))), (ya, .inl (cY, 16400, .inl (fun j => iI ((vf_upd Y3 (((8 * nw) + 5) : Int).toNat (a - (Y3 (((8 * nw) + 4) : Int).toNat))) j))))]) [0, 1, 2] (by decide) rfl
        have hK9 := hK.sub (tys' := [(cT, .byte), (cY, .int)]) [0, 1] rfl
        exact mv_zret hx hb hr (zb_n (by omega)) hlocks (fun tS ht hW => ⟨⟨_, ((vf_upd Y3 (((8 * nw) + 5) : Int).toNat (a - (Y3 (((8 * nw) + 4) : Int).toNat))), z2, N2, 0), rfl, ⟨rfl, Or.inl ⟨rfl, by rw [hC]; exact loopZ_x (by omega)⟩, by omega, by omega⟩, by rw [ht]; exact hP9, va_K.moved hW.alike hK9, hD9⟩, hS.F ht⟩) hS.2.2 dX4_open_100
      · skip
        refine lv_aload_n hx hb dX4_open_10 rfl (lv_at hl 0 rfl) ?_
        refine va_get (D := (dC, dI)) (ci := 4) (v := .ref ta) (C := RX4) (T := TX4) (N := 10) hx hb hT inX4 hown hK hP 0 rfl rfl 1 (by decide) (hT _ wd518) (fun _ h9 => h9) rfl dX4_open_11 ?_
        refine lv_aload_n hx hb dX4_open_14 rfl (lv_at hl 0 rfl) ?_
        refine va_get (D := (dC, dI)) (ci := 4) (v := .int (iI a)) (C := RX4) (T := TX4) (N := 10) hx hb hT inX4 hown hK hP 0 rfl rfl 7 (by decide) (hT _ wd524) (fun _ h9 => h9) rfl dX4_open_15 ?_
        refine li_bald hx hb hK hP 1 0 rfl rfl (z := a) (by omega) (by omega) dX4_open_18 ?_
        refine li_bnm (hw5 _) (fun z4 ez4 => ?_)
        refine li_if_ne (tgt := 36) hx hb (by omega) dX4_open_19 (by decide) (fun c5 => ?_) (fun c5 => ?_)
        · skip
          refine lv_aload_n hx hb dX4_open_36 rfl (lv_at hl 0 rfl) ?_
          refine lv_iload_n hx hb dX4_open_37 rfl (lv_at hl 2 rfl) ?_
          refine lv_iload_n hx hb dX4_open_38 rfl (lv_at hl 1 rfl) ?_
          refine lv_iload_n hx hb dX4_open_39 rfl (lv_at hl 3 rfl) ?_
          refine lv_iconst (v := iI 1) hx hb dX4_open_40 rfl ?_
          refine li_iadd hx hb dX4_open_41 ?_
          have hPc := hP.sub (ws' := [(mm, .inr (4, [.int (iI fl), .ref ta, .int (iI tz), .ref ka, .int (iI nn), .ref da, .ref ya, .int (iI a), .int (iI N2), .int (iI sx)])), (ta, .inl (cT, 4096, .inl (fun j => bI (t j)))), (ya, .inl (cY, 16400, .inl (fun j => iI (Y3 j))))]) [0, 1, 2] rfl
          have hDc := hD.sub (ws' := [(mm, .inr (4, [.int (iI fl), .ref ta, .int (iI tz), .ref ka, .int (iI nn), .ref da, .ref ya, .int (iI a), .int (iI N2), .int (iI sx)])), (ta, .inl (cT, 4096, .inl (fun j => bI (t j)))), (ya, .inl (cY, 16400, .inl (fun j => iI (Y3 j))))]) [0, 1, 2] (by decide) rfl
          have hKc := hK.sub (tys' := [(cT, .byte), (cY, .int)]) [0, 1] rfl
          have hFc := va_free (wc := [(mm, .inr (4, [.int (iI fl), .ref ta, .int (iI tz), .ref ka, .int (iI nn), .ref da, .ref ya, .int (iI a), .int (iI N2), .int (iI sx)])), (ta, .inl (cT, 4096, .inl (fun j => bI (t j)))), (ya, .inl (cY, 16400, .inl (fun j => iI (Y3 j))))]) hD hS hA [0, 1, 2] rfl
          refine mv_call (mv_runV (As := [.int (iI x), .int (iI nw), .int (iI (dp + 1))]) (rest := []) ⟨hx, hb, hml, hown, hT⟩ (hMV H.size mm fl ta tz ka nn da ya a N2 sx cT t L cY Y3 V2 (fun j => Pg j ∨ (j : Int) = 8 * nw + 5) x nw (dp + 1) (hok) (by omega) (by omega) (by omega) (by omega) (hE3) (fun j h => h.elim (hPg j) (fun h => by omega)) (by omega)) (cwV 3 hT (gV wd568 wd570 wd17 wd30 wd571) rfl rfl rfl (by decide +kernel) ⟨show (2 * d + 5) + 1 ≤ (2 * d + 6) from by omega, show 8 + (11 + 11) + (60 * d + 200) ≤ (60 * d + 230) from by omega⟩) ⟨fun a U g mk q => by obtain ⟨q0, q1, qP, qK, qD⟩ := q; exact ⟨q0, q1, qP, va_K.moved (u := U) (U := U.calling g mk a) (Vm.Alike.refl U.vm) qK, qD⟩, va_recv hKc hPc (ci := 4) (q0 := 0) rfl rfl, fun U hU hW => ⟨rfl, by rw [hU], by rw [hU]; exact hPc, va_K.moved hW.alike hKc, hDc.weaken (fun _ _ _ _ => trivial)⟩⟩ rfl rfl hl.1 rfl (lv_room (Nat.le_of_ble_eq_true rfl)) dX4_open_42 ⟨show kc + 0 ≤ 0 from by omega, show ks + 0 ≤ 0 from by omega⟩) hS (fun q _ h => hFc q h) hFc (fun v8 u k6 n7 tS H1 locs ht hvm hw hB hz1 hk1 hS => ?_)
          obtain ⟨Y9, pt10, md11, q12⟩ := u
          obtain ⟨hP1, hK1, hD1⟩ := hB
          rw [ht] at hP1
          have hK1 := va_K.moved hvm.symm hK1
          try dsimp only at hw
          obtain ⟨hP, hD⟩ := va_join (wr := []) (w1 := [(mm, .inr (4, [.int (iI fl), .ref ta, .int (iI tz), .ref ka, .int (iI nn), .ref da, .ref ya, .int (iI pt10), .int (iI md11), .int (iI sx)])), (ta, .inl (cT, 4096, .inl (fun j => bI (t j)))), (ya, .inl (cY, 16400, .inl (fun j => iI (Y9 j))))]) hP hD [0, 1, 2] [] rfl rfl (by decide) (by decide) hk1 hFc hP1 hD1
          have hK := (hK.sub (tys' := []) [] rfl).app hK1
          generalize H1 = H at hP hS ⊢
          have hP : va_P (dC, dI) vwCl [(mm, .inr (4, [.int (iI fl), .ref ta, .int (iI tz), .ref ka, .int (iI nn), .ref da, .ref ya, .int (iI pt10), .int (iI md11), .int (iI sx)])), (ta, .inl (cT, 4096, .inl (fun j => bI (t j)))), (ya, .inl (cY, 16400, .inl (fun j => iI (Y9 j))))] H := hP
          have hD : va_D A [(mm, .inr (4, [.int (iI fl), .ref ta, .int (iI tz), .ref ka, .int (iI nn), .ref da, .ref ya, .int (iI pt10), .int (iI md11), .int (iI sx)])), (ta, .inl (cT, 4096, .inl (fun j => bI (t j)))), (ya, .inl (cY, 16400, .inl (fun j => iI (Y9 j))))] := hD
          have hK : va_K (dC, dI) vwCl [(cT, .byte), (cY, .int)] s := hK
          obtain ⟨rfl, hqv8, rfl, rfl⟩ := hw
          refine W.eq (g2 := F0 m 45 ls [.int (iI q12)]) rfl ?_
          refine li_if_ne (tgt := 0) hx hb (by omega) dX4_open_45 (by decide) (fun c13 => ?_) (fun c13 => ?_)
          · skip
            obtain ⟨-, V3, y1, y2, y3, y4⟩ := hqv8.resolve_left (fun h => absurd h.1 (by omega))
            exact ih pt10 md11 Y9 V3 (jj + 1) _ _ _ _ _ (by omega) (by omega) (by omega) (by rw [hC]; exact loopZ_go (by omega) (by omega) (by omega) y1) (y2) (fun j h1 h2 => (y4 j (by omega) h2).trans (hk j h1 h2)) (by omega) (hK.sub [0, 1] rfl) (hP.sub [0, 1, 2] rfl) (hD.sub [0, 1, 2] (by decide) rfl) hS (lv_sub hl [0, 1, 2, 3] rfl)
          · skip
            refine lv_iconst (v := iI 0) hx hb dX4_open_48 rfl ?_
            have hno := hqv8.resolve_right (fun h => absurd h.1 (by omega))
            subst hQ9
            have hP9 := hP.sub (ws' := [(mm, .inr (4, [.int (iI fl), .ref ta, .int (iI tz), .ref ka, .int (iI nn), .ref da, .ref ya, .int (iI pt10), .int (iI md11), .int (iI sx)])), (ta, .inl (cT, 4096, .inl (fun j => bI (t j)))), (ya, .inl (cY, 16400, .inl (fun j => iI (Y9 j))))]) [0, 1, 2] rfl
            have hD9 := hD.sub (ws' := [(mm, .inr (4, [.int (iI fl), .ref ta, .int (iI tz), .ref ka, .int (iI nn), .ref da, .ref ya, .int (iI pt10), .int (iI md11), .int (iI sx)])), (ta, .inl (cT, 4096, .inl (fun j => bI (t j)))), (ya, .inl (cY, 16400, .inl (fun j => iI (Y9 j))))]) [0, 1, 2] (by decide) rfl
            have hK9 := hK.sub (tys' := [(cT, .byte), (cY, .int)]) [0, 1] rfl
            exact mv_zret hx hb hr (zb_n (by omega)) hlocks (fun tS ht hW => ⟨⟨_, (Y9, pt10, md11, 0), rfl, ⟨rfl, Or.inl ⟨rfl, by rw [hC]; exact loopZ_no (by omega) (by omega) (by omega) hno.2⟩, by omega, by omega⟩, by rw [ht]; exact hP9, va_K.moved hW.alike hK9, hD9⟩, hS.F ht⟩) hS.2.2 dX4_open_49
        · skip
          refine lv_aload_n hx hb dX4_open_22 rfl (lv_at hl 0 rfl) ?_
          refine va_get (D := (dC, dI)) (ci := 4) (v := .ref ta) (C := RX4) (T := TX4) (N := 10) hx hb hT inX4 hown hK hP 0 rfl rfl 1 (by decide) (hT _ wd518) (fun _ h9 => h9) rfl dX4_open_23 ?_
          refine lv_aload_n hx hb dX4_open_26 rfl (lv_at hl 0 rfl) ?_
          refine va_get (D := (dC, dI)) (ci := 4) (v := .int (iI a)) (C := RX4) (T := TX4) (N := 10) hx hb hT inX4 hown hK hP 0 rfl rfl 7 (by decide) (hT _ wd524) (fun _ h9 => h9) rfl dX4_open_27 ?_
          refine lv_iconst (v := iI 1) hx hb dX4_open_30 rfl ?_
          refine li_iadd hx hb dX4_open_31 ?_
          refine li_bald hx hb hK hP 1 0 rfl rfl (z := (a + 1)) (by omega) (by omega) dX4_open_32 ?_
          refine li_bnm (hw5 _) (fun z14 ez14 => ?_)
          refine li_if_eq (tgt := 50) hx hb (by omega) dX4_open_33 (by decide) (fun c15 => ?_) (fun c15 => ?_)
          · skip
            refine lv_aload_n hx hb dX4_open_50 rfl (lv_at hl 0 rfl) ?_
            refine va_get (D := (dC, dI)) (ci := 4) (v := .ref ya) (C := RX4) (T := TX4) (N := 10) hx hb hT inX4 hown hK hP 0 rfl rfl 6 (by decide) (hT _ wd523) (fun _ h9 => h9) rfl dX4_open_51 ?_
            refine lv_bipush (v := iI 8) hx hb dX4_open_54 (by decide +kernel) ?_
            refine lv_iload_n hx hb dX4_open_56 rfl (lv_at hl 1 rfl) ?_
            refine li_imul hx hb dX4_open_57 ?_
            refine lv_iconst (v := iI 5) hx hb dX4_open_58 rfl ?_
            refine li_iadd hx hb dX4_open_59 ?_
            refine lv_aload_n hx hb dX4_open_60 rfl (lv_at hl 0 rfl) ?_
            refine va_get (D := (dC, dI)) (ci := 4) (v := .int (iI a)) (C := RX4) (T := TX4) (N := 10) hx hb hT inX4 hown hK hP 0 rfl rfl 7 (by decide) (hT _ wd524) (fun _ h9 => h9) rfl dX4_open_61 ?_
            refine lv_aload_n hx hb dX4_open_64 rfl (lv_at hl 0 rfl) ?_
            refine va_get (D := (dC, dI)) (ci := 4) (v := .ref ya) (C := RX4) (T := TX4) (N := 10) hx hb hT inX4 hown hK hP 0 rfl rfl 6 (by decide) (hT _ wd523) (fun _ h9 => h9) rfl dX4_open_65 ?_
            refine lv_bipush (v := iI 8) hx hb dX4_open_68 (by decide +kernel) ?_
            refine lv_iload_n hx hb dX4_open_70 rfl (lv_at hl 1 rfl) ?_
            refine li_imul hx hb dX4_open_71 ?_
            refine lv_iconst (v := iI 4) hx hb dX4_open_72 rfl ?_
            refine li_iadd hx hb dX4_open_73 ?_
            refine li_iald hx hb hK hP 2 1 rfl rfl (z := ((8 * nw) + 4)) (by omega) (by omega) dX4_open_74 ?_
            refine li_isub hx hb dX4_open_75 ?_
            refine li_iast hx hb hK hP hD hS 2 1 rfl rfl (z := ((8 * nw) + 5)) (by omega) (by omega) dX4_open_76 (fun H locs hP hD hS => ?_)
            have hP : va_P (dC, dI) vwCl [(mm, .inr (4, [.int (iI fl), .ref ta, .int (iI tz), .ref ka, .int (iI nn), .ref da, .ref ya, .int (iI a), .int (iI N2), .int (iI sx)])), (ta, .inl (cT, 4096, .inl (fun j => bI (t j)))), (ya, .inl (cY, 16400, .inl (fun j => iI ((vf_upd Y3 (((8 * nw) + 5) : Int).toNat (a - (Y3 (((8 * nw) + 4) : Int).toNat))) j))))] H := hP
            have hD : va_D A [(mm, .inr (4, [.int (iI fl), .ref ta, .int (iI tz), .ref ka, .int (iI nn), .ref da, .ref ya, .int (iI a), .int (iI N2), .int (iI sx)])), (ta, .inl (cT, 4096, .inl (fun j => bI (t j)))), (ya, .inl (cY, 16400, .inl (fun j => iI ((vf_upd Y3 (((8 * nw) + 5) : Int).toNat (a - (Y3 (((8 * nw) + 4) : Int).toNat))) j))))] := hD
            refine lv_aload_n hx hb dX4_open_77 rfl (lv_at hl 0 rfl) ?_
            refine lv_dup hx hb dX4_open_78 rfl ?_
            refine va_get (D := (dC, dI)) (ci := 4) (v := .int (iI a)) (C := RX4) (T := TX4) (N := 10) hx hb hT inX4 hown hK hP 0 rfl rfl 7 (by decide) (hT _ wd524) (fun _ h9 => h9) rfl dX4_open_79 ?_
            refine lv_iconst (v := iI 2) hx hb dX4_open_82 rfl ?_
            refine li_iadd hx hb dX4_open_83 ?_
            refine li_nm (fun z16 ez16 => ?_)
            refine va_put (D := (dC, dI)) (ci := 4) (v := .int (iI z16)) (ty := .int) (C := RX4) (T := TX4) (N := 10) hx hb hT inX4 tyX4 tyX4_ok nX4 hown hK hP hD hS 0 rfl rfl 7 (by decide) (hT _ wd524) (fun _ h9 => h9) rfl (by decide +kernel) rfl rfl (Nat.le_of_ble_eq_true rfl) dX4_open_84 (fun H locs hP hD hS => ?_)
            have hP : va_P (dC, dI) vwCl [(mm, .inr (4, [.int (iI fl), .ref ta, .int (iI tz), .ref ka, .int (iI nn), .ref da, .ref ya, .int (iI z16), .int (iI N2), .int (iI sx)])), (ta, .inl (cT, 4096, .inl (fun j => bI (t j)))), (ya, .inl (cY, 16400, .inl (fun j => iI ((vf_upd Y3 (((8 * nw) + 5) : Int).toNat (a - (Y3 (((8 * nw) + 4) : Int).toNat))) j))))] H := hP
            have hD : va_D A [(mm, .inr (4, [.int (iI fl), .ref ta, .int (iI tz), .ref ka, .int (iI nn), .ref da, .ref ya, .int (iI z16), .int (iI N2), .int (iI sx)])), (ta, .inl (cT, 4096, .inl (fun j => bI (t j)))), (ya, .inl (cY, 16400, .inl (fun j => iI ((vf_upd Y3 (((8 * nw) + 5) : Int).toNat (a - (Y3 (((8 * nw) + 4) : Int).toNat))) j))))] := hD
            refine lv_aload_n hx hb dX4_open_87 rfl (lv_at hl 0 rfl) ?_
            refine va_get (D := (dC, dI)) (ci := 4) (v := .int (iI z16)) (C := RX4) (T := TX4) (N := 10) hx hb hT inX4 hown hK hP 0 rfl rfl 7 (by decide) (hT _ wd524) (fun _ h9 => h9) rfl dX4_open_88 ?_
            refine lv_iload_n hx hb dX4_open_91 rfl (lv_at hl 2 rfl) ?_
            refine li_icmp_gt (tgt := 99) hx hb (by omega) (by omega) dX4_open_92 (by decide) (fun c17 => absurd c17 (by omega)) (fun c17 => ?_)
            refine lv_iconst (v := iI 1) hx hb dX4_open_95 rfl ?_
            refine lv_goto (tgt := 100) hx hb dX4_open_96 (by decide) ?_
            have hfy : eqP Pg (vf_upd Y3 (((8 * nw) + 5) : Int).toNat (a - (Y3 (((8 * nw) + 4) : Int).toNat))) (vf_upd V2 (nw * 8 + 5).toNat (a - ct)) N2 := by
              intro j hj hp
              rw [show (nw * 8 + 5).toNat = (8 * nw + 5).toNat by omega]
              unfold vf_upd
              by_cases e9 : j = (8 * nw + 5).toNat
              · rw [if_pos e9, if_pos e9]; omega
              · rw [if_neg e9, if_neg e9]; exact hE3 j hj (fun h => h.elim hp (fun h => e9 (by omega)))
            have hfk : ∀ j : Nat, (j : Int) < 8 * nw → ¬ j % 8 = 7 → (vf_upd Y3 (((8 * nw) + 5) : Int).toNat (a - (Y3 (((8 * nw) + 4) : Int).toNat))) j = Y j := fun j h1 h2 => (upd_ne (by omega)).trans (hk j (by omega) h2)
            subst hQ9
            have hP9 := hP.sub (ws' := [(mm, .inr (4, [.int (iI fl), .ref ta, .int (iI tz), .ref ka, .int (iI nn), .ref da, .ref ya, .int (iI z16), .int (iI N2), .int (iI sx)])), (ta, .inl (cT, 4096, .inl (fun j => bI (t j)))), (ya, .inl (cY, 16400, .inl (fun j => iI ((vf_upd Y3 (((8 * nw) + 5) : Int).toNat (a - (Y3 (((8 * nw) + 4) : Int).toNat))) j))))]) [0, 1, 2] rfl
            have hD9 := hD.sub (ws' := [(mm, .inr (4, [.int (iI fl), .ref ta, .int (iI tz), .ref ka, .int (iI nn), .ref da, .ref ya, .int (iI z16), .int (iI N2), .int (iI sx)])), (ta, .inl (cT, 4096, .inl (fun j => bI (t j)))), (ya, .inl (cY, 16400, .inl (fun j => iI ((vf_upd Y3 (((8 * nw) + 5) : Int).toNat (a - (Y3 (((8 * nw) + 4) : Int).toNat))) j))))]) [0, 1, 2] (by decide) rfl
            have hK9 := hK.sub (tys' := [(cT, .byte), (cY, .int)]) [0, 1] rfl
            exact mv_zret hx hb hr (zb_n (by omega)) hlocks (fun tS ht hW => ⟨⟨_, ((vf_upd Y3 (((8 * nw) + 5) : Int).toNat (a - (Y3 (((8 * nw) + 4) : Int).toNat))), z16, N2, 1), rfl, ⟨rfl, Or.inr ⟨rfl, V2, a, by rw [hC]; exact loopZ_y (by omega) (by omega) (by omega), by omega, hfy, by omega, hfk⟩, by omega, by omega⟩, by rw [ht]; exact hP9, va_K.moved hW.alike hK9, hD9⟩, hS.F ht⟩) hS.2.2 dX4_open_100
          · skip
            refine lv_aload_n hx hb dX4_open_36 rfl (lv_at hl 0 rfl) ?_
            refine lv_iload_n hx hb dX4_open_37 rfl (lv_at hl 2 rfl) ?_
            refine lv_iload_n hx hb dX4_open_38 rfl (lv_at hl 1 rfl) ?_
            refine lv_iload_n hx hb dX4_open_39 rfl (lv_at hl 3 rfl) ?_
            refine lv_iconst (v := iI 1) hx hb dX4_open_40 rfl ?_
            refine li_iadd hx hb dX4_open_41 ?_
            have hPc := hP.sub (ws' := [(mm, .inr (4, [.int (iI fl), .ref ta, .int (iI tz), .ref ka, .int (iI nn), .ref da, .ref ya, .int (iI a), .int (iI N2), .int (iI sx)])), (ta, .inl (cT, 4096, .inl (fun j => bI (t j)))), (ya, .inl (cY, 16400, .inl (fun j => iI (Y3 j))))]) [0, 1, 2] rfl
            have hDc := hD.sub (ws' := [(mm, .inr (4, [.int (iI fl), .ref ta, .int (iI tz), .ref ka, .int (iI nn), .ref da, .ref ya, .int (iI a), .int (iI N2), .int (iI sx)])), (ta, .inl (cT, 4096, .inl (fun j => bI (t j)))), (ya, .inl (cY, 16400, .inl (fun j => iI (Y3 j))))]) [0, 1, 2] (by decide) rfl
            have hKc := hK.sub (tys' := [(cT, .byte), (cY, .int)]) [0, 1] rfl
            have hFc := va_free (wc := [(mm, .inr (4, [.int (iI fl), .ref ta, .int (iI tz), .ref ka, .int (iI nn), .ref da, .ref ya, .int (iI a), .int (iI N2), .int (iI sx)])), (ta, .inl (cT, 4096, .inl (fun j => bI (t j)))), (ya, .inl (cY, 16400, .inl (fun j => iI (Y3 j))))]) hD hS hA [0, 1, 2] rfl
            refine mv_call (mv_runV (As := [.int (iI x), .int (iI nw), .int (iI (dp + 1))]) (rest := []) ⟨hx, hb, hml, hown, hT⟩ (hMV H.size mm fl ta tz ka nn da ya a N2 sx cT t L cY Y3 V2 (fun j => Pg j ∨ (j : Int) = 8 * nw + 5) x nw (dp + 1) (hok) (by omega) (by omega) (by omega) (by omega) (hE3) (fun j h => h.elim (hPg j) (fun h => by omega)) (by omega)) (cwV 3 hT (gV wd568 wd570 wd17 wd30 wd571) rfl rfl rfl (by decide +kernel) ⟨show (2 * d + 5) + 1 ≤ (2 * d + 6) from by omega, show 8 + (11 + 11) + (60 * d + 200) ≤ (60 * d + 230) from by omega⟩) ⟨fun a U g mk q => by obtain ⟨q0, q1, qP, qK, qD⟩ := q; exact ⟨q0, q1, qP, va_K.moved (u := U) (U := U.calling g mk a) (Vm.Alike.refl U.vm) qK, qD⟩, va_recv hKc hPc (ci := 4) (q0 := 0) rfl rfl, fun U hU hW => ⟨rfl, by rw [hU], by rw [hU]; exact hPc, va_K.moved hW.alike hKc, hDc.weaken (fun _ _ _ _ => trivial)⟩⟩ rfl rfl hl.1 rfl (lv_room (Nat.le_of_ble_eq_true rfl)) dX4_open_42 ⟨show kc + 0 ≤ 0 from by omega, show ks + 0 ≤ 0 from by omega⟩) hS (fun q _ h => hFc q h) hFc (fun v20 u k18 n19 tS H1 locs ht hvm hw hB hz1 hk1 hS => ?_)
            obtain ⟨Y21, pt22, md23, q24⟩ := u
            obtain ⟨hP1, hK1, hD1⟩ := hB
            rw [ht] at hP1
            have hK1 := va_K.moved hvm.symm hK1
            try dsimp only at hw
            obtain ⟨hP, hD⟩ := va_join (wr := []) (w1 := [(mm, .inr (4, [.int (iI fl), .ref ta, .int (iI tz), .ref ka, .int (iI nn), .ref da, .ref ya, .int (iI pt22), .int (iI md23), .int (iI sx)])), (ta, .inl (cT, 4096, .inl (fun j => bI (t j)))), (ya, .inl (cY, 16400, .inl (fun j => iI (Y21 j))))]) hP hD [0, 1, 2] [] rfl rfl (by decide) (by decide) hk1 hFc hP1 hD1
            have hK := (hK.sub (tys' := []) [] rfl).app hK1
            generalize H1 = H at hP hS ⊢
            have hP : va_P (dC, dI) vwCl [(mm, .inr (4, [.int (iI fl), .ref ta, .int (iI tz), .ref ka, .int (iI nn), .ref da, .ref ya, .int (iI pt22), .int (iI md23), .int (iI sx)])), (ta, .inl (cT, 4096, .inl (fun j => bI (t j)))), (ya, .inl (cY, 16400, .inl (fun j => iI (Y21 j))))] H := hP
            have hD : va_D A [(mm, .inr (4, [.int (iI fl), .ref ta, .int (iI tz), .ref ka, .int (iI nn), .ref da, .ref ya, .int (iI pt22), .int (iI md23), .int (iI sx)])), (ta, .inl (cT, 4096, .inl (fun j => bI (t j)))), (ya, .inl (cY, 16400, .inl (fun j => iI (Y21 j))))] := hD
            have hK : va_K (dC, dI) vwCl [(cT, .byte), (cY, .int)] s := hK
            obtain ⟨rfl, hqv20, rfl, rfl⟩ := hw
            refine W.eq (g2 := F0 m 45 ls [.int (iI q24)]) rfl ?_
            refine li_if_ne (tgt := 0) hx hb (by omega) dX4_open_45 (by decide) (fun c25 => ?_) (fun c25 => ?_)
            · skip
              obtain ⟨-, V3, y1, y2, y3, y4⟩ := hqv20.resolve_left (fun h => absurd h.1 (by omega))
              exact ih pt22 md23 Y21 V3 (jj + 1) _ _ _ _ _ (by omega) (by omega) (by omega) (by rw [hC]; exact loopZ_go (by omega) (by omega) (by omega) y1) (y2) (fun j h1 h2 => (y4 j (by omega) h2).trans (hk j h1 h2)) (by omega) (hK.sub [0, 1] rfl) (hP.sub [0, 1, 2] rfl) (hD.sub [0, 1, 2] (by decide) rfl) hS (lv_sub hl [0, 1, 2, 3] rfl)
            · skip
              refine lv_iconst (v := iI 0) hx hb dX4_open_48 rfl ?_
              have hno := hqv20.resolve_right (fun h => absurd h.1 (by omega))
              subst hQ9
              have hP9 := hP.sub (ws' := [(mm, .inr (4, [.int (iI fl), .ref ta, .int (iI tz), .ref ka, .int (iI nn), .ref da, .ref ya, .int (iI pt22), .int (iI md23), .int (iI sx)])), (ta, .inl (cT, 4096, .inl (fun j => bI (t j)))), (ya, .inl (cY, 16400, .inl (fun j => iI (Y21 j))))]) [0, 1, 2] rfl
              have hD9 := hD.sub (ws' := [(mm, .inr (4, [.int (iI fl), .ref ta, .int (iI tz), .ref ka, .int (iI nn), .ref da, .ref ya, .int (iI pt22), .int (iI md23), .int (iI sx)])), (ta, .inl (cT, 4096, .inl (fun j => bI (t j)))), (ya, .inl (cY, 16400, .inl (fun j => iI (Y21 j))))]) [0, 1, 2] (by decide) rfl
              have hK9 := hK.sub (tys' := [(cT, .byte), (cY, .int)]) [0, 1] rfl
              exact mv_zret hx hb hr (zb_n (by omega)) hlocks (fun tS ht hW => ⟨⟨_, (Y21, pt22, md23, 0), rfl, ⟨rfl, Or.inl ⟨rfl, by rw [hC]; exact loopZ_no (by omega) (by omega) (by omega) hno.2⟩, by omega, by omega⟩, by rw [ht]; exact hP9, va_K.moved hW.alike hK9, hD9⟩, hS.F ht⟩) hS.2.2 dX4_open_49
  exact LP (5000) pt md Y Vs 0 _ _ _ _ _ (by omega) (by omega) (by omega) (by rw [Int.sub_zero]; rfl) (hEP) (fun _ _ _ => rfl) (by omega) (hK.sub [0, 1] rfl) (hP.sub [0, 1, 2] rfl) (hD.sub [0, 1, 2] (by decide) rfl) hS (lv_sub hl [0, 1, 2, 3] rfl)
