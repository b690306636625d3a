set_option maxHeartbeats 4000000 in
set_option maxRecDepth 100000 in
theorem c_H_lnum (l : Launch) (dC : Nat → ClassId) (dI : Nat → Nat → Nat) (sz : Nat) (h : Nat) (kd : Int) (cs : Int) (tg : Int) (op : Int) (sz1 : Int) (ct : Int) (b : Nat) (r : Nat) (cA : ClassId) (w : Nat) (t : Nat → Int) (z : Int) (L : List Int) (i : Int) (x : Int) (hok : okB w t z L) (hi : 0 ≤ i ∧ i ≤ x) (hx4 : 0 ≤ x ∧ x ≤ 4096) : mv_Met l yX1_decodeLongNumber wsX1_decodeLongNumber ({ frames := 1, cells := 0, slots := 0, locals := 40 }) (va_Pc [.ref h, .ref b, .int (iI i), .int (iI x)] (fun U => U.heap.size = sz ∧ va_P (dC, dI) vwCl [(h, .inr (1, [.int (iI kd), .int (iI cs), .int (iI tg), .int (iI op), .int (iI sz1), .int (iI ct)])), (b, .inr (0, [.ref r, .int (iI z)])), (r, .inl (cA, w, .inl (fun j => bI (t j))))] U.heap ∧ va_K (dC, dI) vwCl [(cA, .byte)] U ∧ va_D (fun _ => True) [(h, .inr (1, [.int (iI kd), .int (iI cs), .int (iI tg), .int (iI op), .int (iI sz1), .int (iI ct)])), (b, .inr (0, [.ref r, .int (iI z)])), (r, .inl (cA, w, .inl (fun j => bI (t j))))])) (mv_Q (fun (v : Option Value) (u : Int × Int) (k n : Nat) => match u with | (tg', q') => v = some (.int (iI q')) ∧ (lgn (gd L) i x = none ∧ q' = -1 ∨ lgn (gd L) i x = some (tg', q') ∧ i < q' ∧ q' ≤ x ∧ -1 ≤ tg' ∧ tg' ≤ 2147483647) ∧ k = 0 ∧ n = 0) (fun (u : Int × Int) (tS : State) => match u with | (tg', q') => va_P (dC, dI) vwCl [(h, .inr (1, [.int (iI kd), .int (iI cs), .int (iI tg'), .int (iI op), .int (iI sz1), .int (iI ct)])), (b, .inr (0, [.ref r, .int (iI z)])), (r, .inl (cA, w, .inl (fun j => bI (t j))))] tS.heap ∧ va_K (dC, dI) vwCl [(cA, .byte)] tS ∧ va_D (va_A [(h, .inr (1, [.int (iI kd), .int (iI cs), .int (iI tg), .int (iI op), .int (iI sz1), .int (iI ct)])), (b, .inr (0, [.ref r, .int (iI z)])), (r, .inl (cA, w, .inl (fun j => bI (t j))))] sz) [(h, .inr (1, [.int (iI kd), .int (iI cs), .int (iI tg'), .int (iI op), .int (iI sz1), .int (iI ct)])), (b, .inr (0, [.ref r, .int (iI z)])), (r, .inl (cA, w, .inl (fun j => bI (t j))))]) (va_A [(h, .inr (1, [.int (iI kd), .int (iI cs), .int (iI tg), .int (iI op), .int (iI sz1), .int (iI ct)])), (b, .inr (0, [.ref r, .int (iI z)])), (r, .inl (cA, w, .inl (fun j => bI (t j))))] sz)) (va_A [(h, .inr (1, [.int (iI kd), .int (iI cs), .int (iI tg), .int (iI op), .int (iI sz1), .int (iI ct)])), (b, .inr (0, [.ref r, .int (iI z)])), (r, .inl (cA, w, .inl (fun j => bI (t j))))] sz) := by
  refine mv_ofW (cc := cX1_decodeLongNumber) (maxL := 8) (ret := (some .int)) (by decide) rfl ?_
  intro p e s m args below meth c s₁ B hml hv
  obtain ⟨rfl, hsz, hP, hK, hD0⟩ := hv
  have hx := B.exec
  have hb := B.bytes
  have hr := B.returns
  have hT : ∀ w ∈ wT, w.before _ s = true := fun w h => atoms_spec (ws := wsX1_decodeLongNumber) B.pre w (List.mem_cons_of_mem _ h)
  have hown : s.vm.findClass RX1 = some m.cls := findClass_of_methodNamed B.named
  have hlocks := B.notSynchronized
  subst hsz
  have hD := hD0.self (sz := s.heap.size)
  generalize hAe : va_A [(h, .inr (1, [.int (iI kd), .int (iI cs), .int (iI tg), .int (iI op), .int (iI sz1), .int (iI ct)])), (b, .inr (0, [.ref r, .int (iI z)])), (r, .inl (cA, w, .inl (fun j => bI (t j))))] s.heap.size = A at hD ⊢
  have hA : ∀ q : Nat, s.heap.size ≤ q → A q := fun q h => by rw [← hAe]; exact Or.inr h
  have hS : va_S A s.heap s.heap [] := va_S.rf
  have hP : va_P (dC, dI) vwCl [(h, .inr (1, [.int (iI kd), .int (iI cs), .int (iI tg), .int (iI op), .int (iI sz1), .int (iI ct)])), (b, .inr (0, [.ref r, .int (iI z)])), (r, .inl (cA, w, .inl (fun j => bI (t j))))] s.heap := hP
  have hl := lv_entry ([.ref h, .ref b, .int (iI i), .int (iI x)]) (n := 8) (Nat.le_of_ble_eq_true rfl)
  rw [lg_entry_eq]
  generalize (lg_sl ([.ref h, .ref b, .int (iI i), .int (iI x)]) ++ List.replicate (8 - (lg_sl ([.ref h, .ref b, .int (iI i), .int (iI x)])).length) Slot.unset).toArray = ls at hl ⊢
  have hl : lv_has ls 8 [(0, .ref h), (1, .ref b), (2, .int (iI i)), (3, .int (iI x))] := hl
  obtain ⟨hw1, hw2, hw3, hw4, hw5, hw6⟩ := id hok
  have hg8 := gd_rng hok
  have hgi := hg8 i
  refine mv_nameQ (fun Q9 hQ9 => ?_)
  have LP : ∀ (fu : Nat) (a : Int) (j : Int) (H : Heap) (locs : List Loc) (ls : Array Slot) (kc ks : Nat), (x - j < (fu : Int)) → (i ≤ j ∧ j ≤ x) → (0 ≤ a ∧ a ≤ 300000000000) → (¬ gd L i % 128 = 0) → (lnum (gd L) (x - i).toNat i 0 = lnum (gd L) (x - j).toNat j a) → (kc = 0 ∧ ks = 0) → va_K (dC, dI) vwCl [(cA, .byte)] s → va_P (dC, dI) vwCl [(h, .inr (1, [.int (iI kd), .int (iI cs), .int (iI tg), .int (iI op), .int (iI sz1), .int (iI ct)])), (b, .inr (0, [.ref r, .int (iI z)])), (r, .inl (cA, w, .inl (fun j => bI (t j))))] H → va_D A [(h, .inr (1, [.int (iI kd), .int (iI cs), .int (iI tg), .int (iI op), .int (iI sz1), .int (iI ct)])), (b, .inr (0, [.ref r, .int (iI z)])), (r, .inl (cA, w, .inl (fun j => bI (t j))))] → va_S A s.heap H locs → lv_has ls 8 [(0, .ref h), (1, .ref b), (2, .int (iI i)), (3, .int (iI x)), (4, .long (lI a)), (6, .int (iI j))] → W p l e ({ frames := 1, cells := 0, slots := 0, locals := 40 }) s m ([.ref h, .ref b, .int (iI i), .int (iI x)] : List Value).toArray below meth c H locs kc ks Q9 (F0 m 19 ls []) := by
    intro fu
    induction fu with
    | zero =>
      intro a j H locs ls kc ks hfu hj ha hne hn hkc hK hP hD hS hl
      exfalso
      omega
    | succ fu ih =>
      intro a j H locs ls kc ks hfu hj ha hne hn hkc hK hP hD hS hl
      have hgj := hg8 j
      refine lv_iload hx hb dX1_decodeLongNumber_19 (lv_at hl 5 rfl) ?_
      refine lv_iload_n hx hb dX1_decodeLongNumber_21 rfl (lv_at hl 3 rfl) ?_
      refine li_icmp_ge (tgt := 114) hx hb (by omega) (by omega) dX1_decodeLongNumber_22 (by decide) (fun c1 => ?_) (fun c1 => ?_)
      · skip
        refine lv_iconst (v := iI (-1)) hx hb dX1_decodeLongNumber_114 rfl ?_
        subst hQ9
        have hP9 := hP.sub (ws' := [(h, .inr (1, [.int (iI kd), .int (iI cs), .int (iI tg), .int (iI op), .int (iI sz1), .int (iI ct)])), (b, .inr (0, [.ref r, .int (iI z)])), (r, .inl (cA, w, .inl (fun j => bI (t j))))]) [0, 1, 2] rfl
        have hD9 := hD.sub (ws' := [(h, .inr (1, [.int (iI kd), .int (iI cs), .int (iI tg), .int (iI op), .int (iI sz1), .int (iI ct)])), (b, .inr (0, [.ref r, .int (iI z)])), (r, .inl (cA, w, .inl (fun j => bI (t j))))]) [0, 1, 2] (by decide) rfl
        have hK9 := hK.sub (tys' := [(cA, .byte)]) [0] rfl
        exact mv_iret hx hb hr hlocks (fun tS ht hW => ⟨⟨_, (tg, (-1)), rfl, ⟨rfl, Or.inl ⟨lgn_no hne (by rw [hn]; exact lnum_no c1), rfl⟩, by omega, by omega⟩, by rw [ht]; exact hP9, va_K.moved hW.alike hK9, hD9⟩, hS.F ht⟩) hS.2.2 dX1_decodeLongNumber_115
      · skip
        refine lv_aload_n hx hb dX1_decodeLongNumber_25 rfl (lv_at hl 1 rfl) ?_
        refine lv_iload hx hb dX1_decodeLongNumber_26 (lv_at hl 5 rfl) ?_
        have hPc := hP.sub (ws' := [(b, .inr (0, [.ref r, .int (iI z)])), (r, .inl (cA, w, .inl (fun j => bI (t j))))]) [1, 2] rfl
        have hDc := hD.sub (ws' := [(b, .inr (0, [.ref r, .int (iI z)])), (r, .inl (cA, w, .inl (fun j => bI (t j))))]) [1, 2] (by decide) rfl
        have hKc := hK.sub (tys' := [(cA, .byte)]) [0] rfl
        have hFc := va_free (wc := [(b, .inr (0, [.ref r, .int (iI z)])), (r, .inl (cA, w, .inl (fun j => bI (t j))))]) hD hS hA [1, 2] rfl
        refine mv_call (mv_runV (As := [.int (iI j)]) (rest := []) ⟨hx, hb, hml, hown, hT⟩ (c_B_at l dC dI H.size b r cA w t z L j (hok) (by omega)) (cwV 1 hT (gV wd321 wd322 wd323 wd27 wd324) rfl rfl rfl (by decide +kernel) ⟨show 0 + 1 ≤ 1 from by omega, show 8 + (2 + 11) + 0 ≤ 40 from by omega⟩) ⟨fun a U g mk q => by obtain ⟨q0, q1, qP, qK, qD⟩ := q; exact ⟨q0, q1, qP, va_K.moved (u := U) (U := U.calling g mk a) (Vm.Alike.refl U.vm) qK, qD⟩, va_recv hKc hPc (ci := 0) (q0 := 0) rfl rfl, fun U hU hW => ⟨rfl, by rw [hU], by rw [hU]; exact hPc, va_K.moved hW.alike hKc, hDc.weaken (fun _ _ _ _ => trivial)⟩⟩ rfl rfl hl.1 rfl (lv_room (Nat.le_of_ble_eq_true rfl)) dX1_decodeLongNumber_28 ⟨show kc + 0 ≤ 0 from by omega, show ks + 0 ≤ 0 from by omega⟩) hS (fun q _ h => hFc q h) hFc (fun v4 u k2 n3 tS H1 locs ht hvm hw hB hz1 hk1 hS => ?_)
        obtain ⟨hP1, hK1, hD1⟩ := hB
        rw [ht] at hP1
        have hK1 := va_K.moved hvm.symm hK1
        try dsimp only at hw
        obtain ⟨hP, hD⟩ := va_join (wr := [(h, .inr (1, [.int (iI kd), .int (iI cs), .int (iI tg), .int (iI op), .int (iI sz1), .int (iI ct)]))]) (w1 := [(b, .inr (0, [.ref r, .int (iI z)])), (r, .inl (cA, w, .inl (fun j => bI (t j))))]) hP hD [1, 2] [0] rfl rfl (by decide) (by decide) hk1 hFc hP1 hD1
        have hK := (hK.sub (tys' := []) [] rfl).app hK1
        generalize H1 = H at hP hS ⊢
        have hP : va_P (dC, dI) vwCl [(h, .inr (1, [.int (iI kd), .int (iI cs), .int (iI tg), .int (iI op), .int (iI sz1), .int (iI ct)])), (b, .inr (0, [.ref r, .int (iI z)])), (r, .inl (cA, w, .inl (fun j => bI (t j))))] H := hP
        have hD : va_D A [(h, .inr (1, [.int (iI kd), .int (iI cs), .int (iI tg), .int (iI op), .int (iI sz1), .int (iI ct)])), (b, .inr (0, [.ref r, .int (iI z)])), (r, .inl (cA, w, .inl (fun j => bI (t j))))] := hD
        have hK : va_K (dC, dI) vwCl [(cA, .byte)] s := hK
        obtain ⟨rfl, rfl, rfl⟩ := hw
        refine W.eq (g2 := F0 m 31 ls [.int (iI (gd L j))]) rfl ?_
        refine li_nm (fun z5 ez5 => ?_)
        refine lv_istore (lv' := [(7, .int (iI z5)), (0, .ref h), (1, .ref b), (2, .int (iI i)), (3, .int (iI x)), (4, .long (lI a)), (6, .int (iI j))]) hx hb dX1_decodeLongNumber_31 hl (by decide) rfl (fun ls hl => ?_)
        refine lv_lload hx hb dX1_decodeLongNumber_33 (lv_at hl 5 rfl) ?_
        refine lv_ldc2 (v := lI 2147483647) hx hb hown (hT _ wd329) dX1_decodeLongNumber_35 ?_
        refine li_lcmp_le (tgt := 47) hx hb (by omega) (by omega) dX1_decodeLongNumber_38 dX1_decodeLongNumber_39 (by decide) (fun c6 => ?_) (fun c6 => ?_)
        · skip
          refine lv_lload hx hb dX1_decodeLongNumber_47 (lv_at hl 5 rfl) ?_
          refine lv_ldc2 (v := lI 128) hx hb hown (hT _ wd330) dX1_decodeLongNumber_49 ?_
          refine li_lmul hx hb dX1_decodeLongNumber_52 ?_
          refine lv_iload hx hb dX1_decodeLongNumber_53 (lv_at hl 0 rfl) ?_
          refine lv_bipush (v := iI 127) hx hb dX1_decodeLongNumber_55 (by decide +kernel) ?_
          refine li_iand127 hx hb dX1_decodeLongNumber_57 ?_
          refine li_i2l hx hb (by omega) dX1_decodeLongNumber_58 ?_
          refine li_ladd hx hb dX1_decodeLongNumber_59 ?_
          refine li_nml (fun z7 ez7 => ?_)
          refine lv_lstore (lv' := [(4, .long (lI z7)), (7, .int (iI z5)), (0, .ref h), (1, .ref b), (2, .int (iI i)), (3, .int (iI x)), (6, .int (iI j))]) hx hb dX1_decodeLongNumber_60 hl (by decide) rfl (fun ls hl => ?_)
          refine lv_iload hx hb dX1_decodeLongNumber_62 (lv_at hl 1 rfl) ?_
          refine lv_sipush (v := iI 128) hx hb dX1_decodeLongNumber_64 (by decide +kernel) ?_
          refine li_icmp_ge (tgt := 108) hx hb (by omega) (by omega) dX1_decodeLongNumber_67 (by decide) (fun c8 => ?_) (fun c8 => ?_)
          · skip
            obtain ⟨z9, ez9⟩ : ∃ y : Int, y = j + 1 := ⟨_, rfl⟩
            refine lv_iinc (v := iI z9) (lv' := [(6, .int (iI z9)), (4, .long (lI z7)), (7, .int (iI z5)), (0, .ref h), (1, .ref b), (2, .int (iI i)), (3, .int (iI x))]) hx hb dX1_decodeLongNumber_108 hl (k := 6) rfl (by rw [ez9]; exact iI_add _ _) (by decide) rfl (fun ls hl => ?_)
            refine lv_goto (tgt := 19) hx hb dX1_decodeLongNumber_111 (by decide) ?_
            have z9_eq : z9 = j + 1 := by omega
            exact ih z7 z9 _ _ _ _ _ (by omega) (by omega) (by omega) (hne) (by rw [hn, z9_eq]; exact lnum_go (by omega) (by omega) (by first | (rw [stp_hi (by omega)]; done) | (rw [stp_hi (by omega)]; omega) | (rw [stp_lo (by omega)]; omega))) (by omega) (hK.sub [0] rfl) (hP.sub [0, 1, 2] rfl) (hD.sub [0, 1, 2] (by decide) rfl) hS (lv_sub hl [3, 4, 5, 6, 1, 0] rfl)
          · skip
            refine lv_aload_n hx hb dX1_decodeLongNumber_70 rfl (lv_at hl 2 rfl) ?_
            refine lv_lload hx hb dX1_decodeLongNumber_71 (lv_at hl 0 rfl) ?_
            refine lv_ldc2 (v := lI 2147483647) hx hb hown (hT _ wd329) dX1_decodeLongNumber_73 ?_
            refine li_lcmp_le (tgt := 84) hx hb (by omega) (by omega) dX1_decodeLongNumber_76 dX1_decodeLongNumber_77 (by decide) (fun c10 => ?_) (fun c10 => ?_)
            · skip
              refine lv_lload hx hb dX1_decodeLongNumber_84 (lv_at hl 0 rfl) ?_
              refine li_l2i hx hb dX1_decodeLongNumber_86 ?_
              refine va_put (D := (dC, dI)) (ci := 1) (v := .int (iI z7)) (ty := .int) (C := RX1) (T := TX1) (N := 6) hx hb hT inX1 tyX1 tyX1_ok nX1 hown hK hP hD hS 0 rfl rfl 2 (by decide) (hT _ wd82) (fun _ h9 => h9) rfl (by decide +kernel) rfl rfl (Nat.le_of_ble_eq_true rfl) dX1_decodeLongNumber_87 (fun H locs hP hD hS => ?_)
              have hP : va_P (dC, dI) vwCl [(h, .inr (1, [.int (iI kd), .int (iI cs), .int (iI z7), .int (iI op), .int (iI sz1), .int (iI ct)])), (b, .inr (0, [.ref r, .int (iI z)])), (r, .inl (cA, w, .inl (fun j => bI (t j))))] H := hP
              have hD : va_D A [(h, .inr (1, [.int (iI kd), .int (iI cs), .int (iI z7), .int (iI op), .int (iI sz1), .int (iI ct)])), (b, .inr (0, [.ref r, .int (iI z)])), (r, .inl (cA, w, .inl (fun j => bI (t j))))] := hD
              refine lv_lload hx hb dX1_decodeLongNumber_90 (lv_at hl 0 rfl) ?_
              refine lv_ldc2 (v := lI 31) hx hb hown (hT _ wd331) dX1_decodeLongNumber_92 ?_
              refine li_lcmp_ge (tgt := 103) hx hb (by omega) (by omega) dX1_decodeLongNumber_95 dX1_decodeLongNumber_96 (by decide) (fun c11 => ?_) (fun c11 => ?_)
              · skip
                refine lv_iload hx hb dX1_decodeLongNumber_103 (lv_at hl 6 rfl) ?_
                refine lv_iconst (v := iI 1) hx hb dX1_decodeLongNumber_105 rfl ?_
                refine li_iadd hx hb dX1_decodeLongNumber_106 ?_
                subst hQ9
                have hP9 := hP.sub (ws' := [(h, .inr (1, [.int (iI kd), .int (iI cs), .int (iI z7), .int (iI op), .int (iI sz1), .int (iI ct)])), (b, .inr (0, [.ref r, .int (iI z)])), (r, .inl (cA, w, .inl (fun j => bI (t j))))]) [0, 1, 2] rfl
                have hD9 := hD.sub (ws' := [(h, .inr (1, [.int (iI kd), .int (iI cs), .int (iI z7), .int (iI op), .int (iI sz1), .int (iI ct)])), (b, .inr (0, [.ref r, .int (iI z)])), (r, .inl (cA, w, .inl (fun j => bI (t j))))]) [0, 1, 2] (by decide) rfl
                have hK9 := hK.sub (tys' := [(cA, .byte)]) [0] rfl
                exact mv_iret hx hb hr hlocks (fun tS ht hW => ⟨⟨_, (z7, (j + 1)), rfl, ⟨rfl, Or.inr ⟨lgn_hi (a := z7) hne (by rw [hn]; exact lnum_end (by omega) (by omega) (by first | (rw [stp_hi (by omega)]; done) | (rw [stp_hi (by omega)]; omega) | (rw [stp_lo (by omega)]; omega))) (by omega) (by first | (rw [if_pos (by omega)]; done) | (rw [if_neg (by omega)]; done)), by omega, by omega, by omega, by omega⟩, by omega, by omega⟩, by rw [ht]; exact hP9, va_K.moved hW.alike hK9, hD9⟩, hS.F ht⟩) hS.2.2 dX1_decodeLongNumber_107
              · skip
                refine lv_iconst (v := iI (-1)) hx hb dX1_decodeLongNumber_99 rfl ?_
                refine lv_goto (tgt := 107) hx hb dX1_decodeLongNumber_100 (by decide) ?_
                subst hQ9
                have hP9 := hP.sub (ws' := [(h, .inr (1, [.int (iI kd), .int (iI cs), .int (iI z7), .int (iI op), .int (iI sz1), .int (iI ct)])), (b, .inr (0, [.ref r, .int (iI z)])), (r, .inl (cA, w, .inl (fun j => bI (t j))))]) [0, 1, 2] rfl
                have hD9 := hD.sub (ws' := [(h, .inr (1, [.int (iI kd), .int (iI cs), .int (iI z7), .int (iI op), .int (iI sz1), .int (iI ct)])), (b, .inr (0, [.ref r, .int (iI z)])), (r, .inl (cA, w, .inl (fun j => bI (t j))))]) [0, 1, 2] (by decide) rfl
                have hK9 := hK.sub (tys' := [(cA, .byte)]) [0] rfl
                exact mv_iret hx hb hr hlocks (fun tS ht hW => ⟨⟨_, (z7, (-1)), rfl, ⟨rfl, Or.inl ⟨lgn_lo (a := z7) hne (by rw [hn]; exact lnum_end (by omega) (by omega) (by first | (rw [stp_hi (by omega)]; done) | (rw [stp_hi (by omega)]; omega) | (rw [stp_lo (by omega)]; omega))) (by omega), rfl⟩, by omega, by omega⟩, by rw [ht]; exact hP9, va_K.moved hW.alike hK9, hD9⟩, hS.F ht⟩) hS.2.2 dX1_decodeLongNumber_107
            · skip
              refine lv_iconst (v := iI (-1)) hx hb dX1_decodeLongNumber_80 rfl ?_
              refine lv_goto (tgt := 87) hx hb dX1_decodeLongNumber_81 (by decide) ?_
              refine va_put (D := (dC, dI)) (ci := 1) (v := .int (iI (-1))) (ty := .int) (C := RX1) (T := TX1) (N := 6) hx hb hT inX1 tyX1 tyX1_ok nX1 hown hK hP hD hS 0 rfl rfl 2 (by decide) (hT _ wd82) (fun _ h9 => h9) rfl (by decide +kernel) rfl rfl (Nat.le_of_ble_eq_true rfl) dX1_decodeLongNumber_87 (fun H locs hP hD hS => ?_)
              have hP : va_P (dC, dI) vwCl [(h, .inr (1, [.int (iI kd), .int (iI cs), .int (iI (-1)), .int (iI op), .int (iI sz1), .int (iI ct)])), (b, .inr (0, [.ref r, .int (iI z)])), (r, .inl (cA, w, .inl (fun j => bI (t j))))] H := hP
              have hD : va_D A [(h, .inr (1, [.int (iI kd), .int (iI cs), .int (iI (-1)), .int (iI op), .int (iI sz1), .int (iI ct)])), (b, .inr (0, [.ref r, .int (iI z)])), (r, .inl (cA, w, .inl (fun j => bI (t j))))] := hD
              refine lv_lload hx hb dX1_decodeLongNumber_90 (lv_at hl 0 rfl) ?_
              refine lv_ldc2 (v := lI 31) hx hb hown (hT _ wd331) dX1_decodeLongNumber_92 ?_
              refine li_lcmp_ge (tgt := 103) hx hb (by omega) (by omega) dX1_decodeLongNumber_95 dX1_decodeLongNumber_96 (by decide) (fun c12 => ?_) (fun c12 => ?_)
              · skip
                refine lv_iload hx hb dX1_decodeLongNumber_103 (lv_at hl 6 rfl) ?_
                refine lv_iconst (v := iI 1) hx hb dX1_decodeLongNumber_105 rfl ?_
                refine li_iadd hx hb dX1_decodeLongNumber_106 ?_
                subst hQ9
                have hP9 := hP.sub (ws' := [(h, .inr (1, [.int (iI kd), .int (iI cs), .int (iI (-1)), .int (iI op), .int (iI sz1), .int (iI ct)])), (b, .inr (0, [.ref r, .int (iI z)])), (r, .inl (cA, w, .inl (fun j => bI (t j))))]) [0, 1, 2] rfl
                have hD9 := hD.sub (ws' := [(h, .inr (1, [.int (iI kd), .int (iI cs), .int (iI (-1)), .int (iI op), .int (iI sz1), .int (iI ct)])), (b, .inr (0, [.ref r, .int (iI z)])), (r, .inl (cA, w, .inl (fun j => bI (t j))))]) [0, 1, 2] (by decide) rfl
                have hK9 := hK.sub (tys' := [(cA, .byte)]) [0] rfl
                exact mv_iret hx hb hr hlocks (fun tS ht hW => ⟨⟨_, ((-1), (j + 1)), rfl, ⟨rfl, Or.inr ⟨lgn_hi (a := z7) hne (by rw [hn]; exact lnum_end (by omega) (by omega) (by first | (rw [stp_hi (by omega)]; done) | (rw [stp_hi (by omega)]; omega) | (rw [stp_lo (by omega)]; omega))) (by omega) (by first | (rw [if_pos (by omega)]; done) | (rw [if_neg (by omega)]; done)), by omega, by omega, by omega, by omega⟩, by omega, by omega⟩, by rw [ht]; exact hP9, va_K.moved hW.alike hK9, hD9⟩, hS.F ht⟩) hS.2.2 dX1_decodeLongNumber_107
              · skip
                refine lv_iconst (v := iI (-1)) hx hb dX1_decodeLongNumber_99 rfl ?_
                refine lv_goto (tgt := 107) hx hb dX1_decodeLongNumber_100 (by decide) ?_
                subst hQ9
                have hP9 := hP.sub (ws' := [(h, .inr (1, [.int (iI kd), .int (iI cs), .int (iI (-1)), .int (iI op), .int (iI sz1), .int (iI ct)])), (b, .inr (0, [.ref r, .int (iI z)])), (r, .inl (cA, w, .inl (fun j => bI (t j))))]) [0, 1, 2] rfl
                have hD9 := hD.sub (ws' := [(h, .inr (1, [.int (iI kd), .int (iI cs), .int (iI (-1)), .int (iI op), .int (iI sz1), .int (iI ct)])), (b, .inr (0, [.ref r, .int (iI z)])), (r, .inl (cA, w, .inl (fun j => bI (t j))))]) [0, 1, 2] (by decide) rfl
                have hK9 := hK.sub (tys' := [(cA, .byte)]) [0] rfl
                exact mv_iret hx hb hr hlocks (fun tS ht hW => ⟨⟨_, ((-1), (-1)), rfl, ⟨rfl, Or.inl ⟨lgn_lo (a := z7) hne (by rw [hn]; exact lnum_end (by omega) (by omega) (by first | (rw [stp_hi (by omega)]; done) | (rw [stp_hi (by omega)]; omega) | (rw [stp_lo (by omega)]; omega))) (by omega), rfl⟩, by omega, by omega⟩, by rw [ht]; exact hP9, va_K.moved hW.alike hK9, hD9⟩, hS.F ht⟩) hS.2.2 dX1_decodeLongNumber_107
        · skip
          refine lv_lload hx hb dX1_decodeLongNumber_42 (lv_at hl 5 rfl) ?_
          refine lv_goto (tgt := 60) hx hb dX1_decodeLongNumber_44 (by decide) ?_
          refine lv_lstore (lv' := [(4, .long (lI a)), (7, .int (iI z5)), (0, .ref h), (1, .ref b), (2, .int (iI i)), (3, .int (iI x)), (6, .int (iI j))]) hx hb dX1_decodeLongNumber_60 hl (by decide) rfl (fun ls hl => ?_)
          refine lv_iload hx hb dX1_decodeLongNumber_62 (lv_at hl 1 rfl) ?_
          refine lv_sipush (v := iI 128) hx hb dX1_decodeLongNumber_64 (by decide +kernel) ?_
          refine li_icmp_ge (tgt := 108) hx hb (by omega) (by omega) dX1_decodeLongNumber_67 (by decide) (fun c13 => ?_) (fun c13 => ?_)
          · skip
            obtain ⟨z14, ez14⟩ : ∃ y : Int, y = j + 1 := ⟨_, rfl⟩
            refine lv_iinc (v := iI z14) (lv' := [(6, .int (iI z14)), (4, .long (lI a)), (7, .int (iI z5)), (0, .ref h), (1, .ref b), (2, .int (iI i)), (3, .int (iI x))]) hx hb dX1_decodeLongNumber_108 hl (k := 6) rfl (by rw [ez14]; exact iI_add _ _) (by decide) rfl (fun ls hl => ?_)
            refine lv_goto (tgt := 19) hx hb dX1_decodeLongNumber_111 (by decide) ?_
            have z14_eq : z14 = j + 1 := by omega
            exact ih a z14 _ _ _ _ _ (by omega) (by omega) (by omega) (hne) (by rw [hn, z14_eq]; exact lnum_go (by omega) (by omega) (by first | (rw [stp_hi (by omega)]; done) | (rw [stp_hi (by omega)]; omega) | (rw [stp_lo (by omega)]; omega))) (by omega) (hK.sub [0] rfl) (hP.sub [0, 1, 2] rfl) (hD.sub [0, 1, 2] (by decide) rfl) hS (lv_sub hl [3, 4, 5, 6, 1, 0] rfl)
          · skip
            refine lv_aload_n hx hb dX1_decodeLongNumber_70 rfl (lv_at hl 2 rfl) ?_
            refine lv_lload hx hb dX1_decodeLongNumber_71 (lv_at hl 0 rfl) ?_
            refine lv_ldc2 (v := lI 2147483647) hx hb hown (hT _ wd329) dX1_decodeLongNumber_73 ?_
            refine li_lcmp_le (tgt := 84) hx hb (by omega) (by omega) dX1_decodeLongNumber_76 dX1_decodeLongNumber_77 (by decide) (fun c15 => ?_) (fun c15 => ?_)
            · skip
              refine lv_lload hx hb dX1_decodeLongNumber_84 (lv_at hl 0 rfl) ?_
              refine li_l2i hx hb dX1_decodeLongNumber_86 ?_
              refine va_put (D := (dC, dI)) (ci := 1) (v := .int (iI a)) (ty := .int) (C := RX1) (T := TX1) (N := 6) hx hb hT inX1 tyX1 tyX1_ok nX1 hown hK hP hD hS 0 rfl rfl 2 (by decide) (hT _ wd82) (fun _ h9 => h9) rfl (by decide +kernel) rfl rfl (Nat.le_of_ble_eq_true rfl) dX1_decodeLongNumber_87 (fun H locs hP hD hS => ?_)
              have hP : va_P (dC, dI) vwCl [(h, .inr (1, [.int (iI kd), .int (iI cs), .int (iI a), .int (iI op), .int (iI sz1), .int (iI ct)])), (b, .inr (0, [.ref r, .int (iI z)])), (r, .inl (cA, w, .inl (fun j => bI (t j))))] H := hP
              have hD : va_D A [(h, .inr (1, [.int (iI kd), .int (iI cs), .int (iI a), .int (iI op), .int (iI sz1), .int (iI ct)])), (b, .inr (0, [.ref r, .int (iI z)])), (r, .inl (cA, w, .inl (fun j => bI (t j))))] := hD
              refine lv_lload hx hb dX1_decodeLongNumber_90 (lv_at hl 0 rfl) ?_
              refine lv_ldc2 (v := lI 31) hx hb hown (hT _ wd331) dX1_decodeLongNumber_92 ?_
              refine li_lcmp_ge (tgt := 103) hx hb (by omega) (by omega) dX1_decodeLongNumber_95 dX1_decodeLongNumber_96 (by decide) (fun c16 => ?_) (fun c16 => ?_)
              · skip
                refine lv_iload hx hb dX1_decodeLongNumber_103 (lv_at hl 6 rfl) ?_
                refine lv_iconst (v := iI 1) hx hb dX1_decodeLongNumber_105 rfl ?_
                refine li_iadd hx hb dX1_decodeLongNumber_106 ?_
                subst hQ9
                have hP9 := hP.sub (ws' := [(h, .inr (1, [.int (iI kd), .int (iI cs), .int (iI a), .int (iI op), .int (iI sz1), .int (iI ct)])), (b, .inr (0, [.ref r, .int (iI z)])), (r, .inl (cA, w, .inl (fun j => bI (t j))))]) [0, 1, 2] rfl
                have hD9 := hD.sub (ws' := [(h, .inr (1, [.int (iI kd), .int (iI cs), .int (iI a), .int (iI op), .int (iI sz1), .int (iI ct)])), (b, .inr (0, [.ref r, .int (iI z)])), (r, .inl (cA, w, .inl (fun j => bI (t j))))]) [0, 1, 2] (by decide) rfl
                have hK9 := hK.sub (tys' := [(cA, .byte)]) [0] rfl
                exact mv_iret hx hb hr hlocks (fun tS ht hW => ⟨⟨_, (a, (j + 1)), rfl, ⟨rfl, Or.inr ⟨lgn_hi (a := a) hne (by rw [hn]; exact lnum_end (by omega) (by omega) (by first | (rw [stp_hi (by omega)]; done) | (rw [stp_hi (by omega)]; omega) | (rw [stp_lo (by omega)]; omega))) (by omega) (by first | (rw [if_pos (by omega)]; done) | (rw [if_neg (by omega)]; done)), by omega, by omega, by omega, by omega⟩, by omega, by omega⟩, by rw [ht]; exact hP9, va_K.moved hW.alike hK9, hD9⟩, hS.F ht⟩) hS.2.2 dX1_decodeLongNumber_107
              · skip
                refine lv_iconst (v := iI (-1)) hx hb dX1_decodeLongNumber_99 rfl ?_
                refine lv_goto (tgt := 107) hx hb dX1_decodeLongNumber_100 (by decide) ?_
                subst hQ9
                have hP9 := hP.sub (ws' := [(h, .inr (1, [.int (iI kd), .int (iI cs), .int (iI a), .int (iI op), .int (iI sz1), .int (iI ct)])), (b, .inr (0, [.ref r, .int (iI z)])), (r, .inl (cA, w, .inl (fun j => bI (t j))))]) [0, 1, 2] rfl
                have hD9 := hD.sub (ws' := [(h, .inr (1, [.int (iI kd), .int (iI cs), .int (iI a), .int (iI op), .int (iI sz1), .int (iI ct)])), (b, .inr (0, [.ref r, .int (iI z)])), (r, .inl (cA, w, .inl (fun j => bI (t j))))]) [0, 1, 2] (by decide) rfl
                have hK9 := hK.sub (tys' := [(cA, .byte)]) [0] rfl
                exact mv_iret hx hb hr hlocks (fun tS ht hW => ⟨⟨_, (a, (-1)), rfl, ⟨rfl, Or.inl ⟨lgn_lo (a := a) hne (by rw [hn]; exact lnum_end (by omega) (by omega) (by first | (rw [stp_hi (by omega)]; done) | (rw [stp_hi (by omega)]; omega) | (rw [stp_lo (by omega)]; omega))) (by omega), rfl⟩, by omega, by omega⟩, by rw [ht]; exact hP9, va_K.moved hW.alike hK9, hD9⟩, hS.F ht⟩) hS.2.2 dX1_decodeLongNumber_107
            · skip
              refine lv_iconst (v := iI (-1)) hx hb dX1_decodeLongNumber_80 rfl ?_
              refine lv_goto (tgt := 87) hx hb dX1_decodeLongNumber_81 (by decide) ?_
              refine va_put (D := (dC, dI)) (ci := 1) (v := .int (iI (-1))) (ty := .int) (C := RX1) (T := TX1) (N := 6) hx hb hT inX1 tyX1 tyX1_ok nX1 hown hK hP hD hS 0 rfl rfl 2 (by decide) (hT _ wd82) (fun _ h9 => h9) rfl (by decide +kernel) rfl rfl (Nat.le_of_ble_eq_true rfl) dX1_decodeLongNumber_87 (fun H locs hP hD hS => ?_)
              have hP : va_P (dC, dI) vwCl [(h, .inr (1, [.int (iI kd), .int (iI cs), .int (iI (-1)), .int (iI op), .int (iI sz1), .int (iI ct)])), (b, .inr (0, [.ref r, .int (iI z)])), (r, .inl (cA, w, .inl (fun j => bI (t j))))] H := hP
              have hD : va_D A [(h, .inr (1, [.int (iI kd), .int (iI cs), .int (iI (-1)), .int (iI op), .int (iI sz1), .int (iI ct)])), (b, .inr (0, [.ref r, .int (iI z)])), (r, .inl (cA, w, .inl (fun j => bI (t j))))] := hD
              refine lv_lload hx hb dX1_decodeLongNumber_90 (lv_at hl 0 rfl) ?_
              refine lv_ldc2 (v := lI 31) hx hb hown (hT _ wd331) dX1_decodeLongNumber_92 ?_
              refine li_lcmp_ge (tgt := 103) hx hb (by omega) (by omega) dX1_decodeLongNumber_95 dX1_decodeLongNumber_96 (by decide) (fun c17 => ?_) (fun c17 => ?_)
              · skip
                refine lv_iload hx hb dX1_decodeLongNumber_103 (lv_at hl 6 rfl) ?_
                refine lv_iconst (v := iI 1) hx hb dX1_decodeLongNumber_105 rfl ?_
                refine li_iadd hx hb dX1_decodeLongNumber_106 ?_
                subst hQ9
                have hP9 := hP.sub (ws' := [(h, .inr (1, [.int (iI kd), .int (iI cs), .int (iI (-1)), .int (iI op), .int (iI sz1), .int (iI ct)])), (b, .inr (0, [.ref r, .int (iI z)])), (r, .inl (cA, w, .inl (fun j => bI (t j))))]) [0, 1, 2] rfl
                have hD9 := hD.sub (ws' := [(h, .inr (1, [.int (iI kd), .int (iI cs), .int (iI (-1)), .int (iI op), .int (iI sz1), .int (iI ct)])), (b, .inr (0, [.ref r, .int (iI z)])), (r, .inl (cA, w, .inl (fun j => bI (t j))))]) [0, 1, 2] (by decide) rfl
                have hK9 := hK.sub (tys' := [(cA, .byte)]) [0] rfl
                exact mv_iret hx hb hr hlocks (fun tS ht hW => ⟨⟨_, ((-1), (j + 1)), rfl, ⟨rfl, Or.inr ⟨lgn_hi (a := a) hne (by rw [hn]; exact lnum_end (by omega) (by omega) (by first | (rw [stp_hi (by omega)]; done) | (rw [stp_hi (by omega)]; omega) | (rw [stp_lo (by omega)]; omega))) (by omega) (by first | (rw [if_pos (by omega)]; done) | (rw [if_neg (by omega)]; done)), by omega, by omega, by omega, by omega⟩, by omega, by omega⟩, by rw [ht]; exact hP9, va_K.moved hW.alike hK9, hD9⟩, hS.F ht⟩) hS.2.2 dX1_decodeLongNumber_107
              · skip
                refine lv_iconst (v := iI (-1)) hx hb dX1_decodeLongNumber_99 rfl ?_
                refine lv_goto (tgt := 107) hx hb dX1_decodeLongNumber_100 (by decide) ?_
                subst hQ9
                have hP9 := hP.sub (ws' := [(h, .inr (1, [.int (iI kd), .int (iI cs), .int (iI (-1)), .int (iI op), .int (iI sz1), .int (iI ct)])), (b, .inr (0, [.ref r, .int (iI z)])), (r, .inl (cA, w, .inl (fun j => bI (t j))))]) [0, 1, 2] rfl
                have hD9 := hD.sub (ws' := [(h, .inr (1, [.int (iI kd), .int (iI cs), .int (iI (-1)), .int (iI op), .int (iI sz1), .int (iI ct)])), (b, .inr (0, [.ref r, .int (iI z)])), (r, .inl (cA, w, .inl (fun j => bI (t j))))]) [0, 1, 2] (by decide) rfl
                have hK9 := hK.sub (tys' := [(cA, .byte)]) [0] rfl
                exact mv_iret hx hb hr hlocks (fun tS ht hW => ⟨⟨_, ((-1), (-1)), rfl, ⟨rfl, Or.inl ⟨lgn_lo (a := a) hne (by rw [hn]; exact lnum_end (by omega) (by omega) (by first | (rw [stp_hi (by omega)]; done) | (rw [stp_hi (by omega)]; omega) | (rw [stp_lo (by omega)]; omega))) (by omega), rfl⟩, by omega, by omega⟩, by rw [ht]; exact hP9, va_K.moved hW.alike hK9, hD9⟩, hS.F ht⟩) hS.2.2 dX1_decodeLongNumber_107
  refine lv_aload_n hx hb dX1_decodeLongNumber_0 rfl (lv_at hl 1 rfl) ?_
  refine lv_iload_n hx hb dX1_decodeLongNumber_1 rfl (lv_at hl 2 rfl) ?_
  have hPc := hP.sub (ws' := [(b, .inr (0, [.ref r, .int (iI z)])), (r, .inl (cA, w, .inl (fun j => bI (t j))))]) [1, 2] rfl
  have hDc := hD.sub (ws' := [(b, .inr (0, [.ref r, .int (iI z)])), (r, .inl (cA, w, .inl (fun j => bI (t j))))]) [1, 2] (by decide) rfl
  have hKc := hK.sub (tys' := [(cA, .byte)]) [0] rfl
  have hFc := va_free (wc := [(b, .inr (0, [.ref r, .int (iI z)])), (r, .inl (cA, w, .inl (fun j => bI (t j))))]) hD hS hA [1, 2] rfl
  refine mv_call (mv_runV (As := [.int (iI i)]) (rest := []) ⟨hx, hb, hml, hown, hT⟩ (c_B_at l dC dI s.heap.size b r cA w t z L i (hok) (by omega)) (cwV 1 hT (gV wd321 wd322 wd323 wd27 wd324) rfl rfl rfl (by decide +kernel) ⟨show 0 + 1 ≤ 1 from by omega, show 8 + (2 + 11) + 0 ≤ 40 from by omega⟩) ⟨fun a U g mk q => by obtain ⟨q0, q1, qP, qK, qD⟩ := q; exact ⟨q0, q1, qP, va_K.moved (u := U) (U := U.calling g mk a) (Vm.Alike.refl U.vm) qK, qD⟩, va_recv hKc hPc (ci := 0) (q0 := 0) rfl rfl, fun U hU hW => ⟨rfl, by rw [hU], by rw [hU]; exact hPc, va_K.moved hW.alike hKc, hDc.weaken (fun _ _ _ _ => trivial)⟩⟩ rfl rfl hl.1 rfl (lv_room (Nat.le_of_ble_eq_true rfl)) dX1_decodeLongNumber_2 ⟨show 0 + 0 ≤ 0 from by omega, show 0 + 0 ≤ 0 from by omega⟩) hS (fun q _ h => hFc q h) hFc (fun v20 u k18 n19 tS H1 locs ht hvm hw hB hz1 hk1 hS => ?_)
  obtain ⟨hP1, hK1, hD1⟩ := hB
  rw [ht] at hP1
  have hK1 := va_K.moved hvm.symm hK1
  try dsimp only at hw
  obtain ⟨hP, hD⟩ := va_join (wr := [(h, .inr (1, [.int (iI kd), .int (iI cs), .int (iI tg), .int (iI op), .int (iI sz1), .int (iI ct)]))]) (w1 := [(b, .inr (0, [.ref r, .int (iI z)])), (r, .inl (cA, w, .inl (fun j => bI (t j))))]) hP hD [1, 2] [0] rfl rfl (by decide) (by decide) hk1 hFc hP1 hD1
  have hK := (hK.sub (tys' := []) [] rfl).app hK1
  generalize H1 = H at hP hS ⊢
  have hP : va_P (dC, dI) vwCl [(h, .inr (1, [.int (iI kd), .int (iI cs), .int (iI tg), .int (iI op), .int (iI sz1), .int (iI ct)])), (b, .inr (0, [.ref r, .int (iI z)])), (r, .inl (cA, w, .inl (fun j => bI (t j))))] H := hP
  have hD : va_D A [(h, .inr (1, [.int (iI kd), .int (iI cs), .int (iI tg), .int (iI op), .int (iI sz1), .int (iI ct)])), (b, .inr (0, [.ref r, .int (iI z)])), (r, .inl (cA, w, .inl (fun j => bI (t j))))] := hD
  have hK : va_K (dC, dI) vwCl [(cA, .byte)] s := hK
  obtain ⟨rfl, rfl, rfl⟩ := hw
  refine W.eq (g2 := F0 m 5 ls [.int (iI (gd L i))]) rfl ?_
  refine lv_bipush (v := iI 127) hx hb dX1_decodeLongNumber_5 (by decide +kernel) ?_
  refine li_iand127 hx hb dX1_decodeLongNumber_7 ?_
  refine li_if_ne (tgt := 13) hx hb (by omega) dX1_decodeLongNumber_8 (by decide) (fun c21 => ?_) (fun c21 => ?_)
  · skip
    refine lv_lconst (v := lI 0) hx hb dX1_decodeLongNumber_13 (by decide +kernel) ?_
    refine lv_lstore (lv' := [(4, .long (lI 0)), (0, .ref h), (1, .ref b), (2, .int (iI i)), (3, .int (iI x))]) hx hb dX1_decodeLongNumber_14 hl (by decide) rfl (fun ls hl => ?_)
    refine lv_iload_n hx hb dX1_decodeLongNumber_16 rfl (lv_at hl 3 rfl) ?_
    refine lv_istore (lv' := [(6, .int (iI i)), (4, .long (lI 0)), (0, .ref h), (1, .ref b), (2, .int (iI i)), (3, .int (iI x))]) hx hb dX1_decodeLongNumber_17 hl (by decide) rfl (fun ls hl => ?_)
    exact LP (10000) 0 i _ _ _ _ _ (by omega) (by omega) (by omega) (c21) (rfl) (by omega) (hK.sub [0] rfl) (hP.sub [0, 1, 2] rfl) (hD.sub [0, 1, 2] (by decide) rfl) hS (lv_sub hl [2, 3, 4, 5, 1, 0] rfl)
  · skip
    refine lv_iconst (v := iI (-1)) hx hb dX1_decodeLongNumber_11 rfl ?_
    subst hQ9
    have hP9 := hP.sub (ws' := [(h, .inr (1, [.int (iI kd), .int (iI cs), .int (iI tg), .int (iI op), .int (iI sz1), .int (iI ct)])), (b, .inr (0, [.ref r, .int (iI z)])), (r, .inl (cA, w, .inl (fun j => bI (t j))))]) [0, 1, 2] rfl
    have hD9 := hD.sub (ws' := [(h, .inr (1, [.int (iI kd), .int (iI cs), .int (iI tg), .int (iI op), .int (iI sz1), .int (iI ct)])), (b, .inr (0, [.ref r, .int (iI z)])), (r, .inl (cA, w, .inl (fun j => bI (t j))))]) [0, 1, 2] (by decide) rfl
    have hK9 := hK.sub (tys' := [(cA, .byte)]) [0] rfl
    exact mv_iret hx hb hr hlocks (fun tS ht hW => ⟨⟨_, (tg, (-1)), rfl, ⟨rfl, Or.inl ⟨lgn_0 c21, rfl⟩, by omega, by omega⟩, by rw [ht]; exact hP9, va_K.moved hW.alike hK9, hD9⟩, hS.F ht⟩) hS.2.2 dX1_decodeLongNumber_12
set_option maxHeartbeats 4000000 in
set_option maxRecDepth 100000 in
theorem c_H_idn (l : Launch) (dC : Nat → ClassId) (dI : Nat → Nat → Nat) (sz : Nat) (h : Nat) (kd : Int) (cs : Int) (tg : Int) (op : Int) (sz1 : Int) (ct : Int) (b : Nat) (r : Nat) (cA : ClassId) (w : Nat) (t : Nat → Int) (z : Int) (L : List Int) (i : Int) (x : Int) (hok : okB w t z L) (hi : 0 ≤ i ∧ i ≤ 5000) (hx4 : 0 ≤ x ∧ x ≤ 4096) : mv_Met l yX1_decodeIdentifier wsX1_decodeIdentifier ({ frames := 2, cells := 0, slots := 0, locals := 70 }) (va_Pc [.ref h, .ref b, .int (iI i), .int (iI x)] (fun U => U.heap.size = sz ∧ va_P (dC, dI) vwCl [(h, .inr (1, [.int (iI kd), .int (iI cs), .int (iI tg), .int (iI op), .int (iI sz1), .int (iI ct)])), (b, .inr (0, [.ref r, .int (iI z)])), (r, .inl (cA, w, .inl (fun j => bI (t j))))] U.heap ∧ va_K (dC, dI) vwCl [(cA, .byte)] U ∧ va_D (fun _ => True) [(h, .inr (1, [.int (iI kd), .int (iI cs), .int (iI tg), .int (iI op), .int (iI sz1), .int (iI ct)])), (b, .inr (0, [.ref r, .int (iI z)])), (r, .inl (cA, w, .inl (fun j => bI (t j))))])) (mv_Q (fun (v : Option Value) (u : Int × Int × Int × Int) (k n : Nat) => match u with | (kd', cs', tg', q') => v = some (.int (iI q')) ∧ (idn (gd L) i x = none ∧ q' = -1 ∨ idn (gd L) i x = some (kd', cs', tg', q') ∧ i < q' ∧ q' ≤ x ∧ 0 ≤ kd' ∧ kd' ≤ 3 ∧ (cs' = 0 ∨ cs' = 1) ∧ -1 ≤ tg' ∧ tg' ≤ 2147483647) ∧ k = 0 ∧ n = 0) (fun (u : Int × Int × Int × Int) (tS : State) => match u with | (kd', cs', tg', q') => va_P (dC, dI) vwCl [(h, .inr (1, [.int (iI kd'), .int (iI cs'), .int (iI tg'), .int (iI op), .int (iI sz1), .int (iI ct)])), (b, .inr (0, [.ref r, .int (iI z)])), (r, .inl (cA, w, .inl (fun j => bI (t j))))] tS.heap ∧ va_K (dC, dI) vwCl [(cA, .byte)] tS ∧ va_D (va_A [(h, .inr (1, [.int (iI kd), .int (iI cs), .int (iI tg), .int (iI op), .int (iI sz1), .int (iI ct)])), (b, .inr (0, [.ref r, .int (iI z)])), (r, .inl (cA, w, .inl (fun j => bI (t j))))] sz) [(h, .inr (1, [.int (iI kd'), .int (iI cs'), .int (iI tg'), .int (iI op), .int (iI sz1), .int (iI ct)])), (b, .inr (0, [.ref r, .int (iI z)])), (r, .inl (cA, w, .inl (fun j => bI (t j))))]) (va_A [(h, .inr (1, [.int (iI kd), .int (iI cs), .int (iI tg), .int (iI op), .int (iI sz1), .int (iI ct)])), (b, .inr (0, [.ref r, .int (iI z)])), (r, .inl (cA, w, .inl (fun j => bI (t j))))] sz)) (va_A [(h, .inr (1, [.int (iI kd), .int (iI cs), .int (iI tg), .int (iI op), .int (iI sz1), .int (iI ct)])), (b, .inr (0, [.ref r, .int (iI z)])), (r, .inl (cA, w, .inl (fun j => bI (t j))))] sz) := by
  refine mv_ofW (cc := cX1_decodeIdentifier) (maxL := 5) (ret := (some .int)) (by decide) rfl ?_
  intro p e s m args below meth c s₁ B hml hv
  obtain ⟨rfl, hsz, hP, hK, hD0⟩ := hv
  have hx := B.exec
  have hb := B.bytes
  have hr := B.returns
  have hT : ∀ w ∈ wT, w.before _ s = true := fun w h => atoms_spec (ws := wsX1_decodeIdentifier) B.pre w (List.mem_cons_of_mem _ h)
  have hown : s.vm.findClass RX1 = some m.cls := findClass_of_methodNamed B.named
  have hlocks := B.notSynchronized
  subst hsz
  have hD := hD0.self (sz := s.heap.size)
  generalize hAe : va_A [(h, .inr (1, [.int (iI kd), .int (iI cs), .int (iI tg), .int (iI op), .int (iI sz1), .int (iI ct)])), (b, .inr (0, [.ref r, .int (iI z)])), (r, .inl (cA, w, .inl (fun j => bI (t j))))] s.heap.size = A at hD ⊢
  have hA : ∀ q : Nat, s.heap.size ≤ q → A q := fun q h => by rw [← hAe]; exact Or.inr h
  have hS : va_S A s.heap s.heap [] := va_S.rf
  have hP : va_P (dC, dI) vwCl [(h, .inr (1, [.int (iI kd), .int (iI cs), .int (iI tg), .int (iI op), .int (iI sz1), .int (iI ct)])), (b, .inr (0, [.ref r, .int (iI z)])), (r, .inl (cA, w, .inl (fun j => bI (t j))))] s.heap := hP
  have hl := lv_entry ([.ref h, .ref b, .int (iI i), .int (iI x)]) (n := 5) (Nat.le_of_ble_eq_true rfl)
  rw [lg_entry_eq]
  generalize (lg_sl ([.ref h, .ref b, .int (iI i), .int (iI x)]) ++ List.replicate (5 - (lg_sl ([.ref h, .ref b, .int (iI i), .int (iI x)])).length) Slot.unset).toArray = ls at hl ⊢
  have hl : lv_has ls 5 [(0, .ref h), (1, .ref b), (2, .int (iI i)), (3, .int (iI x))] := hl
  obtain ⟨hw1, hw2, hw3, hw4, hw5, hw6⟩ := id hok
  have hg8 := gd_rng hok
  have hgi := hg8 i
  refine lv_iload_n hx hb dX1_decodeIdentifier_0 rfl (lv_at hl 2 rfl) ?_
  refine lv_iload_n hx hb dX1_decodeIdentifier_1 rfl (lv_at hl 3 rfl) ?_
  refine li_icmp_lt (tgt := 7) hx hb (by omega) (by omega) dX1_decodeIdentifier_2 (by decide) (fun c1 => ?_) (fun c1 => ?_)
  · skip
    refine lv_aload_n hx hb dX1_decodeIdentifier_7 rfl (lv_at hl 1 rfl) ?_
    refine lv_iload_n hx hb dX1_decodeIdentifier_8 rfl (lv_at hl 2 rfl) ?_
    have hPc := hP.sub (ws' := [(b, .inr (0, [.ref r, .int (iI z)])), (r, .inl (cA, w, .inl (fun j => bI (t j))))]) [1, 2] rfl
    have hDc := hD.sub (ws' := [(b, .inr (0, [.ref r, .int (iI z)])), (r, .inl (cA, w, .inl (fun j => bI (t j))))]) [1, 2] (by decide) rfl
    have hKc := hK.sub (tys' := [(cA, .byte)]) [0] rfl
    have hFc := va_free (wc := [(b, .inr (0, [.ref r, .int (iI z)])), (r, .inl (cA, w, .inl (fun j => bI (t j))))]) hD hS hA [1, 2] rfl
    refine mv_call (mv_runV (As := [.int (iI i)]) (rest := []) ⟨hx, hb, hml, hown, hT⟩ (c_B_at l dC dI s.heap.size b r cA w t z L i (hok) (by omega)) (cwV 1 hT (gV wd321 wd322 wd323 wd27 wd324) rfl rfl rfl (by decide +kernel) ⟨show 0 + 1 ≤ 2 from by omega, show 8 + (2 + 11) + 0 ≤ 70 from by omega⟩) ⟨fun a U g mk q => by obtain ⟨q0, q1, qP, qK, qD⟩ := q; exact ⟨q0, q1, qP, va_K.moved (u := U) (U := U.calling g mk a) (Vm.Alike.refl U.vm) qK, qD⟩, va_recv hKc hPc (ci := 0) (q0 := 0) rfl rfl, fun U hU hW => ⟨rfl, by rw [hU], by rw [hU]; exact hPc, va_K.moved hW.alike hKc, hDc.weaken (fun _ _ _ _ => trivial)⟩⟩ rfl rfl hl.1 rfl (lv_room (Nat.le_of_ble_eq_true rfl)) dX1_decodeIdentifier_9 ⟨show 0 + 0 ≤ 0 from by omega, show 0 + 0 ≤ 0 from by omega⟩) hS (fun q _ h => hFc q h) hFc (fun v4 u k2 n3 tS H1 locs ht hvm hw hB hz1 hk1 hS => ?_)
    obtain ⟨hP1, hK1, hD1⟩ := hB
    rw [ht] at hP1
    have hK1 := va_K.moved hvm.symm hK1
    try dsimp only at hw
    obtain ⟨hP, hD⟩ := va_join (wr := [(h, .inr (1, [.int (iI kd), .int (iI cs), .int (iI tg), .int (iI op), .int (iI sz1), .int (iI ct)]))]) (w1 := [(b, .inr (0, [.ref r, .int (iI z)])), (r, .inl (cA, w, .inl (fun j => bI (t j))))]) hP hD [1, 2] [0] rfl rfl (by decide) (by decide) hk1 hFc hP1 hD1
    have hK := (hK.sub (tys' := []) [] rfl).app hK1
    generalize H1 = H at hP hS ⊢
    have hP : va_P (dC, dI) vwCl [(h, .inr (1, [.int (iI kd), .int (iI cs), .int (iI tg), .int (iI op), .int (iI sz1), .int (iI ct)])), (b, .inr (0, [.ref r, .int (iI z)])), (r, .inl (cA, w, .inl (fun j => bI (t j))))] H := hP
    have hD : va_D A [(h, .inr (1, [.int (iI kd), .int (iI cs), .int (iI tg), .int (iI op), .int (iI sz1), .int (iI ct)])), (b, .inr (0, [.ref r, .int (iI z)])), (r, .inl (cA, w, .inl (fun j => bI (t j))))] := hD
    have hK : va_K (dC, dI) vwCl [(cA, .byte)] s := hK
    obtain ⟨rfl, rfl, rfl⟩ := hw
    refine W.eq (g2 := F0 m 12 ls [.int (iI (gd L i))]) rfl ?_
    refine li_nm (fun z5 ez5 => ?_)
    refine lv_istore (lv' := [(4, .int (iI z5)), (0, .ref h), (1, .ref b), (2, .int (iI i)), (3, .int (iI x))]) hx hb dX1_decodeIdentifier_12 hl (by decide) rfl (fun ls hl => ?_)
    refine lv_aload_n hx hb dX1_decodeIdentifier_14 rfl (lv_at hl 1 rfl) ?_
    refine lv_iload hx hb dX1_decodeIdentifier_15 (lv_at hl 0 rfl) ?_
    refine lv_bipush (v := iI 6) hx hb dX1_decodeIdentifier_17 (by decide +kernel) ?_
    refine li_ishrK hx hb 64 (by decide) (by omega) (by omega) dX1_decodeIdentifier_19 ?_
    refine li_nm (fun z6 ez6 => ?_)
    refine va_put (D := (dC, dI)) (ci := 1) (v := .int (iI z6)) (ty := .int) (C := RX1) (T := TX1) (N := 6) hx hb hT inX1 tyX1 tyX1_ok nX1 hown hK hP hD hS 0 rfl rfl 0 (by decide) (hT _ wd78) (fun _ h9 => h9) rfl (by decide +kernel) rfl rfl (Nat.le_of_ble_eq_true rfl) dX1_decodeIdentifier_20 (fun H locs hP hD hS => ?_)
    have hP : va_P (dC, dI) vwCl [(h, .inr (1, [.int (iI z6), .int (iI cs), .int (iI tg), .int (iI op), .int (iI sz1), .int (iI ct)])), (b, .inr (0, [.ref r, .int (iI z)])), (r, .inl (cA, w, .inl (fun j => bI (t j))))] H := hP
    have hD : va_D A [(h, .inr (1, [.int (iI z6), .int (iI cs), .int (iI tg), .int (iI op), .int (iI sz1), .int (iI ct)])), (b, .inr (0, [.ref r, .int (iI z)])), (r, .inl (cA, w, .inl (fun j => bI (t j))))] := hD
    refine lv_aload_n hx hb dX1_decodeIdentifier_23 rfl (lv_at hl 1 rfl) ?_
    refine lv_iload hx hb dX1_decodeIdentifier_24 (lv_at hl 0 rfl) ?_
    refine lv_bipush (v := iI 32) hx hb dX1_decodeIdentifier_26 (by decide +kernel) ?_
    refine li_iand32 hx hb (by omega) dX1_decodeIdentifier_28 ?_
    refine li_if_eq (tgt := 36) hx hb (by omega) dX1_decodeIdentifier_29 (by decide) (fun c7 => ?_) (fun c7 => ?_)
    · skip
      refine lv_iconst (v := iI 0) hx hb dX1_decodeIdentifier_36 rfl ?_
      refine va_put (D := (dC, dI)) (ci := 1) (v := .int (iI 0)) (ty := .boolean) (C := RX1) (T := TX1) (N := 6) hx hb hT inX1 tyX1 tyX1_ok nX1 hown hK hP hD hS 0 rfl rfl 1 (by decide) (hT _ wd80) (fun _ h9 => h9) rfl (by decide +kernel) (zb_n (by omega)) (zb_f (by omega)) (Nat.le_of_ble_eq_true rfl) dX1_decodeIdentifier_37 (fun H locs hP hD hS => ?_)
      have hP : va_P (dC, dI) vwCl [(h, .inr (1, [.int (iI z6), .int (iI 0), .int (iI tg), .int (iI op), .int (iI sz1), .int (iI ct)])), (b, .inr (0, [.ref r, .int (iI z)])), (r, .inl (cA, w, .inl (fun j => bI (t j))))] H := hP
      have hD : va_D A [(h, .inr (1, [.int (iI z6), .int (iI 0), .int (iI tg), .int (iI op), .int (iI sz1), .int (iI ct)])), (b, .inr (0, [.ref r, .int (iI z)])), (r, .inl (cA, w, .inl (fun j => bI (t j))))] := hD
      refine lv_aload_n hx hb dX1_decodeIdentifier_40 rfl (lv_at hl 1 rfl) ?_
      refine lv_iload hx hb dX1_decodeIdentifier_41 (lv_at hl 0 rfl) ?_
      refine lv_bipush (v := iI 31) hx hb dX1_decodeIdentifier_43 (by decide +kernel) ?_
      refine li_iand31 hx hb dX1_decodeIdentifier_45 ?_
      refine li_nm (fun z8 ez8 => ?_)
      refine va_put (D := (dC, dI)) (ci := 1) (v := .int (iI z8)) (ty := .int) (C := RX1) (T := TX1) (N := 6) hx hb hT inX1 tyX1 tyX1_ok nX1 hown hK hP hD hS 0 rfl rfl 2 (by decide) (hT _ wd82) (fun _ h9 => h9) rfl (by decide +kernel) rfl rfl (Nat.le_of_ble_eq_true rfl) dX1_decodeIdentifier_46 (fun H locs hP hD hS => ?_)
      have hP : va_P (dC, dI) vwCl [(h, .inr (1, [.int (iI z6), .int (iI 0), .int (iI z8), .int (iI op), .int (iI sz1), .int (iI ct)])), (b, .inr (0, [.ref r, .int (iI z)])), (r, .inl (cA, w, .inl (fun j => bI (t j))))] H := hP
      have hD : va_D A [(h, .inr (1, [.int (iI z6), .int (iI 0), .int (iI z8), .int (iI op), .int (iI sz1), .int (iI ct)])), (b, .inr (0, [.ref r, .int (iI z)])), (r, .inl (cA, w, .inl (fun j => bI (t j))))] := hD
      refine lv_aload_n hx hb dX1_decodeIdentifier_49 rfl (lv_at hl 1 rfl) ?_
      refine va_get (D := (dC, dI)) (ci := 1) (v := .int (iI z8)) (C := RX1) (T := TX1) (N := 6) hx hb hT inX1 hown hK hP 0 rfl rfl 2 (by decide) (hT _ wd82) (fun _ h9 => h9) rfl dX1_decodeIdentifier_50 ?_
      refine lv_bipush (v := iI 31) hx hb dX1_decodeIdentifier_53 (by decide +kernel) ?_
      refine li_icmp_ge (tgt := 64) hx hb (by omega) (by omega) dX1_decodeIdentifier_55 (by decide) (fun c9 => ?_) (fun c9 => ?_)
      · skip
        refine lv_aload_n hx hb dX1_decodeIdentifier_64 rfl (lv_at hl 1 rfl) ?_
        refine lv_aload_n hx hb dX1_decodeIdentifier_65 rfl (lv_at hl 2 rfl) ?_
        refine lv_iload_n hx hb dX1_decodeIdentifier_66 rfl (lv_at hl 3 rfl) ?_
        refine lv_iconst (v := iI 1) hx hb dX1_decodeIdentifier_67 rfl ?_
        refine li_iadd hx hb dX1_decodeIdentifier_68 ?_
        refine lv_iload_n hx hb dX1_decodeIdentifier_69 rfl (lv_at hl 4 rfl) ?_
        have hPc := hP.sub (ws' := [(h, .inr (1, [.int (iI z6), .int (iI 0), .int (iI z8), .int (iI op), .int (iI sz1), .int (iI ct)])), (b, .inr (0, [.ref r, .int (iI z)])), (r, .inl (cA, w, .inl (fun j => bI (t j))))]) [0, 1, 2] rfl
        have hDc := hD.sub (ws' := [(h, .inr (1, [.int (iI z6), .int (iI 0), .int (iI z8), .int (iI op), .int (iI sz1), .int (iI ct)])), (b, .inr (0, [.ref r, .int (iI z)])), (r, .inl (cA, w, .inl (fun j => bI (t j))))]) [0, 1, 2] (by decide) rfl
        have hKc := hK.sub (tys' := [(cA, .byte)]) [0] rfl
        have hFc := va_free (wc := [(h, .inr (1, [.int (iI z6), .int (iI 0), .int (iI z8), .int (iI op), .int (iI sz1), .int (iI ct)])), (b, .inr (0, [.ref r, .int (iI z)])), (r, .inl (cA, w, .inl (fun j => bI (t j))))]) hD hS hA [0, 1, 2] rfl
        refine mv_call (mv_runV (As := [.ref b, .int (iI (i + 1)), .int (iI x)]) (rest := []) ⟨hx, hb, hml, hown, hT⟩ (c_H_lnum l dC dI H.size h z6 0 z8 op sz1 ct b r cA w t z L (i + 1) x (hok) (by omega) (by omega)) (cwV 3 hT (gV wd325 wd327 wd6 wd29 wd328) rfl rfl rfl (by decide +kernel) ⟨show 1 + 1 ≤ 2 from by omega, show 8 + (8 + 11) + 40 ≤ 70 from by omega⟩) ⟨fun a U g mk q => by obtain ⟨q0, q1, qP, qK, qD⟩ := q; exact ⟨q0, q1, qP, va_K.moved (u := U) (U := U.calling g mk a) (Vm.Alike.refl U.vm) qK, qD⟩, va_recv hKc hPc (ci := 1) (q0 := 0) rfl rfl, fun U hU hW => ⟨rfl, by rw [hU], by rw [hU]; exact hPc, va_K.moved hW.alike hKc, hDc.weaken (fun _ _ _ _ => trivial)⟩⟩ rfl rfl hl.1 rfl (lv_room (Nat.le_of_ble_eq_true rfl)) dX1_decodeIdentifier_70 ⟨show 0 + 0 + 0 ≤ 0 from by omega, show 0 + 0 + 0 ≤ 0 from by omega⟩) hS (fun q _ h => hFc q h) hFc (fun v12 u k10 n11 tS H1 locs ht hvm hw hB hz1 hk1 hS => ?_)
        obtain ⟨tg13, q14⟩ := u
        obtain ⟨hP1, hK1, hD1⟩ := hB
        rw [ht] at hP1
        have hK1 := va_K.moved hvm.symm hK1
        try dsimp only at hw
        obtain ⟨hP, hD⟩ := va_join (wr := []) (w1 := [(h, .inr (1, [.int (iI z6), .int (iI 0), .int (iI tg13), .int (iI op), .int (iI sz1), .int (iI ct)])), (b, .inr (0, [.ref r, .int (iI z)])), (r, .inl (cA, w, .inl (fun j => bI (t j))))]) hP hD [0, 1, 2] [] rfl rfl (by decide) (by decide) hk1 hFc hP1 hD1
        have hK := (hK.sub (tys' := []) [] rfl).app hK1
        generalize H1 = H at hP hS ⊢
        have hP : va_P (dC, dI) vwCl [(h, .inr (1, [.int (iI z6), .int (iI 0), .int (iI tg13), .int (iI op), .int (iI sz1), .int (iI ct)])), (b, .inr (0, [.ref r, .int (iI z)])), (r, .inl (cA, w, .inl (fun j => bI (t j))))] H := hP
        have hD : va_D A [(h, .inr (1, [.int (iI z6), .int (iI 0), .int (iI tg13), .int (iI op), .int (iI sz1), .int (iI ct)])), (b, .inr (0, [.ref r, .int (iI z)])), (r, .inl (cA, w, .inl (fun j => bI (t j))))] := hD
        have hK : va_K (dC, dI) vwCl [(cA, .byte)] s := hK
        obtain ⟨rfl, hqv12, rfl, rfl⟩ := hw
        refine W.eq (g2 := F0 m 73 ls [.int (iI q14)]) rfl ?_
        rcases hqv12 with ⟨h1, h2⟩ | ⟨h1, h2, h3, h4, h5⟩
        · skip
          have hP9 := hP.sub (ws' := [(h, .inr (1, [.int (iI z6), .int (iI 0), .int (iI tg13), .int (iI op), .int (iI sz1), .int (iI ct)])), (b, .inr (0, [.ref r, .int (iI z)])), (r, .inl (cA, w, .inl (fun j => bI (t j))))]) [0, 1, 2] rfl
          have hD9 := hD.sub (ws' := [(h, .inr (1, [.int (iI z6), .int (iI 0), .int (iI tg13), .int (iI op), .int (iI sz1), .int (iI ct)])), (b, .inr (0, [.ref r, .int (iI z)])), (r, .inl (cA, w, .inl (fun j => bI (t j))))]) [0, 1, 2] (by decide) rfl
          have hK9 := hK.sub (tys' := [(cA, .byte)]) [0] rfl
          exact mv_iret hx hb hr hlocks (fun tS ht hW => ⟨⟨_, (z6, 0, tg13, q14), rfl, ⟨rfl, Or.inl ⟨idn_l0 (by omega) (by omega) h1, h2⟩, rfl, rfl⟩, by rw [ht]; exact hP9, va_K.moved hW.alike hK9, hD9⟩, hS.F ht⟩) hS.2.2 dX1_decodeIdentifier_73
        · skip
          have hP9 := hP.sub (ws' := [(h, .inr (1, [.int (iI z6), .int (iI 0), .int (iI tg13), .int (iI op), .int (iI sz1), .int (iI ct)])), (b, .inr (0, [.ref r, .int (iI z)])), (r, .inl (cA, w, .inl (fun j => bI (t j))))]) [0, 1, 2] rfl
          have hD9 := hD.sub (ws' := [(h, .inr (1, [.int (iI z6), .int (iI 0), .int (iI tg13), .int (iI op), .int (iI sz1), .int (iI ct)])), (b, .inr (0, [.ref r, .int (iI z)])), (r, .inl (cA, w, .inl (fun j => bI (t j))))]) [0, 1, 2] (by decide) rfl
          have hK9 := hK.sub (tys' := [(cA, .byte)]) [0] rfl
          exact mv_iret hx hb hr hlocks (fun tS ht hW => ⟨⟨_, (z6, 0, tg13, q14), rfl, ⟨rfl, Or.inr ⟨idn_l1 (by omega) (by omega) h1 (by omega) (by omega), by omega, by omega, by omega⟩, rfl, rfl⟩, by rw [ht]; exact hP9, va_K.moved hW.alike hK9, hD9⟩, hS.F ht⟩) hS.2.2 dX1_decodeIdentifier_73
      · skip
        refine lv_iload_n hx hb dX1_decodeIdentifier_58 rfl (lv_at hl 3 rfl) ?_
        refine lv_iconst (v := iI 1) hx hb dX1_decodeIdentifier_59 rfl ?_
        refine li_iadd hx hb dX1_decodeIdentifier_60 ?_
        refine lv_goto (tgt := 73) hx hb dX1_decodeIdentifier_61 (by decide) ?_
        have hP9 := hP.sub (ws' := [(h, .inr (1, [.int (iI z6), .int (iI 0), .int (iI z8), .int (iI op), .int (iI sz1), .int (iI ct)])), (b, .inr (0, [.ref r, .int (iI z)])), (r, .inl (cA, w, .inl (fun j => bI (t j))))]) [0, 1, 2] rfl
        have hD9 := hD.sub (ws' := [(h, .inr (1, [.int (iI z6), .int (iI 0), .int (iI z8), .int (iI op), .int (iI sz1), .int (iI ct)])), (b, .inr (0, [.ref r, .int (iI z)])), (r, .inl (cA, w, .inl (fun j => bI (t j))))]) [0, 1, 2] (by decide) rfl
        have hK9 := hK.sub (tys' := [(cA, .byte)]) [0] rfl
        exact mv_iret hx hb hr hlocks (fun tS ht hW => ⟨⟨_, (z6, 0, z8, (i + 1)), rfl, ⟨rfl, Or.inr ⟨idn_s (by omega) (by omega) (by omega) (by omega) (by omega), by omega, by omega, by omega⟩, rfl, rfl⟩, by rw [ht]; exact hP9, va_K.moved hW.alike hK9, hD9⟩, hS.F ht⟩) hS.2.2 dX1_decodeIdentifier_73
    · skip
      refine lv_iconst (v := iI 1) hx hb dX1_decodeIdentifier_32 rfl ?_
      refine lv_goto (tgt := 37) hx hb dX1_decodeIdentifier_33 (by decide) ?_
      refine va_put (D := (dC, dI)) (ci := 1) (v := .int (iI 1)) (ty := .boolean) (C := RX1) (T := TX1) (N := 6) hx hb hT inX1 tyX1 tyX1_ok nX1 hown hK hP hD hS 0 rfl rfl 1 (by decide) (hT _ wd80) (fun _ h9 => h9) rfl (by decide +kernel) (zb_n (by omega)) (zb_f (by omega)) (Nat.le_of_ble_eq_true rfl) dX1_decodeIdentifier_37 (fun H locs hP hD hS => ?_)
      have hP : va_P (dC, dI) vwCl [(h, .inr (1, [.int (iI z6), .int (iI 1), .int (iI tg), .int (iI op), .int (iI sz1), .int (iI ct)])), (b, .inr (0, [.ref r, .int (iI z)])), (r, .inl (cA, w, .inl (fun j => bI (t j))))] H := hP
      have hD : va_D A [(h, .inr (1, [.int (iI z6), .int (iI 1), .int (iI tg), .int (iI op), .int (iI sz1), .int (iI ct)])), (b, .inr (0, [.ref r, .int (iI z)])), (r, .inl (cA, w, .inl (fun j => bI (t j))))] := hD
      refine lv_aload_n hx hb dX1_decodeIdentifier_40 rfl (lv_at hl 1 rfl) ?_
      refine lv_iload hx hb dX1_decodeIdentifier_41 (lv_at hl 0 rfl) ?_
      refine lv_bipush (v := iI 31) hx hb dX1_decodeIdentifier_43 (by decide +kernel) ?_
      refine li_iand31 hx hb dX1_decodeIdentifier_45 ?_
      refine li_nm (fun z15 ez15 => ?_)
      refine va_put (D := (dC, dI)) (ci := 1) (v := .int (iI z15)) (ty := .int) (C := RX1) (T := TX1) (N := 6) hx hb hT inX1 tyX1 tyX1_ok nX1 hown hK hP hD hS 0 rfl rfl 2 (by decide) (hT _ wd82) (fun _ h9 => h9) rfl (by decide +kernel) rfl rfl (Nat.le_of_ble_eq_true rfl) dX1_decodeIdentifier_46 (fun H locs hP hD hS => ?_)
      have hP : va_P (dC, dI) vwCl [(h, .inr (1, [.int (iI z6), .int (iI 1), .int (iI z15), .int (iI op), .int (iI sz1), .int (iI ct)])), (b, .inr (0, [.ref r, .int (iI z)])), (r, .inl (cA, w, .inl (fun j => bI (t j))))] H := hP
      have hD : va_D A [(h, .inr (1, [.int (iI z6), .int (iI 1), .int (iI z15), .int (iI op), .int (iI sz1), .int (iI ct)])), (b, .inr (0, [.ref r, .int (iI z)])), (r, .inl (cA, w, .inl (fun j => bI (t j))))] := hD
      refine lv_aload_n hx hb dX1_decodeIdentifier_49 rfl (lv_at hl 1 rfl) ?_
      refine va_get (D := (dC, dI)) (ci := 1) (v := .int (iI z15)) (C := RX1) (T := TX1) (N := 6) hx hb hT inX1 hown hK hP 0 rfl rfl 2 (by decide) (hT _ wd82) (fun _ h9 => h9) rfl dX1_decodeIdentifier_50 ?_
      refine lv_bipush (v := iI 31) hx hb dX1_decodeIdentifier_53 (by decide +kernel) ?_
      refine li_icmp_ge (tgt := 64) hx hb (by omega) (by omega) dX1_decodeIdentifier_55 (by decide) (fun c16 => ?_) (fun c16 => ?_)
      · skip
        refine lv_aload_n hx hb dX1_decodeIdentifier_64 rfl (lv_at hl 1 rfl) ?_
        refine lv_aload_n hx hb dX1_decodeIdentifier_65 rfl (lv_at hl 2 rfl) ?_
        refine lv_iload_n hx hb dX1_decodeIdentifier_66 rfl (lv_at hl 3 rfl) ?_
        refine lv_iconst (v := iI 1) hx hb dX1_decodeIdentifier_67 rfl ?_
        refine li_iadd hx hb dX1_decodeIdentifier_68 ?_
        refine lv_iload_n hx hb dX1_decodeIdentifier_69 rfl (lv_at hl 4 rfl) ?_
        have hPc := hP.sub (ws' := [(h, .inr (1, [.int (iI z6), .int (iI 1), .int (iI z15), .int (iI op), .int (iI sz1), .int (iI ct)])), (b, .inr (0, [.ref r, .int (iI z)])), (r, .inl (cA, w, .inl (fun j => bI (t j))))]) [0, 1, 2] rfl
        have hDc := hD.sub (ws' := [(h, .inr (1, [.int (iI z6), .int (iI 1), .int (iI z15), .int (iI op), .int (iI sz1), .int (iI ct)])), (b, .inr (0, [.ref r, .int (iI z)])), (r, .inl (cA, w, .inl (fun j => bI (t j))))]) [0, 1, 2] (by decide) rfl
        have hKc := hK.sub (tys' := [(cA, .byte)]) [0] rfl
        have hFc := va_free (wc := [(h, .inr (1, [.int (iI z6), .int (iI 1), .int (iI z15), .int (iI op), .int (iI sz1), .int (iI ct)])), (b, .inr (0, [.ref r, .int (iI z)])), (r, .inl (cA, w, .inl (fun j => bI (t j))))]) hD hS hA [0, 1, 2] rfl
        refine mv_call (mv_runV (As := [.ref b, .int (iI (i + 1)), .int (iI x)]) (rest := []) ⟨hx, hb, hml, hown, hT⟩ (c_H_lnum l dC dI H.size h z6 1 z15 op sz1 ct b r cA w t z L (i + 1) x (hok) (by omega) (by omega)) (cwV 3 hT (gV wd325 wd327 wd6 wd29 wd328) rfl rfl rfl (by decide +kernel) ⟨show 1 + 1 ≤ 2 from by omega, show 8 + (8 + 11) + 40 ≤ 70 from by omega⟩) ⟨fun a U g mk q => by obtain ⟨q0, q1, qP, qK, qD⟩ := q; exact ⟨q0, q1, qP, va_K.moved (u := U) (U := U.calling g mk a) (Vm.Alike.refl U.vm) qK, qD⟩, va_recv hKc hPc (ci := 1) (q0 := 0) rfl rfl, fun U hU hW => ⟨rfl, by rw [hU], by rw [hU]; exact hPc, va_K.moved hW.alike hKc, hDc.weaken (fun _ _ _ _ => trivial)⟩⟩ rfl rfl hl.1 rfl (lv_room (Nat.le_of_ble_eq_true rfl)) dX1_decodeIdentifier_70 ⟨show 0 + 0 + 0 ≤ 0 from by omega, show 0 + 0 + 0 ≤ 0 from by omega⟩) hS (fun q _ h => hFc q h) hFc (fun v19 u k17 n18 tS H1 locs ht hvm hw hB hz1 hk1 hS => ?_)
        obtain ⟨tg20, q21⟩ := u
        obtain ⟨hP1, hK1, hD1⟩ := hB
        rw [ht] at hP1
        have hK1 := va_K.moved hvm.symm hK1
        try dsimp only at hw
        obtain ⟨hP, hD⟩ := va_join (wr := []) (w1 := [(h, .inr (1, [.int (iI z6), .int (iI 1), .int (iI tg20), .int (iI op), .int (iI sz1), .int (iI ct)])), (b, .inr (0, [.ref r, .int (iI z)])), (r, .inl (cA, w, .inl (fun j => bI (t j))))]) hP hD [0, 1, 2] [] rfl rfl (by decide) (by decide) hk1 hFc hP1 hD1
        have hK := (hK.sub (tys' := []) [] rfl).app hK1
        generalize H1 = H at hP hS ⊢
        have hP : va_P (dC, dI) vwCl [(h, .inr (1, [.int (iI z6), .int (iI 1), .int (iI tg20), .int (iI op), .int (iI sz1), .int (iI ct)])), (b, .inr (0, [.ref r, .int (iI z)])), (r, .inl (cA, w, .inl (fun j => bI (t j))))] H := hP
        have hD : va_D A [(h, .inr (1, [.int (iI z6), .int (iI 1), .int (iI tg20), .int (iI op), .int (iI sz1), .int (iI ct)])), (b, .inr (0, [.ref r, .int (iI z)])), (r, .inl (cA, w, .inl (fun j => bI (t j))))] := hD
        have hK : va_K (dC, dI) vwCl [(cA, .byte)] s := hK
        obtain ⟨rfl, hqv19, rfl, rfl⟩ := hw
        refine W.eq (g2 := F0 m 73 ls [.int (iI q21)]) rfl ?_
        rcases hqv19 with ⟨h1, h2⟩ | ⟨h1, h2, h3, h4, h5⟩
        · skip
          have hP9 := hP.sub (ws' := [(h, .inr (1, [.int (iI z6), .int (iI 1), .int (iI tg20), .int (iI op), .int (iI sz1), .int (iI ct)])), (b, .inr (0, [.ref r, .int (iI z)])), (r, .inl (cA, w, .inl (fun j => bI (t j))))]) [0, 1, 2] rfl
          have hD9 := hD.sub (ws' := [(h, .inr (1, [.int (iI z6), .int (iI 1), .int (iI tg20), .int (iI op), .int (iI sz1), .int (iI ct)])), (b, .inr (0, [.ref r, .int (iI z)])), (r, .inl (cA, w, .inl (fun j => bI (t j))))]) [0, 1, 2] (by decide) rfl
          have hK9 := hK.sub (tys' := [(cA, .byte)]) [0] rfl
          exact mv_iret hx hb hr hlocks (fun tS ht hW => ⟨⟨_, (z6, 1, tg20, q21), rfl, ⟨rfl, Or.inl ⟨idn_l0 (by omega) (by omega) h1, h2⟩, rfl, rfl⟩, by rw [ht]; exact hP9, va_K.moved hW.alike hK9, hD9⟩, hS.F ht⟩) hS.2.2 dX1_decodeIdentifier_73
        · skip
          have hP9 := hP.sub (ws' := [(h, .inr (1, [.int (iI z6), .int (iI 1), .int (iI tg20), .int (iI op), .int (iI sz1), .int (iI ct)])), (b, .inr (0, [.ref r, .int (iI z)])), (r, .inl (cA, w, .inl (fun j => bI (t j))))]) [0, 1, 2] rfl
          have hD9 := hD.sub (ws' := [(h, .inr (1, [.int (iI z6), .int (iI 1), .int (iI tg20), .int (iI op), .int (iI sz1), .int (iI ct)])), (b, .inr (0, [.ref r, .int (iI z)])), (r, .inl (cA, w, .inl (fun j => bI (t j))))]) [0, 1, 2] (by decide) rfl
          have hK9 := hK.sub (tys' := [(cA, .byte)]) [0] rfl
          exact mv_iret hx hb hr hlocks (fun tS ht hW => ⟨⟨_, (z6, 1, tg20, q21), rfl, ⟨rfl, Or.inr ⟨idn_l1 (by omega) (by omega) h1 (by omega) (by omega), by omega, by omega, by omega⟩, rfl, rfl⟩, by rw [ht]; exact hP9, va_K.moved hW.alike hK9, hD9⟩, hS.F ht⟩) hS.2.2 dX1_decodeIdentifier_73
      · skip
        refine lv_iload_n hx hb dX1_decodeIdentifier_58 rfl (lv_at hl 3 rfl) ?_
        refine lv_iconst (v := iI 1) hx hb dX1_decodeIdentifier_59 rfl ?_
        refine li_iadd hx hb dX1_decodeIdentifier_60 ?_
        refine lv_goto (tgt := 73) hx hb dX1_decodeIdentifier_61 (by decide) ?_
        have hP9 := hP.sub (ws' := [(h, .inr (1, [.int (iI z6), .int (iI 1), .int (iI z15), .int (iI op), .int (iI sz1), .int (iI ct)])), (b, .inr (0, [.ref r, .int (iI z)])), (r, .inl (cA, w, .inl (fun j => bI (t j))))]) [0, 1, 2] rfl
        have hD9 := hD.sub (ws' := [(h, .inr (1, [.int (iI z6), .int (iI 1), .int (iI z15), .int (iI op), .int (iI sz1), .int (iI ct)])), (b, .inr (0, [.ref r, .int (iI z)])), (r, .inl (cA, w, .inl (fun j => bI (t j))))]) [0, 1, 2] (by decide) rfl
        have hK9 := hK.sub (tys' := [(cA, .byte)]) [0] rfl
        exact mv_iret hx hb hr hlocks (fun tS ht hW => ⟨⟨_, (z6, 1, z15, (i + 1)), rfl, ⟨rfl, Or.inr ⟨idn_s (by omega) (by omega) (by omega) (by omega) (by omega), by omega, by omega, by omega⟩, rfl, rfl⟩, by rw [ht]; exact hP9, va_K.moved hW.alike hK9, hD9⟩, hS.F ht⟩) hS.2.2 dX1_decodeIdentifier_73
  · skip
    refine lv_iconst (v := iI (-1)) hx hb dX1_decodeIdentifier_5 rfl ?_
    have hP9 := hP.sub (ws' := [(h, .inr (1, [.int (iI kd), .int (iI cs), .int (iI tg), .int (iI op), .int (iI sz1), .int (iI ct)])), (b, .inr (0, [.ref r, .int (iI z)])), (r, .inl (cA, w, .inl (fun j => bI (t j))))]) [0, 1, 2] rfl
    have hD9 := hD.sub (ws' := [(h, .inr (1, [.int (iI kd), .int (iI cs), .int (iI tg), .int (iI op), .int (iI sz1), .int (iI ct)])), (b, .inr (0, [.ref r, .int (iI z)])), (r, .inl (cA, w, .inl (fun j => bI (t j))))]) [0, 1, 2] (by decide) rfl
    have hK9 := hK.sub (tys' := [(cA, .byte)]) [0] rfl
    exact mv_iret hx hb hr hlocks (fun tS ht hW => ⟨⟨_, (kd, cs, tg, (-1)), rfl, ⟨rfl, Or.inl ⟨idn_0 c1, rfl⟩, rfl, rfl⟩, by rw [ht]; exact hP9, va_K.moved hW.alike hK9, hD9⟩, hS.F ht⟩) hS.2.2 dX1_decodeIdentifier_6
set_option maxHeartbeats 4000000 in
set_option maxRecDepth 100000 in
theorem c_H_llen (l : Launch) (dC : Nat → ClassId) (dI : Nat → Nat → Nat) (sz : Nat) (h : Nat) (kd : Int) (cs : Int) (tg : Int) (op : Int) (ct : Int) (b : Nat) (r : Nat) (cA : ClassId) (w : Nat) (t : Nat → Int) (z : Int) (L : List Int) (i : Int) (x : Int) (st : Int) (hok : okB w t z L) (hi : 0 ≤ i ∧ i ≤ 127) (hct : 0 ≤ ct ∧ ct ≤ 5000) (hx4 : 0 ≤ x ∧ x ≤ 4096) (hst : st = 0 ∨ st = 1) : mv_Met l yX1_decodeLongLength wsX1_decodeLongLength ({ frames := 1, cells := 0, slots := 0, locals := 40 }) (va_Pc [.ref h, .ref b, .int (iI i), .int (iI x), .int (iI st)] (fun U => U.heap.size = sz ∧ va_P (dC, dI) vwCl [(h, .inr (1, [.int (iI kd), .int (iI cs), .int (iI tg), .int (iI op), .int (iI 0), .int (iI ct)])), (b, .inr (0, [.ref r, .int (iI z)])), (r, .inl (cA, w, .inl (fun j => bI (t j))))] U.heap ∧ va_K (dC, dI) vwCl [(cA, .byte)] U ∧ va_D (fun _ => True) [(h, .inr (1, [.int (iI kd), .int (iI cs), .int (iI tg), .int (iI op), .int (iI 0), .int (iI ct)])), (b, .inr (0, [.ref r, .int (iI z)])), (r, .inl (cA, w, .inl (fun j => bI (t j))))])) (mv_Q (fun (v : Option Value) (u : Int × Int × Int) (k n : Nat) => match u with | (sz', ct', q') => v = some (.int (iI q')) ∧ (dll (gd L) i ct x st = none ∧ q' = 0 ∨ dll (gd L) i ct x st = some sz' ∧ ct' = ct + i ∧ q' = 1 ∧ ct + i ≤ x ∧ 0 ≤ sz' ∧ sz' ≤ 2000000) ∧ k = 0 ∧ n = 0) (fun (u : Int × Int × Int) (tS : State) => match u with | (sz', ct', q') => va_P (dC, dI) vwCl [(h, .inr (1, [.int (iI kd), .int (iI cs), .int (iI tg), .int (iI op), .int (iI sz'), .int (iI ct')])), (b, .inr (0, [.ref r, .int (iI z)])), (r, .inl (cA, w, .inl (fun j => bI (t j))))] tS.heap ∧ va_K (dC, dI) vwCl [(cA, .byte)] tS ∧ va_D (va_A [(h, .inr (1, [.int (iI kd), .int (iI cs), .int (iI tg), .int (iI op), .int (iI 0), .int (iI ct)])), (b, .inr (0, [.ref r, .int (iI z)])), (r, .inl (cA, w, .inl (fun j => bI (t j))))] sz) [(h, .inr (1, [.int (iI kd), .int (iI cs), .int (iI tg), .int (iI op), .int (iI sz'), .int (iI ct')])), (b, .inr (0, [.ref r, .int (iI z)])), (r, .inl (cA, w, .inl (fun j => bI (t j))))]) (va_A [(h, .inr (1, [.int (iI kd), .int (iI cs), .int (iI tg), .int (iI op), .int (iI 0), .int (iI ct)])), (b, .inr (0, [.ref r, .int (iI z)])), (r, .inl (cA, w, .inl (fun j => bI (t j))))] sz)) (va_A [(h, .inr (1, [.int (iI kd), .int (iI cs), .int (iI tg), .int (iI op), .int (iI 0), .int (iI ct)])), (b, .inr (0, [.ref r, .int (iI z)])), (r, .inl (cA, w, .inl (fun j => bI (t j))))] sz) := by
  refine mv_ofW (cc := cX1_decodeLongLength) (maxL := 7) (ret := (some .boolean)) (by decide) rfl ?_
  intro p e s m args below meth c s₁ B hml hv
  obtain ⟨rfl, hsz, hP, hK, hD0⟩ := hv
  have hx := B.exec
  have hb := B.bytes
  have hr := B.returns
  have hT : ∀ w ∈ wT, w.before _ s = true := fun w h => atoms_spec (ws := wsX1_decodeLongLength) B.pre w (List.mem_cons_of_mem _ h)
  have hown : s.vm.findClass RX1 = some m.cls := findClass_of_methodNamed B.named
  have hlocks := B.notSynchronized
  subst hsz
  have hD := hD0.self (sz := s.heap.size)
  generalize hAe : va_A [(h, .inr (1, [.int (iI kd), .int (iI cs), .int (iI tg), .int (iI op), .int (iI 0), .int (iI ct)])), (b, .inr (0, [.ref r, .int (iI z)])), (r, .inl (cA, w, .inl (fun j => bI (t j))))] s.heap.size = A at hD ⊢
  have hA : ∀ q : Nat, s.heap.size ≤ q → A q := fun q h => by rw [← hAe]; exact Or.inr h
  have hS : va_S A s.heap s.heap [] := va_S.rf
  have hP : va_P (dC, dI) vwCl [(h, .inr (1, [.int (iI kd), .int (iI cs), .int (iI tg), .int (iI op), .int (iI 0), .int (iI ct)])), (b, .inr (0, [.ref r, .int (iI z)])), (r, .inl (cA, w, .inl (fun j => bI (t j))))] s.heap := hP
  have hl := lv_entry ([.ref h, .ref b, .int (iI i), .int (iI x), .int (iI st)]) (n := 7) (Nat.le_of_ble_eq_true rfl)
  rw [lg_entry_eq]
  generalize (lg_sl ([.ref h, .ref b, .int (iI i), .int (iI x), .int (iI st)]) ++ List.replicate (7 - (lg_sl ([.ref h, .ref b, .int (iI i), .int (iI x), .int (iI st)])).length) Slot.unset).toArray = ls at hl ⊢
  have hl : lv_has ls 7 [(0, .ref h), (1, .ref b), (2, .int (iI i)), (3, .int (iI x)), (4, .int (iI st))] := hl
  obtain ⟨hw1, hw2, hw3, hw4, hw5, hw6⟩ := id hok
  have hg8 := gd_rng hok
  have hgi := hg8 ct
  refine mv_nameQ (fun Q9 hQ9 => ?_)
  have LP : ∀ (fu : Nat) (a : Int) (j : Int) (bz : Int) (H : Heap) (locs : List Loc) (ls : Array Slot) (kc ks : Nat), (i - j < (fu : Int)) → (0 ≤ j ∧ j ≤ i) → (0 ≤ a ∧ a ≤ 2000000) → (i ≤ x - ct) → (bz = 1 ∧ gd L ct = 0 ∨ bz = 0 ∧ ¬ gd L ct = 0) → (llen (gd L) i.toNat ct 0 = llen (gd L) (i - j).toNat (ct + j) a) → (kc = 0 ∧ ks = 0) → va_K (dC, dI) vwCl [(cA, .byte)] s → va_P (dC, dI) vwCl [(h, .inr (1, [.int (iI kd), .int (iI cs), .int (iI tg), .int (iI op), .int (iI a), .int (iI ct)])), (b, .inr (0, [.ref r, .int (iI z)])), (r, .inl (cA, w, .inl (fun j => bI (t j))))] H → va_D A [(h, .inr (1, [.int (iI kd), .int (iI cs), .int (iI tg), .int (iI op), .int (iI a), .int (iI ct)])), (b, .inr (0, [.ref r, .int (iI z)])), (r, .inl (cA, w, .inl (fun j => bI (t j))))] → va_S A s.heap H locs → lv_has ls 7 [(0, .ref h), (1, .ref b), (2, .int (iI i)), (3, .int (iI x)), (4, .int (iI st)), (5, .int (iI bz)), (6, .int (iI j))] → W p l e ({ frames := 1, cells := 0, slots := 0, locals := 40 }) s m ([.ref h, .ref b, .int (iI i), .int (iI x), .int (iI st)] : List Value).toArray below meth c H locs kc ks Q9 (F0 m 33 ls []) := by
    intro fu
    induction fu with
    | zero =>
      intro a j bz H locs ls kc ks hfu hj ha hix hbz hn hkc hK hP hD hS hl
      exfalso
      omega
    | succ fu ih =>
      intro a j bz H locs ls kc ks hfu hj ha hix hbz hn hkc hK hP hD hS hl
      have hgj := hg8 (ct + j)
      refine lv_iload hx hb dX1_decodeLongLength_33 (lv_at hl 6 rfl) ?_
      refine lv_iload_n hx hb dX1_decodeLongLength_35 rfl (lv_at hl 2 rfl) ?_
      refine li_icmp_ge (tgt := 86) hx hb (by omega) (by omega) dX1_decodeLongLength_36 (by decide) (fun c1 => ?_) (fun c1 => ?_)
      · skip
        refine lv_aload_n hx hb dX1_decodeLongLength_86 rfl (lv_at hl 0 rfl) ?_
        refine lv_dup hx hb dX1_decodeLongLength_87 rfl ?_
        refine va_get (D := (dC, dI)) (ci := 1) (v := .int (iI ct)) (C := RX1) (T := TX1) (N := 6) hx hb hT inX1 hown hK hP 0 rfl rfl 5 (by decide) (hT _ wd88) (fun _ h9 => h9) rfl dX1_decodeLongLength_88 ?_
        refine lv_iload_n hx hb dX1_decodeLongLength_91 rfl (lv_at hl 2 rfl) ?_
        refine li_iadd hx hb dX1_decodeLongLength_92 ?_
        refine li_nm (fun z2 ez2 => ?_)
        refine va_put (D := (dC, dI)) (ci := 1) (v := .int (iI z2)) (ty := .int) (C := RX1) (T := TX1) (N := 6) hx hb hT inX1 tyX1 tyX1_ok nX1 hown hK hP hD hS 0 rfl rfl 5 (by decide) (hT _ wd88) (fun _ h9 => h9) rfl (by decide +kernel) rfl rfl (Nat.le_of_ble_eq_true rfl) dX1_decodeLongLength_93 (fun H locs hP hD hS => ?_)
        have hP : va_P (dC, dI) vwCl [(h, .inr (1, [.int (iI kd), .int (iI cs), .int (iI tg), .int (iI op), .int (iI a), .int (iI z2)])), (b, .inr (0, [.ref r, .int (iI z)])), (r, .inl (cA, w, .inl (fun j => bI (t j))))] H := hP
        have hD : va_D A [(h, .inr (1, [.int (iI kd), .int (iI cs), .int (iI tg), .int (iI op), .int (iI a), .int (iI z2)])), (b, .inr (0, [.ref r, .int (iI z)])), (r, .inl (cA, w, .inl (fun j => bI (t j))))] := hD
        refine lv_iload hx hb dX1_decodeLongLength_96 (lv_at hl 4 rfl) ?_
        refine li_if_eq (tgt := 116) hx hb (by omega) dX1_decodeLongLength_98 (by decide) (fun c3 => ?_) (fun c3 => ?_)
        · skip
          refine lv_iconst (v := iI 1) hx hb dX1_decodeLongLength_116 rfl ?_
          refine lv_goto (tgt := 121) hx hb dX1_decodeLongLength_117 (by decide) ?_
          have hend : llen (gd L) i.toNat ct 0 = a := by rw [hn]; exact llen_e (by omega)
          subst hQ9
          have hP9 := hP.sub (ws' := [(h, .inr (1, [.int (iI kd), .int (iI cs), .int (iI tg), .int (iI op), .int (iI a), .int (iI z2)])), (b, .inr (0, [.ref r, .int (iI z)])), (r, .inl (cA, w, .inl (fun j => bI (t j))))]) [0, 1, 2] rfl
          have hD9 := hD.sub (ws' := [(h, .inr (1, [.int (iI kd), .int (iI cs), .int (iI tg), .int (iI op), .int (iI a), .int (iI z2)])), (b, .inr (0, [.ref r, .int (iI z)])), (r, .inl (cA, w, .inl (fun j => bI (t j))))]) [0, 1, 2] (by decide) rfl
          have hK9 := hK.sub (tys' := [(cA, .byte)]) [0] rfl
          exact mv_zret hx hb hr (zb_n (by omega)) hlocks (fun tS ht hW => ⟨⟨_, (a, z2, 1), rfl, ⟨rfl, Or.inr ⟨dll_2 (by omega) hend (by omega), by omega, rfl, by omega, by omega, by omega⟩, by omega, by omega⟩, by rw [ht]; exact hP9, va_K.moved hW.alike hK9, hD9⟩, hS.F ht⟩) hS.2.2 dX1_decodeLongLength_121
        · skip
          refine lv_iload hx hb dX1_decodeLongLength_101 (lv_at hl 5 rfl) ?_
          refine li_if_ne (tgt := 120) hx hb (by omega) dX1_decodeLongLength_103 (by decide) (fun c4 => ?_) (fun c4 => ?_)
          · skip
            refine lv_iconst (v := iI 0) hx hb dX1_decodeLongLength_120 rfl ?_
            have hend : llen (gd L) i.toNat ct 0 = a := by rw [hn]; exact llen_e (by omega)
            subst hQ9
            have hP9 := hP.sub (ws' := [(h, .inr (1, [.int (iI kd), .int (iI cs), .int (iI tg), .int (iI op), .int (iI a), .int (iI z2)])), (b, .inr (0, [.ref r, .int (iI z)])), (r, .inl (cA, w, .inl (fun j => bI (t j))))]) [0, 1, 2] rfl
            have hD9 := hD.sub (ws' := [(h, .inr (1, [.int (iI kd), .int (iI cs), .int (iI tg), .int (iI op), .int (iI a), .int (iI z2)])), (b, .inr (0, [.ref r, .int (iI z)])), (r, .inl (cA, w, .inl (fun j => bI (t j))))]) [0, 1, 2] (by decide) rfl
            have hK9 := hK.sub (tys' := [(cA, .byte)]) [0] rfl
            exact mv_zret hx hb hr (zb_n (by omega)) hlocks (fun tS ht hW => ⟨⟨_, (a, z2, 0), rfl, ⟨rfl, Or.inl ⟨dll_1 (by omega) hend (by omega), rfl⟩, by omega, by omega⟩, by rw [ht]; exact hP9, va_K.moved hW.alike hK9, hD9⟩, hS.F ht⟩) hS.2.2 dX1_decodeLongLength_121
          · skip
            refine lv_aload_n hx hb dX1_decodeLongLength_106 rfl (lv_at hl 0 rfl) ?_
            refine va_get (D := (dC, dI)) (ci := 1) (v := .int (iI a)) (C := RX1) (T := TX1) (N := 6) hx hb hT inX1 hown hK hP 0 rfl rfl 4 (by decide) (hT _ wd86) (fun _ h9 => h9) rfl dX1_decodeLongLength_107 ?_
            refine lv_sipush (v := iI 128) hx hb dX1_decodeLongLength_110 (by decide +kernel) ?_
            refine li_icmp_lt (tgt := 120) hx hb (by omega) (by omega) dX1_decodeLongLength_113 (by decide) (fun c5 => ?_) (fun c5 => ?_)
            · skip
              refine lv_iconst (v := iI 0) hx hb dX1_decodeLongLength_120 rfl ?_
              have hend : llen (gd L) i.toNat ct 0 = a := by rw [hn]; exact llen_e (by omega)
              subst hQ9
              have hP9 := hP.sub (ws' := [(h, .inr (1, [.int (iI kd), .int (iI cs), .int (iI tg), .int (iI op), .int (iI a), .int (iI z2)])), (b, .inr (0, [.ref r, .int (iI z)])), (r, .inl (cA, w, .inl (fun j => bI (t j))))]) [0, 1, 2] rfl
              have hD9 := hD.sub (ws' := [(h, .inr (1, [.int (iI kd), .int (iI cs), .int (iI tg), .int (iI op), .int (iI a), .int (iI z2)])), (b, .inr (0, [.ref r, .int (iI z)])), (r, .inl (cA, w, .inl (fun j => bI (t j))))]) [0, 1, 2] (by decide) rfl
              have hK9 := hK.sub (tys' := [(cA, .byte)]) [0] rfl
              exact mv_zret hx hb hr (zb_n (by omega)) hlocks (fun tS ht hW => ⟨⟨_, (a, z2, 0), rfl, ⟨rfl, Or.inl ⟨dll_1 (by omega) hend (by omega), rfl⟩, by omega, by omega⟩, by rw [ht]; exact hP9, va_K.moved hW.alike hK9, hD9⟩, hS.F ht⟩) hS.2.2 dX1_decodeLongLength_121
            · skip
              refine lv_iconst (v := iI 1) hx hb dX1_decodeLongLength_116 rfl ?_
              refine lv_goto (tgt := 121) hx hb dX1_decodeLongLength_117 (by decide) ?_
              have hend : llen (gd L) i.toNat ct 0 = a := by rw [hn]; exact llen_e (by omega)
              subst hQ9
              have hP9 := hP.sub (ws' := [(h, .inr (1, [.int (iI kd), .int (iI cs), .int (iI tg), .int (iI op), .int (iI a), .int (iI z2)])), (b, .inr (0, [.ref r, .int (iI z)])), (r, .inl (cA, w, .inl (fun j => bI (t j))))]) [0, 1, 2] rfl
              have hD9 := hD.sub (ws' := [(h, .inr (1, [.int (iI kd), .int (iI cs), .int (iI tg), .int (iI op), .int (iI a), .int (iI z2)])), (b, .inr (0, [.ref r, .int (iI z)])), (r, .inl (cA, w, .inl (fun j => bI (t j))))]) [0, 1, 2] (by decide) rfl
              have hK9 := hK.sub (tys' := [(cA, .byte)]) [0] rfl
              exact mv_zret hx hb hr (zb_n (by omega)) hlocks (fun tS ht hW => ⟨⟨_, (a, z2, 1), rfl, ⟨rfl, Or.inr ⟨dll_2 (by omega) hend (by omega), by omega, rfl, by omega, by omega, by omega⟩, by omega, by omega⟩, by rw [ht]; exact hP9, va_K.moved hW.alike hK9, hD9⟩, hS.F ht⟩) hS.2.2 dX1_decodeLongLength_121
      · skip
        refine lv_aload_n hx hb dX1_decodeLongLength_39 rfl (lv_at hl 0 rfl) ?_
        refine lv_aload_n hx hb dX1_decodeLongLength_40 rfl (lv_at hl 0 rfl) ?_
        refine va_get (D := (dC, dI)) (ci := 1) (v := .int (iI a)) (C := RX1) (T := TX1) (N := 6) hx hb hT inX1 hown hK hP 0 rfl rfl 4 (by decide) (hT _ wd86) (fun _ h9 => h9) rfl dX1_decodeLongLength_41 ?_
        refine lv_sipush (v := iI 4096) hx hb dX1_decodeLongLength_44 (by decide +kernel) ?_
        refine li_icmp_le (tgt := 57) hx hb (by omega) (by omega) dX1_decodeLongLength_47 (by decide) (fun c6 => ?_) (fun c6 => ?_)
        · skip
          refine lv_aload_n hx hb dX1_decodeLongLength_57 rfl (lv_at hl 0 rfl) ?_
          refine va_get (D := (dC, dI)) (ci := 1) (v := .int (iI a)) (C := RX1) (T := TX1) (N := 6) hx hb hT inX1 hown hK hP 0 rfl rfl 4 (by decide) (hT _ wd86) (fun _ h9 => h9) rfl dX1_decodeLongLength_58 ?_
          refine lv_sipush (v := iI 256) hx hb dX1_decodeLongLength_61 (by decide +kernel) ?_
          refine li_imul hx hb dX1_decodeLongLength_64 ?_
          refine lv_aload_n hx hb dX1_decodeLongLength_65 rfl (lv_at hl 1 rfl) ?_
          refine lv_aload_n hx hb dX1_decodeLongLength_66 rfl (lv_at hl 0 rfl) ?_
          refine va_get (D := (dC, dI)) (ci := 1) (v := .int (iI ct)) (C := RX1) (T := TX1) (N := 6) hx hb hT inX1 hown hK hP 0 rfl rfl 5 (by decide) (hT _ wd88) (fun _ h9 => h9) rfl dX1_decodeLongLength_67 ?_
          refine lv_iload hx hb dX1_decodeLongLength_70 (lv_at hl 6 rfl) ?_
          refine li_iadd hx hb dX1_decodeLongLength_72 ?_
          have hPc := hP.sub (ws' := [(b, .inr (0, [.ref r, .int (iI z)])), (r, .inl (cA, w, .inl (fun j => bI (t j))))]) [1, 2] rfl
          have hDc := hD.sub (ws' := [(b, .inr (0, [.ref r, .int (iI z)])), (r, .inl (cA, w, .inl (fun j => bI (t j))))]) [1, 2] (by decide) rfl
          have hKc := hK.sub (tys' := [(cA, .byte)]) [0] rfl
          have hFc := va_free (wc := [(b, .inr (0, [.ref r, .int (iI z)])), (r, .inl (cA, w, .inl (fun j => bI (t j))))]) hD hS hA [1, 2] rfl
          refine mv_call (mv_runV (As := [.int (iI (ct + j))]) (rest := [.int (iI (a * 256)), .ref h]) ⟨hx, hb, hml, hown, hT⟩ (c_B_at l dC dI H.size b r cA w t z L (ct + j) (hok) (by omega)) (cwV 1 hT (gV wd321 wd322 wd323 wd27 wd324) rfl rfl rfl (by decide +kernel) ⟨show 0 + 1 ≤ 1 from by omega, show 8 + (2 + 11) + 0 ≤ 40 from by omega⟩) ⟨fun a U g mk q => by obtain ⟨q0, q1, qP, qK, qD⟩ := q; exact ⟨q0, q1, qP, va_K.moved (u := U) (U := U.calling g mk a) (Vm.Alike.refl U.vm) qK, qD⟩, va_recv hKc hPc (ci := 0) (q0 := 0) rfl rfl, fun U hU hW => ⟨rfl, by rw [hU], by rw [hU]; exact hPc, va_K.moved hW.alike hKc, hDc.weaken (fun _ _ _ _ => trivial)⟩⟩ rfl rfl hl.1 rfl (lv_room (Nat.le_of_ble_eq_true rfl)) dX1_decodeLongLength_73 ⟨show kc + 0 ≤ 0 from by omega, show ks + 0 ≤ 0 from by omega⟩) hS (fun q _ h => hFc q h) hFc (fun v9 u k7 n8 tS H1 locs ht hvm hw hB hz1 hk1 hS => ?_)
          obtain ⟨hP1, hK1, hD1⟩ := hB
          rw [ht] at hP1
          have hK1 := va_K.moved hvm.symm hK1
          try dsimp only at hw
          obtain ⟨hP, hD⟩ := va_join (wr := [(h, .inr (1, [.int (iI kd), .int (iI cs), .int (iI tg), .int (iI op), .int (iI a), .int (iI ct)]))]) (w1 := [(b, .inr (0, [.ref r, .int (iI z)])), (r, .inl (cA, w, .inl (fun j => bI (t j))))]) hP hD [1, 2] [0] rfl rfl (by decide) (by decide) hk1 hFc hP1 hD1
          have hK := (hK.sub (tys' := []) [] rfl).app hK1
          generalize H1 = H at hP hS ⊢
          have hP : va_P (dC, dI) vwCl [(h, .inr (1, [.int (iI kd), .int (iI cs), .int (iI tg), .int (iI op), .int (iI a), .int (iI ct)])), (b, .inr (0, [.ref r, .int (iI z)])), (r, .inl (cA, w, .inl (fun j => bI (t j))))] H := hP
          have hD : va_D A [(h, .inr (1, [.int (iI kd), .int (iI cs), .int (iI tg), .int (iI op), .int (iI a), .int (iI ct)])), (b, .inr (0, [.ref r, .int (iI z)])), (r, .inl (cA, w, .inl (fun j => bI (t j))))] := hD
          have hK : va_K (dC, dI) vwCl [(cA, .byte)] s := hK
          obtain ⟨rfl, rfl, rfl⟩ := hw
          refine W.eq (g2 := F0 m 76 ls [.int (iI (gd L (ct + j))), .int (iI (a * 256)), .ref h]) rfl ?_
          refine li_iadd hx hb dX1_decodeLongLength_76 ?_
          refine li_nm (fun z10 ez10 => ?_)
          refine va_put (D := (dC, dI)) (ci := 1) (v := .int (iI z10)) (ty := .int) (C := RX1) (T := TX1) (N := 6) hx hb hT inX1 tyX1 tyX1_ok nX1 hown hK hP hD hS 0 rfl rfl 4 (by decide) (hT _ wd86) (fun _ h9 => h9) rfl (by decide +kernel) rfl rfl (Nat.le_of_ble_eq_true rfl) dX1_decodeLongLength_77 (fun H locs hP hD hS => ?_)
          have hP : va_P (dC, dI) vwCl [(h, .inr (1, [.int (iI kd), .int (iI cs), .int (iI tg), .int (iI op), .int (iI z10), .int (iI ct)])), (b, .inr (0, [.ref r, .int (iI z)])), (r, .inl (cA, w, .inl (fun j => bI (t j))))] H := hP
          have hD : va_D A [(h, .inr (1, [.int (iI kd), .int (iI cs), .int (iI tg), .int (iI op), .int (iI z10), .int (iI ct)])), (b, .inr (0, [.ref r, .int (iI z)])), (r, .inl (cA, w, .inl (fun j => bI (t j))))] := hD
          obtain ⟨z11, ez11⟩ : ∃ y : Int, y = j + 1 := ⟨_, rfl⟩
          refine lv_iinc (v := iI z11) (lv' := [(6, .int (iI z11)), (0, .ref h), (1, .ref b), (2, .int (iI i)), (3, .int (iI x)), (4, .int (iI st)), (5, .int (iI bz))]) hx hb dX1_decodeLongLength_80 hl (k := 6) rfl (by rw [ez11]; exact iI_add _ _) (by decide) rfl (fun ls hl => ?_)
          refine lv_goto (tgt := 33) hx hb dX1_decodeLongLength_83 (by decide) ?_
          have z11_eq : z11 = j + 1 := by omega
          exact ih z10 z11 bz _ _ _ _ _ (by omega) (by omega) (by omega) (hix) (hbz) (by rw [hn, z11_eq]; exact llen_s (by omega) (by first | (rw [if_pos (by omega)]; done) | (rw [if_pos (by omega)]; omega) | (rw [if_neg (by omega)]; omega))) (by omega) (hK.sub [0] rfl) (hP.sub [0, 1, 2] rfl) (hD.sub [0, 1, 2] (by decide) rfl) hS (lv_sub hl [1, 2, 3, 4, 5, 6, 0] rfl)
        · skip
          refine lv_aload_n hx hb dX1_decodeLongLength_50 rfl (lv_at hl 0 rfl) ?_
          refine va_get (D := (dC, dI)) (ci := 1) (v := .int (iI a)) (C := RX1) (T := TX1) (N := 6) hx hb hT inX1 hown hK hP 0 rfl rfl 4 (by decide) (hT _ wd86) (fun _ h9 => h9) rfl dX1_decodeLongLength_51 ?_
          refine lv_goto (tgt := 77) hx hb dX1_decodeLongLength_54 (by decide) ?_
          refine va_put (D := (dC, dI)) (ci := 1) (v := .int (iI a)) (ty := .int) (C := RX1) (T := TX1) (N := 6) hx hb hT inX1 tyX1 tyX1_ok nX1 hown hK hP hD hS 0 rfl rfl 4 (by decide) (hT _ wd86) (fun _ h9 => h9) rfl (by decide +kernel) rfl rfl (Nat.le_of_ble_eq_true rfl) dX1_decodeLongLength_77 (fun H locs hP hD hS => ?_)
          have hP : va_P (dC, dI) vwCl [(h, .inr (1, [.int (iI kd), .int (iI cs), .int (iI tg), .int (iI op), .int (iI a), .int (iI ct)])), (b, .inr (0, [.ref r, .int (iI z)])), (r, .inl (cA, w, .inl (fun j => bI (t j))))] H := hP
          have hD : va_D A [(h, .inr (1, [.int (iI kd), .int (iI cs), .int (iI tg), .int (iI op), .int (iI a), .int (iI ct)])), (b, .inr (0, [.ref r, .int (iI z)])), (r, .inl (cA, w, .inl (fun j => bI (t j))))] := hD
          obtain ⟨z12, ez12⟩ : ∃ y : Int, y = j + 1 := ⟨_, rfl⟩
          refine lv_iinc (v := iI z12) (lv' := [(6, .int (iI z12)), (0, .ref h), (1, .ref b), (2, .int (iI i)), (3, .int (iI x)), (4, .int (iI st)), (5, .int (iI bz))]) hx hb dX1_decodeLongLength_80 hl (k := 6) rfl (by rw [ez12]; exact iI_add _ _) (by decide) rfl (fun ls hl => ?_)
          refine lv_goto (tgt := 33) hx hb dX1_decodeLongLength_83 (by decide) ?_
          have z12_eq : z12 = j + 1 := by omega
          exact ih a z12 bz _ _ _ _ _ (by omega) (by omega) (by omega) (hix) (hbz) (by rw [hn, z12_eq]; exact llen_s (by omega) (by first | (rw [if_pos (by omega)]; done) | (rw [if_pos (by omega)]; omega) | (rw [if_neg (by omega)]; omega))) (by omega) (hK.sub [0] rfl) (hP.sub [0, 1, 2] rfl) (hD.sub [0, 1, 2] (by decide) rfl) hS (lv_sub hl [1, 2, 3, 4, 5, 6, 0] rfl)
  refine lv_iload_n hx hb dX1_decodeLongLength_0 rfl (lv_at hl 2 rfl) ?_
  refine lv_iload_n hx hb dX1_decodeLongLength_1 rfl (lv_at hl 3 rfl) ?_
  refine lv_aload_n hx hb dX1_decodeLongLength_2 rfl (lv_at hl 0 rfl) ?_
  refine va_get (D := (dC, dI)) (ci := 1) (v := .int (iI ct)) (C := RX1) (T := TX1) (N := 6) hx hb hT inX1 hown hK hP 0 rfl rfl 5 (by decide) (hT _ wd88) (fun _ h9 => h9) rfl dX1_decodeLongLength_3 ?_
  refine li_isub hx hb dX1_decodeLongLength_6 ?_
  refine li_icmp_le (tgt := 12) hx hb (by omega) (by omega) dX1_decodeLongLength_7 (by decide) (fun c13 => ?_) (fun c13 => ?_)
  · skip
    refine lv_aload_n hx hb dX1_decodeLongLength_12 rfl (lv_at hl 1 rfl) ?_
    refine lv_aload_n hx hb dX1_decodeLongLength_13 rfl (lv_at hl 0 rfl) ?_
    refine va_get (D := (dC, dI)) (ci := 1) (v := .int (iI ct)) (C := RX1) (T := TX1) (N := 6) hx hb hT inX1 hown hK hP 0 rfl rfl 5 (by decide) (hT _ wd88) (fun _ h9 => h9) rfl dX1_decodeLongLength_14 ?_
    have hPc := hP.sub (ws' := [(b, .inr (0, [.ref r, .int (iI z)])), (r, .inl (cA, w, .inl (fun j => bI (t j))))]) [1, 2] rfl
    have hDc := hD.sub (ws' := [(b, .inr (0, [.ref r, .int (iI z)])), (r, .inl (cA, w, .inl (fun j => bI (t j))))]) [1, 2] (by decide) rfl
    have hKc := hK.sub (tys' := [(cA, .byte)]) [0] rfl
    have hFc := va_free (wc := [(b, .inr (0, [.ref r, .int (iI z)])), (r, .inl (cA, w, .inl (fun j => bI (t j))))]) hD hS hA [1, 2] rfl
    refine mv_call (mv_runV (As := [.int (iI ct)]) (rest := []) ⟨hx, hb, hml, hown, hT⟩ (c_B_at l dC dI s.heap.size b r cA w t z L ct (hok) (by omega)) (cwV 1 hT (gV wd321 wd322 wd323 wd27 wd324) rfl rfl rfl (by decide +kernel) ⟨show 0 + 1 ≤ 1 from by omega, show 8 + (2 + 11) + 0 ≤ 40 from by omega⟩) ⟨fun a U g mk q => by obtain ⟨q0, q1, qP, qK, qD⟩ := q; exact ⟨q0, q1, qP, va_K.moved (u := U) (U := U.calling g mk a) (Vm.Alike.refl U.vm) qK, qD⟩, va_recv hKc hPc (ci := 0) (q0 := 0) rfl rfl, fun U hU hW => ⟨rfl, by rw [hU], by rw [hU]; exact hPc, va_K.moved hW.alike hKc, hDc.weaken (fun _ _ _ _ => trivial)⟩⟩ rfl rfl hl.1 rfl (lv_room (Nat.le_of_ble_eq_true rfl)) dX1_decodeLongLength_17 ⟨show 0 + 0 ≤ 0 from by omega, show 0 + 0 ≤ 0 from by omega⟩) hS (fun q _ h => hFc q h) hFc (fun v16 u k14 n15 tS H1 locs ht hvm hw hB hz1 hk1 hS => ?_)
    obtain ⟨hP1, hK1, hD1⟩ := hB
    rw [ht] at hP1
    have hK1 := va_K.moved hvm.symm hK1
    try dsimp only at hw
    obtain ⟨hP, hD⟩ := va_join (wr := [(h, .inr (1, [.int (iI kd), .int (iI cs), .int (iI tg), .int (iI op), .int (iI 0), .int (iI ct)]))]) (w1 := [(b, .inr (0, [.ref r, .int (iI z)])), (r, .inl (cA, w, .inl (fun j => bI (t j))))]) hP hD [1, 2] [0] rfl rfl (by decide) (by decide) hk1 hFc hP1 hD1
    have hK := (hK.sub (tys' := []) [] rfl).app hK1
    generalize H1 = H at hP hS ⊢
    have hP : va_P (dC, dI) vwCl [(h, .inr (1, [.int (iI kd), .int (iI cs), .int (iI tg), .int (iI op), .int (iI 0), .int (iI ct)])), (b, .inr (0, [.ref r, .int (iI z)])), (r, .inl (cA, w, .inl (fun j => bI (t j))))] H := hP
    have hD : va_D A [(h, .inr (1, [.int (iI kd), .int (iI cs), .int (iI tg), .int (iI op), .int (iI 0), .int (iI ct)])), (b, .inr (0, [.ref r, .int (iI z)])), (r, .inl (cA, w, .inl (fun j => bI (t j))))] := hD
    have hK : va_K (dC, dI) vwCl [(cA, .byte)] s := hK
    obtain ⟨rfl, rfl, rfl⟩ := hw
    refine W.eq (g2 := F0 m 20 ls [.int (iI (gd L ct))]) rfl ?_
    refine li_if_ne (tgt := 27) hx hb (by omega) dX1_decodeLongLength_20 (by decide) (fun c17 => ?_) (fun c17 => ?_)
    · skip
      refine lv_iconst (v := iI 0) hx hb dX1_decodeLongLength_27 rfl ?_
      refine lv_istore (lv' := [(5, .int (iI 0)), (0, .ref h), (1, .ref b), (2, .int (iI i)), (3, .int (iI x)), (4, .int (iI st))]) hx hb dX1_decodeLongLength_28 hl (by decide) rfl (fun ls hl => ?_)
      refine lv_iconst (v := iI 0) hx hb dX1_decodeLongLength_30 rfl ?_
      refine lv_istore (lv' := [(6, .int (iI 0)), (5, .int (iI 0)), (0, .ref h), (1, .ref b), (2, .int (iI i)), (3, .int (iI x)), (4, .int (iI st))]) hx hb dX1_decodeLongLength_31 hl (by decide) rfl (fun ls hl => ?_)
      exact LP (1000) 0 0 0 _ _ _ _ _ (by omega) (by omega) (by omega) (by omega) (by omega) (by rw [Int.sub_zero, Int.add_zero]) (by omega) (hK.sub [0] rfl) (hP.sub [0, 1, 2] rfl) (hD.sub [0, 1, 2] (by decide) rfl) hS (lv_sub hl [2, 3, 4, 5, 6, 1, 0] rfl)
    · skip
      refine lv_iconst (v := iI 1) hx hb dX1_decodeLongLength_23 rfl ?_
      refine lv_goto (tgt := 28) hx hb dX1_decodeLongLength_24 (by decide) ?_
      refine lv_istore (lv' := [(5, .int (iI 1)), (0, .ref h), (1, .ref b), (2, .int (iI i)), (3, .int (iI x)), (4, .int (iI st))]) hx hb dX1_decodeLongLength_28 hl (by decide) rfl (fun ls hl => ?_)
      refine lv_iconst (v := iI 0) hx hb dX1_decodeLongLength_30 rfl ?_
      refine lv_istore (lv' := [(6, .int (iI 0)), (5, .int (iI 1)), (0, .ref h), (1, .ref b), (2, .int (iI i)), (3, .int (iI x)), (4, .int (iI st))]) hx hb dX1_decodeLongLength_31 hl (by decide) rfl (fun ls hl => ?_)
      exact LP (1000) 0 0 1 _ _ _ _ _ (by omega) (by omega) (by omega) (by omega) (by omega) (by rw [Int.sub_zero, Int.add_zero]) (by omega) (hK.sub [0] rfl) (hP.sub [0, 1, 2] rfl) (hD.sub [0, 1, 2] (by decide) rfl) hS (lv_sub hl [2, 3, 4, 5, 6, 1, 0] rfl)
  · skip
    refine lv_iconst (v := iI 0) hx hb dX1_decodeLongLength_10 rfl ?_
    subst hQ9
    have hP9 := hP.sub (ws' := [(h, .inr (1, [.int (iI kd), .int (iI cs), .int (iI tg), .int (iI op), .int (iI 0), .int (iI ct)])), (b, .inr (0, [.ref r, .int (iI z)])), (r, .inl (cA, w, .inl (fun j => bI (t j))))]) [0, 1, 2] rfl
    have hD9 := hD.sub (ws' := [(h, .inr (1, [.int (iI kd), .int (iI cs), .int (iI tg), .int (iI op), .int (iI 0), .int (iI ct)])), (b, .inr (0, [.ref r, .int (iI z)])), (r, .inl (cA, w, .inl (fun j => bI (t j))))]) [0, 1, 2] (by decide) rfl
    have hK9 := hK.sub (tys' := [(cA, .byte)]) [0] rfl
    exact mv_zret hx hb hr (zb_n (by omega)) hlocks (fun tS ht hW => ⟨⟨_, (0, ct, 0), rfl, ⟨rfl, Or.inl ⟨dll_0 (by omega), rfl⟩, by omega, by omega⟩, by rw [ht]; exact hP9, va_K.moved hW.alike hK9, hD9⟩, hS.F ht⟩) hS.2.2 dX1_decodeLongLength_11
set_option maxHeartbeats 4000000 in
set_option maxRecDepth 100000 in
theorem c_H_hdr (l : Launch) (dC : Nat → ClassId) (dI : Nat → Nat → Nat) (sz : Nat) (h : Nat) (kd : Int) (cs : Int) (tg : Int) (op : Int) (sz1 : Int) (ct : Int) (b : Nat) (r : Nat) (cA : ClassId) (w : Nat) (t : Nat → Int) (z : Int) (L : List Int) (i : Int) (x : Int) (st : Int) (hok : okB w t z L) (hi : 0 ≤ i ∧ i ≤ 5000) (hx4 : 0 ≤ x ∧ x ≤ 4096) (hst : st = 0 ∨ st = 1) : mv_Met l yX1_decode wsX1_decode ({ frames := 3, cells := 0, slots := 0, locals := 100 }) (va_Pc [.ref h, .ref b, .int (iI i), .int (iI x), .int (iI st)] (fun U => U.heap.size = sz ∧ va_P (dC, dI) vwCl [(h, .inr (1, [.int (iI kd), .int (iI cs), .int (iI tg), .int (iI op), .int (iI sz1), .int (iI ct)])), (b, .inr (0, [.ref r, .int (iI z)])), (r, .inl (cA, w, .inl (fun j => bI (t j))))] U.heap ∧ va_K (dC, dI) vwCl [(cA, .byte)] U ∧ va_D (fun _ => True) [(h, .inr (1, [.int (iI kd), .int (iI cs), .int (iI tg), .int (iI op), .int (iI sz1), .int (iI ct)])), (b, .inr (0, [.ref r, .int (iI z)])), (r, .inl (cA, w, .inl (fun j => bI (t j))))])) (mv_Q (fun (v : Option Value) (u : Int × Int × Int × Int × Int × Int × Int) (k n : Nat) => match u with | (kd', cs', tg', op', sz', ct', q') => v = some (.int (iI q')) ∧ (hdr (gd L) st i x = none ∧ q' = 0 ∨ hdr (gd L) st i x = some (kd', cs', tg', op', sz', ct') ∧ q' = 1 ∧ i + 2 ≤ ct' ∧ ct' ≤ x ∧ 0 ≤ sz' ∧ sz' ≤ x - ct' ∧ (op' = 0 ∨ op' = 1) ∧ 0 ≤ kd' ∧ kd' ≤ 3 ∧ (cs' = 0 ∨ cs' = 1) ∧ -1 ≤ tg' ∧ tg' ≤ 2147483647) ∧ k = 0 ∧ n = 0) (fun (u : Int × Int × Int × Int × Int × Int × Int) (tS : State) => match u with | (kd', cs', tg', op', sz', ct', q') => va_P (dC, dI) vwCl [(h, .inr (1, [.int (iI kd'), .int (iI cs'), .int (iI tg'), .int (iI op'), .int (iI sz'), .int (iI ct')])), (b, .inr (0, [.ref r, .int (iI z)])), (r, .inl (cA, w, .inl (fun j => bI (t j))))] tS.heap ∧ va_K (dC, dI) vwCl [(cA, .byte)] tS ∧ va_D (va_A [(h, .inr (1, [.int (iI kd), .int (iI cs), .int (iI tg), .int (iI op), .int (iI sz1), .int (iI ct)])), (b, .inr (0, [.ref r, .int (iI z)])), (r, .inl (cA, w, .inl (fun j => bI (t j))))] sz) [(h, .inr (1, [.int (iI kd'), .int (iI cs'), .int (iI tg'), .int (iI op'), .int (iI sz'), .int (iI ct')])), (b, .inr (0, [.ref r, .int (iI z)])), (r, .inl (cA, w, .inl (fun j => bI (t j))))]) (va_A [(h, .inr (1, [.int (iI kd), .int (iI cs), .int (iI tg), .int (iI op), .int (iI sz1), .int (iI ct)])), (b, .inr (0, [.ref r, .int (iI z)])), (r, .inl (cA, w, .inl (fun j => bI (t j))))] sz)) (va_A [(h, .inr (1, [.int (iI kd), .int (iI cs), .int (iI tg), .int (iI op), .int (iI sz1), .int (iI ct)])), (b, .inr (0, [.ref r, .int (iI z)])), (r, .inl (cA, w, .inl (fun j => bI (t j))))] sz) := by
  refine mv_ofW (cc := cX1_decode) (maxL := 7) (ret := (some .boolean)) (by decide) rfl ?_
  intro p e s m args below meth c s₁ B hml hv
  obtain ⟨rfl, hsz, hP, hK, hD0⟩ := hv
  have hx := B.exec
  have hb := B.bytes
  have hr := B.returns
  have hT : ∀ w ∈ wT, w.before _ s = true := fun w h => atoms_spec (ws := wsX1_decode) B.pre w (List.mem_cons_of_mem _ h)
  have hown : s.vm.findClass RX1 = some m.cls := findClass_of_methodNamed B.named
  have hlocks := B.notSynchronized
  subst hsz
  have hD := hD0.self (sz := s.heap.size)
  generalize hAe : va_A [(h, .inr (1, [.int (iI kd), .int (iI cs), .int (iI tg), .int (iI op), .int (iI sz1), .int (iI ct)])), (b, .inr (0, [.ref r, .int (iI z)])), (r, .inl (cA, w, .inl (fun j => bI (t j))))] s.heap.size = A at hD ⊢
  have hA : ∀ q : Nat, s.heap.size ≤ q → A q := fun q h => by rw [← hAe]; exact Or.inr h
  have hS : va_S A s.heap s.heap [] := va_S.rf
  have hP : va_P (dC, dI) vwCl [(h, .inr (1, [.int (iI kd), .int (iI cs), .int (iI tg), .int (iI op), .int (iI sz1), .int (iI ct)])), (b, .inr (0, [.ref r, .int (iI z)])), (r, .inl (cA, w, .inl (fun j => bI (t j))))] s.heap := hP
  have hl := lv_entry ([.ref h, .ref b, .int (iI i), .int (iI x), .int (iI st)]) (n := 7) (Nat.le_of_ble_eq_true rfl)
  rw [lg_entry_eq]
  generalize (lg_sl ([.ref h, .ref b, .int (iI i), .int (iI x), .int (iI st)]) ++ List.replicate (7 - (lg_sl ([.ref h, .ref b, .int (iI i), .int (iI x), .int (iI st)])).length) Slot.unset).toArray = ls at hl ⊢
  have hl : lv_has ls 7 [(0, .ref h), (1, .ref b), (2, .int (iI i)), (3, .int (iI x)), (4, .int (iI st))] := hl
  obtain ⟨hw1, hw2, hw3, hw4, hw5, hw6⟩ := id hok
  have hg8 := gd_rng hok
  refine lv_aload_n hx hb dX1_decode_0 rfl (lv_at hl 0 rfl) ?_
  refine lv_aload_n hx hb dX1_decode_1 rfl (lv_at hl 1 rfl) ?_
  refine lv_iload_n hx hb dX1_decode_2 rfl (lv_at hl 2 rfl) ?_
  refine lv_iload_n hx hb dX1_decode_3 rfl (lv_at hl 3 rfl) ?_
  have hPc := hP.sub (ws' := [(h, .inr (1, [.int (iI kd), .int (iI cs), .int (iI tg), .int (iI op), .int (iI sz1), .int (iI ct)])), (b, .inr (0, [.ref r, .int (iI z)])), (r, .inl (cA, w, .inl (fun j => bI (t j))))]) [0, 1, 2] rfl
  have hDc := hD.sub (ws' := [(h, .inr (1, [.int (iI kd), .int (iI cs), .int (iI tg), .int (iI op), .int (iI sz1), .int (iI ct)])), (b, .inr (0, [.ref r, .int (iI z)])), (r, .inl (cA, w, .inl (fun j => bI (t j))))]) [0, 1, 2] (by decide) rfl
  have hKc := hK.sub (tys' := [(cA, .byte)]) [0] rfl
  have hFc := va_free (wc := [(h, .inr (1, [.int (iI kd), .int (iI cs), .int (iI tg), .int (iI op), .int (iI sz1), .int (iI ct)])), (b, .inr (0, [.ref r, .int (iI z)])), (r, .inl (cA, w, .inl (fun j => bI (t j))))]) hD hS hA [0, 1, 2] rfl
  refine mv_call (mv_runV (As := [.ref b, .int (iI i), .int (iI x)]) (rest := []) ⟨hx, hb, hml, hown, hT⟩ (c_H_idn l dC dI s.heap.size h kd cs tg op sz1 ct b r cA w t z L i x (hok) (by omega) (by omega)) (cwV 3 hT (gV wd317 wd319 wd5 wd29 wd320) rfl rfl rfl (by decide +kernel) ⟨show 2 + 1 ≤ 3 from by omega, show 8 + (5 + 11) + 70 ≤ 100 from by omega⟩) ⟨fun a U g mk q => by obtain ⟨q0, q1, qP, qK, qD⟩ := q; exact ⟨q0, q1, qP, va_K.moved (u := U) (U := U.calling g mk a) (Vm.Alike.refl U.vm) qK, qD⟩, va_recv hKc hPc (ci := 1) (q0 := 0) rfl rfl, fun U hU hW => ⟨rfl, by rw [hU], by rw [hU]; exact hPc, va_K.moved hW.alike hKc, hDc.weaken (fun _ _ _ _ => trivial)⟩⟩ rfl rfl hl.1 rfl (lv_room (Nat.le_of_ble_eq_true rfl)) dX1_decode_4 ⟨show 0 + 0 ≤ 0 from by omega, show 0 + 0 ≤ 0 from by omega⟩) hS (fun q _ h => hFc q h) hFc (fun v3 u k1 n2 tS H1 locs ht hvm hw hB hz1 hk1 hS => ?_)
  obtain ⟨kd4, cs5, tg6, q7⟩ := u
  obtain ⟨hP1, hK1, hD1⟩ := hB
  rw [ht] at hP1
  have hK1 := va_K.moved hvm.symm hK1
  try dsimp only at hw
  obtain ⟨hP, hD⟩ := va_join (wr := []) (w1 := [(h, .inr (1, [.int (iI kd4), .int (iI cs5), .int (iI tg6), .int (iI op), .int (iI sz1), .int (iI ct)])), (b, .inr (0, [.ref r, .int (iI z)])), (r, .inl (cA, w, .inl (fun j => bI (t j))))]) hP hD [0, 1, 2] [] rfl rfl (by decide) (by decide) hk1 hFc hP1 hD1
  have hK := (hK.sub (tys' := []) [] rfl).app hK1
  generalize H1 = H at hP hS ⊢
  have hP : va_P (dC, dI) vwCl [(h, .inr (1, [.int (iI kd4), .int (iI cs5), .int (iI tg6), .int (iI op), .int (iI sz1), .int (iI ct)])), (b, .inr (0, [.ref r, .int (iI z)])), (r, .inl (cA, w, .inl (fun j => bI (t j))))] H := hP
  have hD : va_D A [(h, .inr (1, [.int (iI kd4), .int (iI cs5), .int (iI tg6), .int (iI op), .int (iI sz1), .int (iI ct)])), (b, .inr (0, [.ref r, .int (iI z)])), (r, .inl (cA, w, .inl (fun j => bI (t j))))] := hD
  have hK : va_K (dC, dI) vwCl [(cA, .byte)] s := hK
  obtain ⟨rfl, hqv3, rfl, rfl⟩ := hw
  refine W.eq (g2 := F0 m 7 ls [.int (iI q7)]) rfl ?_
  refine lv_istore (lv' := [(5, .int (iI q7)), (0, .ref h), (1, .ref b), (2, .int (iI i)), (3, .int (iI x)), (4, .int (iI st))]) hx hb dX1_decode_7 hl (by decide) rfl (fun ls hl => ?_)
  refine lv_iload hx hb dX1_decode_9 (lv_at hl 0 rfl) ?_
  refine lv_iconst (v := iI (-1)) hx hb dX1_decode_11 rfl ?_
  refine li_icmp_eq (tgt := 21) hx hb (by omega) (by omega) dX1_decode_12 (by decide) (fun c8 => ?_) (fun c8 => ?_)
  · skip
    refine lv_iconst (v := iI 0) hx hb dX1_decode_21 rfl ?_
    have hP9 := hP.sub (ws' := [(h, .inr (1, [.int (iI kd4), .int (iI cs5), .int (iI tg6), .int (iI op), .int (iI sz1), .int (iI ct)])), (b, .inr (0, [.ref r, .int (iI z)])), (r, .inl (cA, w, .inl (fun j => bI (t j))))]) [0, 1, 2] rfl
    have hD9 := hD.sub (ws' := [(h, .inr (1, [.int (iI kd4), .int (iI cs5), .int (iI tg6), .int (iI op), .int (iI sz1), .int (iI ct)])), (b, .inr (0, [.ref r, .int (iI z)])), (r, .inl (cA, w, .inl (fun j => bI (t j))))]) [0, 1, 2] (by decide) rfl
    have hK9 := hK.sub (tys' := [(cA, .byte)]) [0] rfl
    exact mv_zret hx hb hr (zb_n (by omega)) hlocks (fun tS ht hW => ⟨⟨_, (kd4, cs5, tg6, op, sz1, ct, 0), rfl, ⟨rfl, Or.inl ⟨hdr_0 (hqv3.elim (fun h => h.1) (fun h => absurd h.2.1 (by omega))), rfl⟩, rfl, rfl⟩, by rw [ht]; exact hP9, va_K.moved hW.alike hK9, hD9⟩, hS.F ht⟩) hS.2.2 dX1_decode_22
  · skip
    refine lv_iload hx hb dX1_decode_15 (lv_at hl 0 rfl) ?_
    refine lv_iload_n hx hb dX1_decode_17 rfl (lv_at hl 4 rfl) ?_
    refine li_icmp_lt (tgt := 23) hx hb (by omega) (by omega) dX1_decode_18 (by decide) (fun c9 => ?_) (fun c9 => ?_)
    · skip
      refine lv_aload_n hx hb dX1_decode_23 rfl (lv_at hl 2 rfl) ?_
      refine lv_iload hx hb dX1_decode_24 (lv_at hl 0 rfl) ?_
      have hPc := hP.sub (ws' := [(b, .inr (0, [.ref r, .int (iI z)])), (r, .inl (cA, w, .inl (fun j => bI (t j))))]) [1, 2] rfl
      have hDc := hD.sub (ws' := [(b, .inr (0, [.ref r, .int (iI z)])), (r, .inl (cA, w, .inl (fun j => bI (t j))))]) [1, 2] (by decide) rfl
      have hKc := hK.sub (tys' := [(cA, .byte)]) [0] rfl
      have hFc := va_free (wc := [(b, .inr (0, [.ref r, .int (iI z)])), (r, .inl (cA, w, .inl (fun j => bI (t j))))]) hD hS hA [1, 2] rfl
      refine mv_call (mv_runV (As := [.int (iI q7)]) (rest := []) ⟨hx, hb, hml, hown, hT⟩ (c_B_at l dC dI H.size b r cA w t z L q7 (hok) (by omega)) (cwV 1 hT (gV wd321 wd322 wd323 wd27 wd324) rfl rfl rfl (by decide +kernel) ⟨show 0 + 1 ≤ 3 from by omega, show 8 + (2 + 11) + 0 ≤ 100 from by omega⟩) ⟨fun a U g mk q => by obtain ⟨q0, q1, qP, qK, qD⟩ := q; exact ⟨q0, q1, qP, va_K.moved (u := U) (U := U.calling g mk a) (Vm.Alike.refl U.vm) qK, qD⟩, va_recv hKc hPc (ci := 0) (q0 := 0) rfl rfl, fun U hU hW => ⟨rfl, by rw [hU], by rw [hU]; exact hPc, va_K.moved hW.alike hKc, hDc.weaken (fun _ _ _ _ => trivial)⟩⟩ rfl rfl hl.1 rfl (lv_room (Nat.le_of_ble_eq_true rfl)) dX1_decode_26 ⟨show 0 + 0 + 0 ≤ 0 from by omega, show 0 + 0 + 0 ≤ 0 from by omega⟩) hS (fun q _ h => hFc q h) hFc (fun v12 u k10 n11 tS H1 locs ht hvm hw hB hz1 hk1 hS => ?_)
      obtain ⟨hP1, hK1, hD1⟩ := hB
      rw [ht] at hP1
      have hK1 := va_K.moved hvm.symm hK1
      try dsimp only at hw
      obtain ⟨hP, hD⟩ := va_join (wr := [(h, .inr (1, [.int (iI kd4), .int (iI cs5), .int (iI tg6), .int (iI op), .int (iI sz1), .int (iI ct)]))]) (w1 := [(b, .inr (0, [.ref r, .int (iI z)])), (r, .inl (cA, w, .inl (fun j => bI (t j))))]) hP hD [1, 2] [0] rfl rfl (by decide) (by decide) hk1 hFc hP1 hD1
      have hK := (hK.sub (tys' := []) [] rfl).app hK1
      generalize H1 = H at hP hS ⊢
      have hP : va_P (dC, dI) vwCl [(h, .inr (1, [.int (iI kd4), .int (iI cs5), .int (iI tg6), .int (iI op), .int (iI sz1), .int (iI ct)])), (b, .inr (0, [.ref r, .int (iI z)])), (r, .inl (cA, w, .inl (fun j => bI (t j))))] H := hP
      have hD : va_D A [(h, .inr (1, [.int (iI kd4), .int (iI cs5), .int (iI tg6), .int (iI op), .int (iI sz1), .int (iI ct)])), (b, .inr (0, [.ref r, .int (iI z)])), (r, .inl (cA, w, .inl (fun j => bI (t j))))] := hD
      have hK : va_K (dC, dI) vwCl [(cA, .byte)] s := hK
      obtain ⟨rfl, rfl, rfl⟩ := hw
      refine W.eq (g2 := F0 m 29 ls [.int (iI (gd L q7))]) rfl ?_
      refine li_nm (fun z13 ez13 => ?_)
      refine lv_istore (lv' := [(6, .int (iI z13)), (5, .int (iI q7)), (0, .ref h), (1, .ref b), (2, .int (iI i)), (3, .int (iI x)), (4, .int (iI st))]) hx hb dX1_decode_29 hl (by decide) rfl (fun ls hl => ?_)
      have hgq := hg8 q7
      refine lv_aload_n hx hb dX1_decode_31 rfl (lv_at hl 2 rfl) ?_
      refine lv_iload hx hb dX1_decode_32 (lv_at hl 0 rfl) ?_
      refine lv_sipush (v := iI 128) hx hb dX1_decode_34 (by decide +kernel) ?_
      refine li_icmp_ne (tgt := 44) hx hb (by omega) (by omega) dX1_decode_37 (by decide) (fun c14 => ?_) (fun c14 => ?_)
      · skip
        refine lv_iconst (v := iI 0) hx hb dX1_decode_44 rfl ?_
        refine va_put (D := (dC, dI)) (ci := 1) (v := .int (iI 0)) (ty := .boolean) (C := RX1) (T := TX1) (N := 6) hx hb hT inX1 tyX1 tyX1_ok nX1 hown hK hP hD hS 0 rfl rfl 3 (by decide) (hT _ wd84) (fun _ h9 => h9) rfl (by decide +kernel) (zb_n (by omega)) (zb_f (by omega)) (Nat.le_of_ble_eq_true rfl) dX1_decode_45 (fun H locs hP hD hS => ?_)
        have hP : va_P (dC, dI) vwCl [(h, .inr (1, [.int (iI kd4), .int (iI cs5), .int (iI tg6), .int (iI 0), .int (iI sz1), .int (iI ct)])), (b, .inr (0, [.ref r, .int (iI z)])), (r, .inl (cA, w, .inl (fun j => bI (t j))))] H := hP
        have hD : va_D A [(h, .inr (1, [.int (iI kd4), .int (iI cs5), .int (iI tg6), .int (iI 0), .int (iI sz1), .int (iI ct)])), (b, .inr (0, [.ref r, .int (iI z)])), (r, .inl (cA, w, .inl (fun j => bI (t j))))] := hD
        refine lv_aload_n hx hb dX1_decode_48 rfl (lv_at hl 2 rfl) ?_
        refine lv_iconst (v := iI 0) hx hb dX1_decode_49 rfl ?_
        refine va_put (D := (dC, dI)) (ci := 1) (v := .int (iI 0)) (ty := .int) (C := RX1) (T := TX1) (N := 6) hx hb hT inX1 tyX1 tyX1_ok nX1 hown hK hP hD hS 0 rfl rfl 4 (by decide) (hT _ wd86) (fun _ h9 => h9) rfl (by decide +kernel) rfl rfl (Nat.le_of_ble_eq_true rfl) dX1_decode_50 (fun H locs hP hD hS => ?_)
        have hP : va_P (dC, dI) vwCl [(h, .inr (1, [.int (iI kd4), .int (iI cs5), .int (iI tg6), .int (iI 0), .int (iI 0), .int (iI ct)])), (b, .inr (0, [.ref r, .int (iI z)])), (r, .inl (cA, w, .inl (fun j => bI (t j))))] H := hP
        have hD : va_D A [(h, .inr (1, [.int (iI kd4), .int (iI cs5), .int (iI tg6), .int (iI 0), .int (iI 0), .int (iI ct)])), (b, .inr (0, [.ref r, .int (iI z)])), (r, .inl (cA, w, .inl (fun j => bI (t j))))] := hD
        refine lv_aload_n hx hb dX1_decode_53 rfl (lv_at hl 2 rfl) ?_
        refine lv_iload hx hb dX1_decode_54 (lv_at hl 1 rfl) ?_
        refine lv_iconst (v := iI 1) hx hb dX1_decode_56 rfl ?_
        refine li_iadd hx hb dX1_decode_57 ?_
        refine li_nm (fun z15 ez15 => ?_)
        refine va_put (D := (dC, dI)) (ci := 1) (v := .int (iI z15)) (ty := .int) (C := RX1) (T := TX1) (N := 6) hx hb hT inX1 tyX1 tyX1_ok nX1 hown hK hP hD hS 0 rfl rfl 5 (by decide) (hT _ wd88) (fun _ h9 => h9) rfl (by decide +kernel) rfl rfl (Nat.le_of_ble_eq_true rfl) dX1_decode_58 (fun H locs hP hD hS => ?_)
        have hP : va_P (dC, dI) vwCl [(h, .inr (1, [.int (iI kd4), .int (iI cs5), .int (iI tg6), .int (iI 0), .int (iI 0), .int (iI z15)])), (b, .inr (0, [.ref r, .int (iI z)])), (r, .inl (cA, w, .inl (fun j => bI (t j))))] H := hP
        have hD : va_D A [(h, .inr (1, [.int (iI kd4), .int (iI cs5), .int (iI tg6), .int (iI 0), .int (iI 0), .int (iI z15)])), (b, .inr (0, [.ref r, .int (iI z)])), (r, .inl (cA, w, .inl (fun j => bI (t j))))] := hD
        refine lv_aload_n hx hb dX1_decode_61 rfl (lv_at hl 2 rfl) ?_
        refine va_get (D := (dC, dI)) (ci := 1) (v := .int (iI 0)) (C := RX1) (T := TX1) (N := 6) hx hb hT inX1 hown hK hP 0 rfl rfl 3 (by decide) (hT _ wd84) (fun _ h9 => h9) rfl dX1_decode_62 ?_
        refine li_if_eq (tgt := 86) hx hb (by omega) dX1_decode_65 (by decide) (fun c16 => ?_) (fun c16 => absurd c16 (by omega))
        refine lv_iload hx hb dX1_decode_86 (lv_at hl 0 rfl) ?_
        refine lv_sipush (v := iI 128) hx hb dX1_decode_88 (by decide +kernel) ?_
        refine li_icmp_ge (tgt := 103) hx hb (by omega) (by omega) dX1_decode_91 (by decide) (fun c17 => ?_) (fun c17 => ?_)
        · skip
          refine lv_aload_n hx hb dX1_decode_103 rfl (lv_at hl 2 rfl) ?_
          refine lv_aload_n hx hb dX1_decode_104 rfl (lv_at hl 3 rfl) ?_
          refine lv_iload hx hb dX1_decode_105 (lv_at hl 0 rfl) ?_
          refine lv_sipush (v := iI 128) hx hb dX1_decode_107 (by decide +kernel) ?_
          refine li_isub hx hb dX1_decode_110 ?_
          refine lv_iload_n hx hb dX1_decode_111 rfl (lv_at hl 5 rfl) ?_
          refine lv_iload hx hb dX1_decode_112 (lv_at hl 6 rfl) ?_
          have hPc := hP.sub (ws' := [(h, .inr (1, [.int (iI kd4), .int (iI cs5), .int (iI tg6), .int (iI 0), .int (iI 0), .int (iI z15)])), (b, .inr (0, [.ref r, .int (iI z)])), (r, .inl (cA, w, .inl (fun j => bI (t j))))]) [0, 1, 2] rfl
          have hDc := hD.sub (ws' := [(h, .inr (1, [.int (iI kd4), .int (iI cs5), .int (iI tg6), .int (iI 0), .int (iI 0), .int (iI z15)])), (b, .inr (0, [.ref r, .int (iI z)])), (r, .inl (cA, w, .inl (fun j => bI (t j))))]) [0, 1, 2] (by decide) rfl
          have hKc := hK.sub (tys' := [(cA, .byte)]) [0] rfl
          have hFc := va_free (wc := [(h, .inr (1, [.int (iI kd4), .int (iI cs5), .int (iI tg6), .int (iI 0), .int (iI 0), .int (iI z15)])), (b, .inr (0, [.ref r, .int (iI z)])), (r, .inl (cA, w, .inl (fun j => bI (t j))))]) hD hS hA [0, 1, 2] rfl
          refine mv_call (mv_runV (As := [.ref b, .int (iI (z13 - 128)), .int (iI x), .int (iI st)]) (rest := []) ⟨hx, hb, hml, hown, hT⟩ (c_H_llen l dC dI H.size h kd4 cs5 tg6 0 z15 b r cA w t z L (z13 - 128) x st (hok) (by omega) (by omega) (by omega) (by omega)) (cwV 4 hT (gV wd332 wd334 wd7 wd29 wd335) rfl rfl rfl (by decide +kernel) ⟨show 1 + 1 ≤ 3 from by omega, show 8 + (7 + 11) + 40 ≤ 100 from by omega⟩) ⟨fun a U g mk q => by obtain ⟨q0, q1, qP, qK, qD⟩ := q; exact ⟨q0, q1, qP, va_K.moved (u := U) (U := U.calling g mk a) (Vm.Alike.refl U.vm) qK, qD⟩, va_recv hKc hPc (ci := 1) (q0 := 0) rfl rfl, fun U hU hW => ⟨rfl, by rw [hU], by rw [hU]; exact hPc, va_K.moved hW.alike hKc, hDc.weaken (fun _ _ _ _ => trivial)⟩⟩ rfl rfl hl.1 rfl (lv_room (Nat.le_of_ble_eq_true rfl)) dX1_decode_114 ⟨show 0 + 0 + 0 + 0 ≤ 0 from by omega, show 0 + 0 + 0 + 0 ≤ 0 from by omega⟩) hS (fun q _ h => hFc q h) hFc (fun v20 u k18 n19 tS H1 locs ht hvm hw hB hz1 hk1 hS => ?_)
          obtain ⟨sz21, ct22, q23⟩ := u
          obtain ⟨hP1, hK1, hD1⟩ := hB
          rw [ht] at hP1
          have hK1 := va_K.moved hvm.symm hK1
          try dsimp only at hw
          obtain ⟨hP, hD⟩ := va_join (wr := []) (w1 := [(h, .inr (1, [.int (iI kd4), .int (iI cs5), .int (iI tg6), .int (iI 0), .int (iI sz21), .int (iI ct22)])), (b, .inr (0, [.ref r, .int (iI z)])), (r, .inl (cA, w, .inl (fun j => bI (t j))))]) hP hD [0, 1, 2] [] rfl rfl (by decide) (by decide) hk1 hFc hP1 hD1
          have hK := (hK.sub (tys' := []) [] rfl).app hK1
          generalize H1 = H at hP hS ⊢
          have hP : va_P (dC, dI) vwCl [(h, .inr (1, [.int (iI kd4), .int (iI cs5), .int (iI tg6), .int (iI 0), .int (iI sz21), .int (iI ct22)])), (b, .inr (0, [.ref r, .int (iI z)])), (r, .inl (cA, w, .inl (fun j => bI (t j))))] H := hP
          have hD : va_D A [(h, .inr (1, [.int (iI kd4), .int (iI cs5), .int (iI tg6), .int (iI 0), .int (iI sz21), .int (iI ct22)])), (b, .inr (0, [.ref r, .int (iI z)])), (r, .inl (cA, w, .inl (fun j => bI (t j))))] := hD
          have hK : va_K (dC, dI) vwCl [(cA, .byte)] s := hK
          obtain ⟨rfl, hqv20, rfl, rfl⟩ := hw
          refine W.eq (g2 := F0 m 117 ls [.int (iI q23)]) rfl ?_
          refine li_if_ne (tgt := 122) hx hb (by omega) dX1_decode_117 (by decide) (fun c24 => ?_) (fun c24 => ?_)
          · skip
            refine lv_aload_n hx hb dX1_decode_122 rfl (lv_at hl 2 rfl) ?_
            refine va_get (D := (dC, dI)) (ci := 1) (v := .int (iI sz21)) (C := RX1) (T := TX1) (N := 6) hx hb hT inX1 hown hK hP 0 rfl rfl 4 (by decide) (hT _ wd86) (fun _ h9 => h9) rfl dX1_decode_123 ?_
            refine lv_iload_n hx hb dX1_decode_126 rfl (lv_at hl 5 rfl) ?_
            refine lv_aload_n hx hb dX1_decode_127 rfl (lv_at hl 2 rfl) ?_
            refine va_get (D := (dC, dI)) (ci := 1) (v := .int (iI ct22)) (C := RX1) (T := TX1) (N := 6) hx hb hT inX1 hown hK hP 0 rfl rfl 5 (by decide) (hT _ wd88) (fun _ h9 => h9) rfl dX1_decode_128 ?_
            refine li_isub hx hb dX1_decode_131 ?_
            refine li_icmp_gt (tgt := 139) hx hb (by omega) (by omega) dX1_decode_132 (by decide) (fun c25 => ?_) (fun c25 => ?_)
            · skip
              refine lv_iconst (v := iI 0) hx hb dX1_decode_139 rfl ?_
              have hLS := (hqv20.resolve_left (fun h => absurd h.2 (by omega))).1
              have hP9 := hP.sub (ws' := [(h, .inr (1, [.int (iI kd4), .int (iI cs5), .int (iI tg6), .int (iI 0), .int (iI sz21), .int (iI ct22)])), (b, .inr (0, [.ref r, .int (iI z)])), (r, .inl (cA, w, .inl (fun j => bI (t j))))]) [0, 1, 2] rfl
              have hD9 := hD.sub (ws' := [(h, .inr (1, [.int (iI kd4), .int (iI cs5), .int (iI tg6), .int (iI 0), .int (iI sz21), .int (iI ct22)])), (b, .inr (0, [.ref r, .int (iI z)])), (r, .inl (cA, w, .inl (fun j => bI (t j))))]) [0, 1, 2] (by decide) rfl
              have hK9 := hK.sub (tys' := [(cA, .byte)]) [0] rfl
              exact mv_zret hx hb hr (zb_n (by omega)) hlocks (fun tS ht hW => ⟨⟨_, (kd4, cs5, tg6, 0, sz21, ct22, 0), rfl, ⟨rfl, Or.inl ⟨hdr_l2 (c2 := ct22) (hqv3.elim (fun h => absurd h.2 (by omega)) (fun h => h.1)) (by omega) (by omega) (by omega) (by omega) hLS (by omega) (by omega), rfl⟩, rfl, rfl⟩, by rw [ht]; exact hP9, va_K.moved hW.alike hK9, hD9⟩, hS.F ht⟩) hS.2.2 dX1_decode_140
            · skip
              refine lv_iconst (v := iI 1) hx hb dX1_decode_135 rfl ?_
              refine lv_goto (tgt := 140) hx hb dX1_decode_136 (by decide) ?_
              have hLS := (hqv20.resolve_left (fun h => absurd h.2 (by omega))).1
              have hP9 := hP.sub (ws' := [(h, .inr (1, [.int (iI kd4), .int (iI cs5), .int (iI tg6), .int (iI 0), .int (iI sz21), .int (iI ct22)])), (b, .inr (0, [.ref r, .int (iI z)])), (r, .inl (cA, w, .inl (fun j => bI (t j))))]) [0, 1, 2] rfl
              have hD9 := hD.sub (ws' := [(h, .inr (1, [.int (iI kd4), .int (iI cs5), .int (iI tg6), .int (iI 0), .int (iI sz21), .int (iI ct22)])), (b, .inr (0, [.ref r, .int (iI z)])), (r, .inl (cA, w, .inl (fun j => bI (t j))))]) [0, 1, 2] (by decide) rfl
              have hK9 := hK.sub (tys' := [(cA, .byte)]) [0] rfl
              exact mv_zret hx hb hr (zb_n (by omega)) hlocks (fun tS ht hW => ⟨⟨_, (kd4, cs5, tg6, 0, sz21, ct22, 1), rfl, ⟨rfl, Or.inr ⟨hdr_l1 (hqv3.elim (fun h => absurd h.2 (by omega)) (fun h => h.1)) (by omega) (by omega) (by omega) (by omega) hLS (by omega) (by omega), rfl, by omega⟩, rfl, rfl⟩, by rw [ht]; exact hP9, va_K.moved hW.alike hK9, hD9⟩, hS.F ht⟩) hS.2.2 dX1_decode_140
          · skip
            refine lv_iconst (v := iI 0) hx hb dX1_decode_120 rfl ?_
            have hLN := (hqv20.resolve_right (fun h => absurd h.2.2.1 (by omega))).1
            have hP9 := hP.sub (ws' := [(h, .inr (1, [.int (iI kd4), .int (iI cs5), .int (iI tg6), .int (iI 0), .int (iI sz21), .int (iI ct22)])), (b, .inr (0, [.ref r, .int (iI z)])), (r, .inl (cA, w, .inl (fun j => bI (t j))))]) [0, 1, 2] rfl
            have hD9 := hD.sub (ws' := [(h, .inr (1, [.int (iI kd4), .int (iI cs5), .int (iI tg6), .int (iI 0), .int (iI sz21), .int (iI ct22)])), (b, .inr (0, [.ref r, .int (iI z)])), (r, .inl (cA, w, .inl (fun j => bI (t j))))]) [0, 1, 2] (by decide) rfl
            have hK9 := hK.sub (tys' := [(cA, .byte)]) [0] rfl
            exact mv_zret hx hb hr (zb_n (by omega)) hlocks (fun tS ht hW => ⟨⟨_, (kd4, cs5, tg6, 0, sz21, ct22, 0), rfl, ⟨rfl, Or.inl ⟨hdr_l0 (hqv3.elim (fun h => absurd h.2 (by omega)) (fun h => h.1)) (by omega) (by omega) (by omega) (by omega) hLN, rfl⟩, rfl, rfl⟩, by rw [ht]; exact hP9, va_K.moved hW.alike hK9, hD9⟩, hS.F ht⟩) hS.2.2 dX1_decode_121
        · skip
          refine lv_aload_n hx hb dX1_decode_94 rfl (lv_at hl 2 rfl) ?_
          refine lv_iload hx hb dX1_decode_95 (lv_at hl 0 rfl) ?_
          refine va_put (D := (dC, dI)) (ci := 1) (v := .int (iI z13)) (ty := .int) (C := RX1) (T := TX1) (N := 6) hx hb hT inX1 tyX1 tyX1_ok nX1 hown hK hP hD hS 0 rfl rfl 4 (by decide) (hT _ wd86) (fun _ h9 => h9) rfl (by decide +kernel) rfl rfl (Nat.le_of_ble_eq_true rfl) dX1_decode_97 (fun H locs hP hD hS => ?_)
          have hP : va_P (dC, dI) vwCl [(h, .inr (1, [.int (iI kd4), .int (iI cs5), .int (iI tg6), .int (iI 0), .int (iI z13), .int (iI z15)])), (b, .inr (0, [.ref r, .int (iI z)])), (r, .inl (cA, w, .inl (fun j => bI (t j))))] H := hP
          have hD : va_D A [(h, .inr (1, [.int (iI kd4), .int (iI cs5), .int (iI tg6), .int (iI 0), .int (iI z13), .int (iI z15)])), (b, .inr (0, [.ref r, .int (iI z)])), (r, .inl (cA, w, .inl (fun j => bI (t j))))] := hD
          refine lv_goto (tgt := 122) hx hb dX1_decode_100 (by decide) ?_
          refine lv_aload_n hx hb dX1_decode_122 rfl (lv_at hl 2 rfl) ?_
          refine va_get (D := (dC, dI)) (ci := 1) (v := .int (iI z13)) (C := RX1) (T := TX1) (N := 6) hx hb hT inX1 hown hK hP 0 rfl rfl 4 (by decide) (hT _ wd86) (fun _ h9 => h9) rfl dX1_decode_123 ?_
          refine lv_iload_n hx hb dX1_decode_126 rfl (lv_at hl 5 rfl) ?_
          refine lv_aload_n hx hb dX1_decode_127 rfl (lv_at hl 2 rfl) ?_
          refine va_get (D := (dC, dI)) (ci := 1) (v := .int (iI z15)) (C := RX1) (T := TX1) (N := 6) hx hb hT inX1 hown hK hP 0 rfl rfl 5 (by decide) (hT _ wd88) (fun _ h9 => h9) rfl dX1_decode_128 ?_
          refine li_isub hx hb dX1_decode_131 ?_
          refine li_icmp_gt (tgt := 139) hx hb (by omega) (by omega) dX1_decode_132 (by decide) (fun c26 => ?_) (fun c26 => ?_)
          · skip
            refine lv_iconst (v := iI 0) hx hb dX1_decode_139 rfl ?_
            have hP9 := hP.sub (ws' := [(h, .inr (1, [.int (iI kd4), .int (iI cs5), .int (iI tg6), .int (iI 0), .int (iI z13), .int (iI z15)])), (b, .inr (0, [.ref r, .int (iI z)])), (r, .inl (cA, w, .inl (fun j => bI (t j))))]) [0, 1, 2] rfl
            have hD9 := hD.sub (ws' := [(h, .inr (1, [.int (iI kd4), .int (iI cs5), .int (iI tg6), .int (iI 0), .int (iI z13), .int (iI z15)])), (b, .inr (0, [.ref r, .int (iI z)])), (r, .inl (cA, w, .inl (fun j => bI (t j))))]) [0, 1, 2] (by decide) rfl
            have hK9 := hK.sub (tys' := [(cA, .byte)]) [0] rfl
            exact mv_zret hx hb hr (zb_n (by omega)) hlocks (fun tS ht hW => ⟨⟨_, (kd4, cs5, tg6, 0, z13, z15, 0), rfl, ⟨rfl, Or.inl ⟨hdr_s0 (hqv3.elim (fun h => absurd h.2 (by omega)) (fun h => h.1)) (by omega) (by omega) (by omega), rfl⟩, rfl, rfl⟩, by rw [ht]; exact hP9, va_K.moved hW.alike hK9, hD9⟩, hS.F ht⟩) hS.2.2 dX1_decode_140
          · skip
            refine lv_iconst (v := iI 1) hx hb dX1_decode_135 rfl ?_
            refine lv_goto (tgt := 140) hx hb dX1_decode_136 (by decide) ?_
            have hP9 := hP.sub (ws' := [(h, .inr (1, [.int (iI kd4), .int (iI cs5), .int (iI tg6), .int (iI 0), .int (iI z13), .int (iI z15)])), (b, .inr (0, [.ref r, .int (iI z)])), (r, .inl (cA, w, .inl (fun j => bI (t j))))]) [0, 1, 2] rfl
            have hD9 := hD.sub (ws' := [(h, .inr (1, [.int (iI kd4), .int (iI cs5), .int (iI tg6), .int (iI 0), .int (iI z13), .int (iI z15)])), (b, .inr (0, [.ref r, .int (iI z)])), (r, .inl (cA, w, .inl (fun j => bI (t j))))]) [0, 1, 2] (by decide) rfl
            have hK9 := hK.sub (tys' := [(cA, .byte)]) [0] rfl
            exact mv_zret hx hb hr (zb_n (by omega)) hlocks (fun tS ht hW => ⟨⟨_, (kd4, cs5, tg6, 0, z13, z15, 1), rfl, ⟨rfl, Or.inr ⟨hdr_s1 (hqv3.elim (fun h => absurd h.2 (by omega)) (fun h => h.1)) (by omega) (by omega) (by omega) (by omega) (by omega), rfl, by omega⟩, rfl, rfl⟩, by rw [ht]; exact hP9, va_K.moved hW.alike hK9, hD9⟩, hS.F ht⟩) hS.2.2 dX1_decode_140
      · skip
        refine lv_iconst (v := iI 1) hx hb dX1_decode_40 rfl ?_
        refine lv_goto (tgt := 45) hx hb dX1_decode_41 (by decide) ?_
        refine va_put (D := (dC, dI)) (ci := 1) (v := .int (iI 1)) (ty := .boolean) (C := RX1) (T := TX1) (N := 6) hx hb hT inX1 tyX1 tyX1_ok nX1 hown hK hP hD hS 0 rfl rfl 3 (by decide) (hT _ wd84) (fun _ h9 => h9) rfl (by decide +kernel) (zb_n (by omega)) (zb_f (by omega)) (Nat.le_of_ble_eq_true rfl) dX1_decode_45 (fun H locs hP hD hS => ?_)
        have hP : va_P (dC, dI) vwCl [(h, .inr (1, [.int (iI kd4), .int (iI cs5), .int (iI tg6), .int (iI 1), .int (iI sz1), .int (iI ct)])), (b, .inr (0, [.ref r, .int (iI z)])), (r, .inl (cA, w, .inl (fun j => bI (t j))))] H := hP
        have hD : va_D A [(h, .inr (1, [.int (iI kd4), .int (iI cs5), .int (iI tg6), .int (iI 1), .int (iI sz1), .int (iI ct)])), (b, .inr (0, [.ref r, .int (iI z)])), (r, .inl (cA, w, .inl (fun j => bI (t j))))] := hD
        refine lv_aload_n hx hb dX1_decode_48 rfl (lv_at hl 2 rfl) ?_
        refine lv_iconst (v := iI 0) hx hb dX1_decode_49 rfl ?_
        refine va_put (D := (dC, dI)) (ci := 1) (v := .int (iI 0)) (ty := .int) (C := RX1) (T := TX1) (N := 6) hx hb hT inX1 tyX1 tyX1_ok nX1 hown hK hP hD hS 0 rfl rfl 4 (by decide) (hT _ wd86) (fun _ h9 => h9) rfl (by decide +kernel) rfl rfl (Nat.le_of_ble_eq_true rfl) dX1_decode_50 (fun H locs hP hD hS => ?_)
        have hP : va_P (dC, dI) vwCl [(h, .inr (1, [.int (iI kd4), .int (iI cs5), .int (iI tg6), .int (iI 1), .int (iI 0), .int (iI ct)])), (b, .inr (0, [.ref r, .int (iI z)])), (r, .inl (cA, w, .inl (fun j => bI (t j))))] H := hP
        have hD : va_D A [(h, .inr (1, [.int (iI kd4), .int (iI cs5), .int (iI tg6), .int (iI 1), .int (iI 0), .int (iI ct)])), (b, .inr (0, [.ref r, .int (iI z)])), (r, .inl (cA, w, .inl (fun j => bI (t j))))] := hD
        refine lv_aload_n hx hb dX1_decode_53 rfl (lv_at hl 2 rfl) ?_
        refine lv_iload hx hb dX1_decode_54 (lv_at hl 1 rfl) ?_
        refine lv_iconst (v := iI 1) hx hb dX1_decode_56 rfl ?_
        refine li_iadd hx hb dX1_decode_57 ?_
        refine li_nm (fun z27 ez27 => ?_)
        refine va_put (D := (dC, dI)) (ci := 1) (v := .int (iI z27)) (ty := .int) (C := RX1) (T := TX1) (N := 6) hx hb hT inX1 tyX1 tyX1_ok nX1 hown hK hP hD hS 0 rfl rfl 5 (by decide) (hT _ wd88) (fun _ h9 => h9) rfl (by decide +kernel) rfl rfl (Nat.le_of_ble_eq_true rfl) dX1_decode_58 (fun H locs hP hD hS => ?_)
        have hP : va_P (dC, dI) vwCl [(h, .inr (1, [.int (iI kd4), .int (iI cs5), .int (iI tg6), .int (iI 1), .int (iI 0), .int (iI z27)])), (b, .inr (0, [.ref r, .int (iI z)])), (r, .inl (cA, w, .inl (fun j => bI (t j))))] H := hP
        have hD : va_D A [(h, .inr (1, [.int (iI kd4), .int (iI cs5), .int (iI tg6), .int (iI 1), .int (iI 0), .int (iI z27)])), (b, .inr (0, [.ref r, .int (iI z)])), (r, .inl (cA, w, .inl (fun j => bI (t j))))] := hD
        refine lv_aload_n hx hb dX1_decode_61 rfl (lv_at hl 2 rfl) ?_
        refine va_get (D := (dC, dI)) (ci := 1) (v := .int (iI 1)) (C := RX1) (T := TX1) (N := 6) hx hb hT inX1 hown hK hP 0 rfl rfl 3 (by decide) (hT _ wd84) (fun _ h9 => h9) rfl dX1_decode_62 ?_
        refine li_if_eq (tgt := 86) hx hb (by omega) dX1_decode_65 (by decide) (fun c28 => absurd c28 (by omega)) (fun c28 => ?_)
        refine lv_aload_n hx hb dX1_decode_68 rfl (lv_at hl 2 rfl) ?_
        refine va_get (D := (dC, dI)) (ci := 1) (v := .int (iI cs5)) (C := RX1) (T := TX1) (N := 6) hx hb hT inX1 hown hK hP 0 rfl rfl 1 (by decide) (hT _ wd80) (fun _ h9 => h9) rfl dX1_decode_69 ?_
        refine li_if_eq (tgt := 84) hx hb (by omega) dX1_decode_72 (by decide) (fun c29 => ?_) (fun c29 => ?_)
        · skip
          refine lv_iconst (v := iI 0) hx hb dX1_decode_84 rfl ?_
          have hP9 := hP.sub (ws' := [(h, .inr (1, [.int (iI kd4), .int (iI cs5), .int (iI tg6), .int (iI 1), .int (iI 0), .int (iI z27)])), (b, .inr (0, [.ref r, .int (iI z)])), (r, .inl (cA, w, .inl (fun j => bI (t j))))]) [0, 1, 2] rfl
          have hD9 := hD.sub (ws' := [(h, .inr (1, [.int (iI kd4), .int (iI cs5), .int (iI tg6), .int (iI 1), .int (iI 0), .int (iI z27)])), (b, .inr (0, [.ref r, .int (iI z)])), (r, .inl (cA, w, .inl (fun j => bI (t j))))]) [0, 1, 2] (by decide) rfl
          have hK9 := hK.sub (tys' := [(cA, .byte)]) [0] rfl
          exact mv_zret hx hb hr (zb_n (by omega)) hlocks (fun tS ht hW => ⟨⟨_, (kd4, cs5, tg6, 1, 0, z27, 0), rfl, ⟨rfl, Or.inl ⟨hdr_o0 (hqv3.elim (fun h => absurd h.2 (by omega)) (fun h => h.1)) (by omega) (by omega) (by omega), rfl⟩, rfl, rfl⟩, by rw [ht]; exact hP9, va_K.moved hW.alike hK9, hD9⟩, hS.F ht⟩) hS.2.2 dX1_decode_85
        · skip
          refine lv_iload hx hb dX1_decode_75 (lv_at hl 6 rfl) ?_
          refine li_if_ne (tgt := 84) hx hb (by omega) dX1_decode_77 (by decide) (fun c30 => ?_) (fun c30 => ?_)
          · skip
            refine lv_iconst (v := iI 0) hx hb dX1_decode_84 rfl ?_
            have hP9 := hP.sub (ws' := [(h, .inr (1, [.int (iI kd4), .int (iI cs5), .int (iI tg6), .int (iI 1), .int (iI 0), .int (iI z27)])), (b, .inr (0, [.ref r, .int (iI z)])), (r, .inl (cA, w, .inl (fun j => bI (t j))))]) [0, 1, 2] rfl
            have hD9 := hD.sub (ws' := [(h, .inr (1, [.int (iI kd4), .int (iI cs5), .int (iI tg6), .int (iI 1), .int (iI 0), .int (iI z27)])), (b, .inr (0, [.ref r, .int (iI z)])), (r, .inl (cA, w, .inl (fun j => bI (t j))))]) [0, 1, 2] (by decide) rfl
            have hK9 := hK.sub (tys' := [(cA, .byte)]) [0] rfl
            exact mv_zret hx hb hr (zb_n (by omega)) hlocks (fun tS ht hW => ⟨⟨_, (kd4, cs5, tg6, 1, 0, z27, 0), rfl, ⟨rfl, Or.inl ⟨hdr_o0 (hqv3.elim (fun h => absurd h.2 (by omega)) (fun h => h.1)) (by omega) (by omega) (by omega), rfl⟩, rfl, rfl⟩, by rw [ht]; exact hP9, va_K.moved hW.alike hK9, hD9⟩, hS.F ht⟩) hS.2.2 dX1_decode_85
          · skip
            refine lv_iconst (v := iI 1) hx hb dX1_decode_80 rfl ?_
            refine lv_goto (tgt := 85) hx hb dX1_decode_81 (by decide) ?_
            have hP9 := hP.sub (ws' := [(h, .inr (1, [.int (iI kd4), .int (iI cs5), .int (iI tg6), .int (iI 1), .int (iI 0), .int (iI z27)])), (b, .inr (0, [.ref r, .int (iI z)])), (r, .inl (cA, w, .inl (fun j => bI (t j))))]) [0, 1, 2] rfl
            have hD9 := hD.sub (ws' := [(h, .inr (1, [.int (iI kd4), .int (iI cs5), .int (iI tg6), .int (iI 1), .int (iI 0), .int (iI z27)])), (b, .inr (0, [.ref r, .int (iI z)])), (r, .inl (cA, w, .inl (fun j => bI (t j))))]) [0, 1, 2] (by decide) rfl
            have hK9 := hK.sub (tys' := [(cA, .byte)]) [0] rfl
            exact mv_zret hx hb hr (zb_n (by omega)) hlocks (fun tS ht hW => ⟨⟨_, (kd4, cs5, tg6, 1, 0, z27, 1), rfl, ⟨rfl, Or.inr ⟨hdr_o1 (hqv3.elim (fun h => absurd h.2 (by omega)) (fun h => h.1)) (by omega) (by omega) (by omega) (by omega), rfl, by omega⟩, rfl, rfl⟩, by rw [ht]; exact hP9, va_K.moved hW.alike hK9, hD9⟩, hS.F ht⟩) hS.2.2 dX1_decode_85
    · skip
      refine lv_iconst (v := iI 0) hx hb dX1_decode_21 rfl ?_
      have hP9 := hP.sub (ws' := [(h, .inr (1, [.int (iI kd4), .int (iI cs5), .int (iI tg6), .int (iI op), .int (iI sz1), .int (iI ct)])), (b, .inr (0, [.ref r, .int (iI z)])), (r, .inl (cA, w, .inl (fun j => bI (t j))))]) [0, 1, 2] rfl
      have hD9 := hD.sub (ws' := [(h, .inr (1, [.int (iI kd4), .int (iI cs5), .int (iI tg6), .int (iI op), .int (iI sz1), .int (iI ct)])), (b, .inr (0, [.ref r, .int (iI z)])), (r, .inl (cA, w, .inl (fun j => bI (t j))))]) [0, 1, 2] (by decide) rfl
      have hK9 := hK.sub (tys' := [(cA, .byte)]) [0] rfl
      exact mv_zret hx hb hr (zb_n (by omega)) hlocks (fun tS ht hW => ⟨⟨_, (kd4, cs5, tg6, op, sz1, ct, 0), rfl, ⟨rfl, Or.inl ⟨hdr_1 (hqv3.elim (fun h => absurd h.2 (by omega)) (fun h => h.1)) c9, rfl⟩, rfl, rfl⟩, by rw [ht]; exact hP9, va_K.moved hW.alike hK9, hD9⟩, hS.F ht⟩) hS.2.2 dX1_decode_22
