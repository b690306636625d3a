set_option maxHeartbeats 4000000 in
set_option maxRecDepth 100000 in
theorem c_M_feed (l : Launch) (dC : Nat → ClassId) (dI : Nat → Nat → Nat) (sz : Nat) (mm : Nat) (fl : Int) (ta : Nat) (tz : Int) (ka : Nat) (nn : Int) (da : Nat) (ya : Nat) (pt : Int) (md : Int) (sx : Int) (cT : ClassId) (t : Nat → Int) (L : List Int) (p0 : Int) (p1 : Int) (p2 : Int) (p3 : Int) (p4 : Int) (hok : okB 4096 t tz L) (hp0 : -2147483648 ≤ p0 ∧ p0 < 2147483648) (hp1 : -2147483648 ≤ p1 ∧ p1 < 2147483648) (hp2 : -2147483648 ≤ p2 ∧ p2 < 2147483648) (hp3 : -2147483648 ≤ p3 ∧ p3 < 2147483648) (hp4 : -2147483648 ≤ p4 ∧ p4 < 2147483648) : mv_Met l yX4_feed wsX4_feed ({ frames := 2, cells := 0, slots := 0, locals := 60 }) (va_Pc [.ref mm, .int (iI p0), .int (iI p1), .int (iI p2), .int (iI p3), .int (iI p4)] (fun U => U.heap.size = sz ∧ va_P (dC, dI) vwCl [(mm, .inr (4, [.int (iI fl), .ref ta, .int (iI tz), .ref ka, .int (iI nn), .ref da, .ref ya, .int (iI pt), .int (iI md), .int (iI sx)])), (ta, .inl (cT, 4096, .inl (fun j => bI (t j))))] U.heap ∧ va_K (dC, dI) vwCl [(cT, .byte)] U ∧ va_D (fun _ => True) [(mm, .inr (4, [.int (iI fl), .ref ta, .int (iI tz), .ref ka, .int (iI nn), .ref da, .ref ya, .int (iI pt), .int (iI md), .int (iI sx)])), (ta, .inl (cT, 4096, .inl (fun j => bI (t j))))])) (mv_Q (fun (v : Option Value) (u : Int × Int × (Nat → Int) × Int) (k n : Nat) => match u with | (fl', tz', t', q') => v = some (.int (iI q')) ∧ ((fl' = 0 ∧ (tz + 20 ≤ 4096 ∧ tz' = tz + 20 ∧ q' = tz' ∧ okB 4096 t' tz' (feL L p0 p1 p2 p3 p4))) ∨ (fl' = 1 ∧ (4096 < tz + 20 ∧ tz' = tz ∧ okB 4096 t' tz' L))) ∧ k = 0 ∧ n = 0) (fun (u : Int × Int × (Nat → Int) × Int) (tS : State) => match u with | (fl', tz', t', q') => va_P (dC, dI) vwCl [(mm, .inr (4, [.int (iI fl'), .ref ta, .int (iI tz'), .ref ka, .int (iI nn), .ref da, .ref ya, .int (iI pt), .int (iI md), .int (iI sx)])), (ta, .inl (cT, 4096, .inl (fun j => bI (t' j))))] tS.heap ∧ va_K (dC, dI) vwCl [(cT, .byte)] tS ∧ va_D (va_A [(mm, .inr (4, [.int (iI fl), .ref ta, .int (iI tz), .ref ka, .int (iI nn), .ref da, .ref ya, .int (iI pt), .int (iI md), .int (iI sx)])), (ta, .inl (cT, 4096, .inl (fun j => bI (t j))))] sz) [(mm, .inr (4, [.int (iI fl'), .ref ta, .int (iI tz'), .ref ka, .int (iI nn), .ref da, .ref ya, .int (iI pt), .int (iI md), .int (iI sx)])), (ta, .inl (cT, 4096, .inl (fun j => bI (t' j))))]) (va_A [(mm, .inr (4, [.int (iI fl), .ref ta, .int (iI tz), .ref ka, .int (iI nn), .ref da, .ref ya, .int (iI pt), .int (iI md), .int (iI sx)])), (ta, .inl (cT, 4096, .inl (fun j => bI (t j))))] sz)) (va_A [(mm, .inr (4, [.int (iI fl), .ref ta, .int (iI tz), .ref ka, .int (iI nn), .ref da, .ref ya, .int (iI pt), .int (iI md), .int (iI sx)])), (ta, .inl (cT, 4096, .inl (fun j => bI (t j))))] sz) := by
  refine mv_ofW (cc := cX4_feed) (maxL := 8) (ret := (some .int)) (by decide) rfl ?_
  intro p e s m args below meth c s₁ B hml hv
  obtain ⟨rfl, hsz, hP, hK, hD0⟩ := hv
  have hx := B.exec
  have hb := B.bytes
  have hr := B.returns
  have hT : ∀ w ∈ wT, w.before _ s = true := fun w h => atoms_spec (ws := wsX4_feed) B.pre w (List.mem_cons_of_mem _ h)
  have hown : s.vm.findClass RX4 = some m.cls := findClass_of_methodNamed B.named
  have hlocks := B.notSynchronized
  subst hsz
  have hD := hD0.self (sz := s.heap.size)
  generalize hAe : va_A [(mm, .inr (4, [.int (iI fl), .ref ta, .int (iI tz), .ref ka, .int (iI nn), .ref da, .ref ya, .int (iI pt), .int (iI md), .int (iI sx)])), (ta, .inl (cT, 4096, .inl (fun j => bI (t j))))] s.heap.size = A at hD ⊢
  have hA : ∀ q : Nat, s.heap.size ≤ q → A q := fun q h => by rw [← hAe]; exact Or.inr h
  have hS : va_S A s.heap s.heap [] := va_S.rf
  have hP : va_P (dC, dI) vwCl [(mm, .inr (4, [.int (iI fl), .ref ta, .int (iI tz), .ref ka, .int (iI nn), .ref da, .ref ya, .int (iI pt), .int (iI md), .int (iI sx)])), (ta, .inl (cT, 4096, .inl (fun j => bI (t j))))] s.heap := hP
  have hl := lv_entry ([.ref mm, .int (iI p0), .int (iI p1), .int (iI p2), .int (iI p3), .int (iI p4)]) (n := 8) (Nat.le_of_ble_eq_true rfl)
  rw [lg_entry_eq]
  generalize (lg_sl ([.ref mm, .int (iI p0), .int (iI p1), .int (iI p2), .int (iI p3), .int (iI p4)]) ++ List.replicate (8 - (lg_sl ([.ref mm, .int (iI p0), .int (iI p1), .int (iI p2), .int (iI p3), .int (iI p4)])).length) Slot.unset).toArray = ls at hl ⊢
  have hl : lv_has ls 8 [(0, .ref mm), (1, .int (iI p0)), (2, .int (iI p1)), (3, .int (iI p2)), (4, .int (iI p3)), (5, .int (iI p4))] := hl
  obtain ⟨hw1, hw2, hw3, hw4, hw5, hw6⟩ := id hok
  refine mv_nameQ (fun Q9 hQ9 => ?_)
  have LP : ∀ (fu : Nat) (jj : Int) (y : Int) (H : Heap) (locs : List Loc) (ls : Array Slot) (kc ks : Nat), (20 - jj < (fu : Int)) → (0 ≤ jj ∧ jj ≤ 20) → (y = tz + jj) → (tz + 20 ≤ 4096) → (kc = 0 ∧ ks = 0) → va_K (dC, dI) vwCl [(cT, .byte)] s → va_P (dC, dI) vwCl [(mm, .inr (4, [.int (iI 0), .ref ta, .int (iI y), .ref ka, .int (iI nn), .ref da, .ref ya, .int (iI pt), .int (iI md), .int (iI sx)])), (ta, .inl (cT, 4096, .inl (fun j => bI ((wrB t ((tz : Int).toNat) (fdl p0 p1 p2 p3 p4 (jj : Int).toNat)) j))))] H → va_D A [(mm, .inr (4, [.int (iI 0), .ref ta, .int (iI y), .ref ka, .int (iI nn), .ref da, .ref ya, .int (iI pt), .int (iI md), .int (iI sx)])), (ta, .inl (cT, 4096, .inl (fun j => bI ((wrB t ((tz : Int).toNat) (fdl p0 p1 p2 p3 p4 (jj : Int).toNat)) j))))] → va_S A s.heap H locs → lv_has ls 8 [(0, .ref mm), (1, .int (iI p0)), (2, .int (iI p1)), (3, .int (iI p2)), (4, .int (iI p3)), (5, .int (iI p4)), (6, .int (iI jj))] → W p l e ({ frames := 2, cells := 0, slots := 0, locals := 60 }) s m ([.ref mm, .int (iI p0), .int (iI p1), .int (iI p2), .int (iI p3), .int (iI p4)] : List Value).toArray below meth c H locs kc ks Q9 (F0 m 27 ls []) := by
    intro fu
    induction fu with
    | zero =>
      intro jj y H locs ls kc ks hfu hj hy h20 hkc hK hP hD hS hl
      exfalso
      omega
    | succ fu ih =>
      intro jj y H locs ls kc ks hfu hj hy h20 hkc hK hP hD hS hl
      have hln := fdl_len p0 p1 p2 p3 p4 (jj : Int).toNat
      refine lv_iload hx hb dX4_feed_27 (lv_at hl 6 rfl) ?_
      refine lv_bipush (v := iI 20) hx hb dX4_feed_29 (by decide +kernel) ?_
      refine li_icmp_ge (tgt := 121) hx hb (by omega) (by omega) dX4_feed_31 (by decide) (fun c1 => ?_) (fun c1 => ?_)
      · skip
        refine lv_aload_n hx hb dX4_feed_121 rfl (lv_at hl 0 rfl) ?_
        refine va_get (D := (dC, dI)) (ci := 4) (v := .int (iI y)) (C := RX4) (T := TX4) (N := 10) hx hb hT inX4 hown hK hP 0 rfl rfl 2 (by decide) (hT _ wd519) (fun _ h9 => h9) rfl dX4_feed_122 ?_
        have hln := fdl_len p0 p1 p2 p3 p4 20
        have hfin : okB 4096 (wrB t ((tz : Int).toNat) (fdl p0 p1 p2 p3 p4 (jj : Int).toNat)) y (feL L p0 p1 p2 p3 p4) := by rw [show (jj : Int).toNat = 20 by omega, feL_eq]; exact okB_wr hok (rgB_fdl p0 p1 p2 p3 p4 20) (by omega) (by omega) (by omega)
        subst hQ9
        have hP9 := hP.sub (ws' := [(mm, .inr (4, [.int (iI 0), .ref ta, .int (iI y), .ref ka, .int (iI nn), .ref da, .ref ya, .int (iI pt), .int (iI md), .int (iI sx)])), (ta, .inl (cT, 4096, .inl (fun j => bI ((wrB t ((tz : Int).toNat) (fdl p0 p1 p2 p3 p4 (jj : Int).toNat)) j))))]) [0, 1] rfl
        have hD9 := hD.sub (ws' := [(mm, .inr (4, [.int (iI 0), .ref ta, .int (iI y), .ref ka, .int (iI nn), .ref da, .ref ya, .int (iI pt), .int (iI md), .int (iI sx)])), (ta, .inl (cT, 4096, .inl (fun j => bI ((wrB t ((tz : Int).toNat) (fdl p0 p1 p2 p3 p4 (jj : Int).toNat)) j))))]) [0, 1] (by decide) rfl
        have hK9 := hK.sub (tys' := [(cT, .byte)]) [0] rfl
        exact mv_iret hx hb hr hlocks (fun tS ht hW => ⟨⟨_, (0, y, (wrB t ((tz : Int).toNat) (fdl p0 p1 p2 p3 p4 (jj : Int).toNat)), y), rfl, ⟨rfl, Or.inl ⟨rfl, ⟨by omega, by omega, rfl, hfin⟩⟩, by omega, by omega⟩, by rw [ht]; exact hP9, va_K.moved hW.alike hK9, hD9⟩, hS.F ht⟩) hS.2.2 dX4_feed_125
      · skip
        refine lv_iload hx hb dX4_feed_34 (lv_at hl 6 rfl) ?_
        refine lv_iconst (v := iI 4) hx hb dX4_feed_36 rfl ?_
        refine li_icmp_ge (tgt := 44) hx hb (by omega) (by omega) dX4_feed_37 (by decide) (fun c2 => ?_) (fun c2 => ?_)
        · skip
          refine lv_iload hx hb dX4_feed_44 (lv_at hl 6 rfl) ?_
          refine lv_bipush (v := iI 8) hx hb dX4_feed_46 (by decide +kernel) ?_
          refine li_icmp_ge (tgt := 55) hx hb (by omega) (by omega) dX4_feed_48 (by decide) (fun c3 => ?_) (fun c3 => ?_)
          · skip
            refine lv_iload hx hb dX4_feed_55 (lv_at hl 6 rfl) ?_
            refine lv_bipush (v := iI 12) hx hb dX4_feed_57 (by decide +kernel) ?_
            refine li_icmp_ge (tgt := 66) hx hb (by omega) (by omega) dX4_feed_59 (by decide) (fun c4 => ?_) (fun c4 => ?_)
            · skip
              refine lv_iload hx hb dX4_feed_66 (lv_at hl 6 rfl) ?_
              refine lv_bipush (v := iI 16) hx hb dX4_feed_68 (by decide +kernel) ?_
              refine li_icmp_ge (tgt := 78) hx hb (by omega) (by omega) dX4_feed_70 (by decide) (fun c5 => ?_) (fun c5 => ?_)
              · skip
                refine lv_iload hx hb dX4_feed_78 (lv_at hl 5 rfl) ?_
                refine lv_istore (lv' := [(7, .int (iI p4)), (0, .ref mm), (1, .int (iI p0)), (2, .int (iI p1)), (3, .int (iI p2)), (4, .int (iI p3)), (5, .int (iI p4)), (6, .int (iI jj))]) hx hb dX4_feed_80 hl (by decide) rfl (fun ls hl => ?_)
                refine lv_aload_n hx hb dX4_feed_82 rfl (lv_at hl 1 rfl) ?_
                refine va_get (D := (dC, dI)) (ci := 4) (v := .ref ta) (C := RX4) (T := TX4) (N := 10) hx hb hT inX4 hown hK hP 0 rfl rfl 1 (by decide) (hT _ wd518) (fun _ h9 => h9) rfl dX4_feed_83 ?_
                refine lv_aload_n hx hb dX4_feed_86 rfl (lv_at hl 1 rfl) ?_
                refine va_get (D := (dC, dI)) (ci := 4) (v := .int (iI y)) (C := RX4) (T := TX4) (N := 10) hx hb hT inX4 hown hK hP 0 rfl rfl 2 (by decide) (hT _ wd519) (fun _ h9 => h9) rfl dX4_feed_87 ?_
                refine lv_iload hx hb dX4_feed_90 (lv_at hl 0 rfl) ?_
                refine lv_bipush (v := iI 24) hx hb dX4_feed_92 (by decide +kernel) ?_
                refine lv_bipush (v := iI 8) hx hb dX4_feed_94 (by decide +kernel) ?_
                refine lv_iload hx hb dX4_feed_96 (lv_at hl 7 rfl) ?_
                refine lv_iconst (v := iI 4) hx hb dX4_feed_98 rfl ?_
                refine li_irem4 hx hb (by omega) dX4_feed_99 ?_
                refine li_imul hx hb dX4_feed_100 ?_
                refine li_isub hx hb dX4_feed_101 ?_
                refine li_ishr hx hb (by omega) (by omega) dX4_feed_102 ?_
                refine li_i2b hx hb dX4_feed_103 ?_
                refine li_bastW (y := ((p4 / 2 ^ ((24 - (8 * (jj % 4))) : Int).toNat) % 256)) hx hb hK hP hD hS 1 0 rfl rfl (z := y) (by omega) (by omega) (by rw [hln]; omega) (rfl) dX4_feed_104 (fun H locs hP hD hS => ?_)
                have hP : va_P (dC, dI) vwCl [(mm, .inr (4, [.int (iI 0), .ref ta, .int (iI y), .ref ka, .int (iI nn), .ref da, .ref ya, .int (iI pt), .int (iI md), .int (iI sx)])), (ta, .inl (cT, 4096, .inl (fun j => bI ((wrB t ((tz : Int).toNat) ((fdl p0 p1 p2 p3 p4 (jj : Int).toNat) ++ [((p4 / 2 ^ ((24 - (8 * (jj % 4))) : Int).toNat) % 256)])) j))))] H := hP
                have hD : va_D A [(mm, .inr (4, [.int (iI 0), .ref ta, .int (iI y), .ref ka, .int (iI nn), .ref da, .ref ya, .int (iI pt), .int (iI md), .int (iI sx)])), (ta, .inl (cT, 4096, .inl (fun j => bI ((wrB t ((tz : Int).toNat) ((fdl p0 p1 p2 p3 p4 (jj : Int).toNat) ++ [((p4 / 2 ^ ((24 - (8 * (jj % 4))) : Int).toNat) % 256)])) j))))] := hD
                refine lv_aload_n hx hb dX4_feed_105 rfl (lv_at hl 1 rfl) ?_
                refine lv_dup hx hb dX4_feed_106 rfl ?_
                refine va_get (D := (dC, dI)) (ci := 4) (v := .int (iI y)) (C := RX4) (T := TX4) (N := 10) hx hb hT inX4 hown hK hP 0 rfl rfl 2 (by decide) (hT _ wd519) (fun _ h9 => h9) rfl dX4_feed_107 ?_
                refine lv_iconst (v := iI 1) hx hb dX4_feed_110 rfl ?_
                refine li_iadd hx hb dX4_feed_111 ?_
                refine li_nm (fun z6 ez6 => ?_)
                refine va_put (D := (dC, dI)) (ci := 4) (v := .int (iI z6)) (ty := .int) (C := RX4) (T := TX4) (N := 10) hx hb hT inX4 tyX4 tyX4_ok nX4 hown hK hP hD hS 0 rfl rfl 2 (by decide) (hT _ wd519) (fun _ h9 => h9) rfl (by decide +kernel) rfl rfl (Nat.le_of_ble_eq_true rfl) dX4_feed_112 (fun H locs hP hD hS => ?_)
                have hP : va_P (dC, dI) vwCl [(mm, .inr (4, [.int (iI 0), .ref ta, .int (iI z6), .ref ka, .int (iI nn), .ref da, .ref ya, .int (iI pt), .int (iI md), .int (iI sx)])), (ta, .inl (cT, 4096, .inl (fun j => bI ((wrB t ((tz : Int).toNat) ((fdl p0 p1 p2 p3 p4 (jj : Int).toNat) ++ [((p4 / 2 ^ ((24 - (8 * (jj % 4))) : Int).toNat) % 256)])) j))))] H := hP
                have hD : va_D A [(mm, .inr (4, [.int (iI 0), .ref ta, .int (iI z6), .ref ka, .int (iI nn), .ref da, .ref ya, .int (iI pt), .int (iI md), .int (iI sx)])), (ta, .inl (cT, 4096, .inl (fun j => bI ((wrB t ((tz : Int).toNat) ((fdl p0 p1 p2 p3 p4 (jj : Int).toNat) ++ [((p4 / 2 ^ ((24 - (8 * (jj % 4))) : Int).toNat) % 256)])) j))))] := hD
                obtain ⟨z7, ez7⟩ : ∃ y : Int, y = jj + 1 := ⟨_, rfl⟩
                refine lv_iinc (v := iI z7) (lv' := [(6, .int (iI z7)), (7, .int (iI p4)), (0, .ref mm), (1, .int (iI p0)), (2, .int (iI p1)), (3, .int (iI p2)), (4, .int (iI p3)), (5, .int (iI p4))]) hx hb dX4_feed_115 hl (k := 7) rfl (by rw [ez7]; exact iI_add _ _) (by decide) rfl (fun ls hl => ?_)
                have hl2 : ((fdl p0 p1 p2 p3 p4 (jj : Int).toNat) ++ [((p4 / 2 ^ ((24 - (8 * (jj % 4))) : Int).toNat) % 256)]) = (fdl p0 p1 p2 p3 p4 (z7 : Int).toNat) := fdl_s (w := p4) (by omega) (by unfold fdw; (repeat' split) <;> omega) rfl (by omega)
                rw [hl2] at hP hD
                have hP : va_P (dC, dI) vwCl [(mm, .inr (4, [.int (iI 0), .ref ta, .int (iI z6), .ref ka, .int (iI nn), .ref da, .ref ya, .int (iI pt), .int (iI md), .int (iI sx)])), (ta, .inl (cT, 4096, .inl (fun j => bI ((wrB t ((tz : Int).toNat) (fdl p0 p1 p2 p3 p4 (z7 : Int).toNat)) j))))] H := hP
                have hD : va_D A [(mm, .inr (4, [.int (iI 0), .ref ta, .int (iI z6), .ref ka, .int (iI nn), .ref da, .ref ya, .int (iI pt), .int (iI md), .int (iI sx)])), (ta, .inl (cT, 4096, .inl (fun j => bI ((wrB t ((tz : Int).toNat) (fdl p0 p1 p2 p3 p4 (z7 : Int).toNat)) j))))] := hD
                refine lv_goto (tgt := 27) hx hb dX4_feed_118 (by decide) ?_
                exact ih z7 z6 _ _ _ _ _ (by omega) (by omega) (by omega) (by omega) (by omega) (hK.sub [0] rfl) (hP.sub [0, 1] rfl) (hD.sub [0, 1] (by decide) rfl) hS (lv_sub hl [2, 3, 4, 5, 6, 7, 0] rfl)
              · skip
                refine lv_iload hx hb dX4_feed_73 (lv_at hl 4 rfl) ?_
                refine lv_goto (tgt := 80) hx hb dX4_feed_75 (by decide) ?_
                refine lv_istore (lv' := [(7, .int (iI p3)), (0, .ref mm), (1, .int (iI p0)), (2, .int (iI p1)), (3, .int (iI p2)), (4, .int (iI p3)), (5, .int (iI p4)), (6, .int (iI jj))]) hx hb dX4_feed_80 hl (by decide) rfl (fun ls hl => ?_)
                refine lv_aload_n hx hb dX4_feed_82 rfl (lv_at hl 1 rfl) ?_
                refine va_get (D := (dC, dI)) (ci := 4) (v := .ref ta) (C := RX4) (T := TX4) (N := 10) hx hb hT inX4 hown hK hP 0 rfl rfl 1 (by decide) (hT _ wd518) (fun _ h9 => h9) rfl dX4_feed_83 ?_
                refine lv_aload_n hx hb dX4_feed_86 rfl (lv_at hl 1 rfl) ?_
                refine va_get (D := (dC, dI)) (ci := 4) (v := .int (iI y)) (C := RX4) (T := TX4) (N := 10) hx hb hT inX4 hown hK hP 0 rfl rfl 2 (by decide) (hT _ wd519) (fun _ h9 => h9) rfl dX4_feed_87 ?_
                refine lv_iload hx hb dX4_feed_90 (lv_at hl 0 rfl) ?_
                refine lv_bipush (v := iI 24) hx hb dX4_feed_92 (by decide +kernel) ?_
                refine lv_bipush (v := iI 8) hx hb dX4_feed_94 (by decide +kernel) ?_
                refine lv_iload hx hb dX4_feed_96 (lv_at hl 7 rfl) ?_
                refine lv_iconst (v := iI 4) hx hb dX4_feed_98 rfl ?_
                refine li_irem4 hx hb (by omega) dX4_feed_99 ?_
                refine li_imul hx hb dX4_feed_100 ?_
                refine li_isub hx hb dX4_feed_101 ?_
                refine li_ishr hx hb (by omega) (by omega) dX4_feed_102 ?_
                refine li_i2b hx hb dX4_feed_103 ?_
                refine li_bastW (y := ((p3 / 2 ^ ((24 - (8 * (jj % 4))) : Int).toNat) % 256)) hx hb hK hP hD hS 1 0 rfl rfl (z := y) (by omega) (by omega) (by rw [hln]; omega) (rfl) dX4_feed_104 (fun H locs hP hD hS => ?_)
                have hP : va_P (dC, dI) vwCl [(mm, .inr (4, [.int (iI 0), .ref ta, .int (iI y), .ref ka, .int (iI nn), .ref da, .ref ya, .int (iI pt), .int (iI md), .int (iI sx)])), (ta, .inl (cT, 4096, .inl (fun j => bI ((wrB t ((tz : Int).toNat) ((fdl p0 p1 p2 p3 p4 (jj : Int).toNat) ++ [((p3 / 2 ^ ((24 - (8 * (jj % 4))) : Int).toNat) % 256)])) j))))] H := hP
                have hD : va_D A [(mm, .inr (4, [.int (iI 0), .ref ta, .int (iI y), .ref ka, .int (iI nn), .ref da, .ref ya, .int (iI pt), .int (iI md), .int (iI sx)])), (ta, .inl (cT, 4096, .inl (fun j => bI ((wrB t ((tz : Int).toNat) ((fdl p0 p1 p2 p3 p4 (jj : Int).toNat) ++ [((p3 / 2 ^ ((24 - (8 * (jj % 4))) : Int).toNat) % 256)])) j))))] := hD
                refine lv_aload_n hx hb dX4_feed_105 rfl (lv_at hl 1 rfl) ?_
                refine lv_dup hx hb dX4_feed_106 rfl ?_
                refine va_get (D := (dC, dI)) (ci := 4) (v := .int (iI y)) (C := RX4) (T := TX4) (N := 10) hx hb hT inX4 hown hK hP 0 rfl rfl 2 (by decide) (hT _ wd519) (fun _ h9 => h9) rfl dX4_feed_107 ?_
                refine lv_iconst (v := iI 1) hx hb dX4_feed_110 rfl ?_
                refine li_iadd hx hb dX4_feed_111 ?_
                refine li_nm (fun z8 ez8 => ?_)
                refine va_put (D := (dC, dI)) (ci := 4) (v := .int (iI z8)) (ty := .int) (C := RX4) (T := TX4) (N := 10) hx hb hT inX4 tyX4 tyX4_ok nX4 hown hK hP hD hS 0 rfl rfl 2 (by decide) (hT _ wd519) (fun _ h9 => h9) rfl (by decide +kernel) rfl rfl (Nat.le_of_ble_eq_true rfl) dX4_feed_112 (fun H locs hP hD hS => ?_)
                have hP : va_P (dC, dI) vwCl [(mm, .inr (4, [.int (iI 0), .ref ta, .int (iI z8), .ref ka, .int (iI nn), .ref da, .ref ya, .int (iI pt), .int (iI md), .int (iI sx)])), (ta, .inl (cT, 4096, .inl (fun j => bI ((wrB t ((tz : Int).toNat) ((fdl p0 p1 p2 p3 p4 (jj : Int).toNat) ++ [((p3 / 2 ^ ((24 - (8 * (jj % 4))) : Int).toNat) % 256)])) j))))] H := hP
                have hD : va_D A [(mm, .inr (4, [.int (iI 0), .ref ta, .int (iI z8), .ref ka, .int (iI nn), .ref da, .ref ya, .int (iI pt), .int (iI md), .int (iI sx)])), (ta, .inl (cT, 4096, .inl (fun j => bI ((wrB t ((tz : Int).toNat) ((fdl p0 p1 p2 p3 p4 (jj : Int).toNat) ++ [((p3 / 2 ^ ((24 - (8 * (jj % 4))) : Int).toNat) % 256)])) j))))] := hD
                obtain ⟨z9, ez9⟩ : ∃ y : Int, y = jj + 1 := ⟨_, rfl⟩
                refine lv_iinc (v := iI z9) (lv' := [(6, .int (iI z9)), (7, .int (iI p3)), (0, .ref mm), (1, .int (iI p0)), (2, .int (iI p1)), (3, .int (iI p2)), (4, .int (iI p3)), (5, .int (iI p4))]) hx hb dX4_feed_115 hl (k := 7) rfl (by rw [ez9]; exact iI_add _ _) (by decide) rfl (fun ls hl => ?_)
                have hl2 : ((fdl p0 p1 p2 p3 p4 (jj : Int).toNat) ++ [((p3 / 2 ^ ((24 - (8 * (jj % 4))) : Int).toNat) % 256)]) = (fdl p0 p1 p2 p3 p4 (z9 : Int).toNat) := fdl_s (w := p3) (by omega) (by unfold fdw; (repeat' split) <;> omega) rfl (by omega)
                rw [hl2] at hP hD
                have hP : va_P (dC, dI) vwCl [(mm, .inr (4, [.int (iI 0), .ref ta, .int (iI z8), .ref ka, .int (iI nn), .ref da, .ref ya, .int (iI pt), .int (iI md), .int (iI sx)])), (ta, .inl (cT, 4096, .inl (fun j => bI ((wrB t ((tz : Int).toNat) (fdl p0 p1 p2 p3 p4 (z9 : Int).toNat)) j))))] H := hP
                have hD : va_D A [(mm, .inr (4, [.int (iI 0), .ref ta, .int (iI z8), .ref ka, .int (iI nn), .ref da, .ref ya, .int (iI pt), .int (iI md), .int (iI sx)])), (ta, .inl (cT, 4096, .inl (fun j => bI ((wrB t ((tz : Int).toNat) (fdl p0 p1 p2 p3 p4 (z9 : Int).toNat)) j))))] := hD
                refine lv_goto (tgt := 27) hx hb dX4_feed_118 (by decide) ?_
                exact ih z9 z8 _ _ _ _ _ (by omega) (by omega) (by omega) (by omega) (by omega) (hK.sub [0] rfl) (hP.sub [0, 1] rfl) (hD.sub [0, 1] (by decide) rfl) hS (lv_sub hl [2, 3, 4, 5, 6, 7, 0] rfl)
            · skip
              refine lv_iload_n hx hb dX4_feed_62 rfl (lv_at hl 3 rfl) ?_
              refine lv_goto (tgt := 80) hx hb dX4_feed_63 (by decide) ?_
              refine lv_istore (lv' := [(7, .int (iI p2)), (0, .ref mm), (1, .int (iI p0)), (2, .int (iI p1)), (3, .int (iI p2)), (4, .int (iI p3)), (5, .int (iI p4)), (6, .int (iI jj))]) hx hb dX4_feed_80 hl (by decide) rfl (fun ls hl => ?_)
              refine lv_aload_n hx hb dX4_feed_82 rfl (lv_at hl 1 rfl) ?_
              refine va_get (D := (dC, dI)) (ci := 4) (v := .ref ta) (C := RX4) (T := TX4) (N := 10) hx hb hT inX4 hown hK hP 0 rfl rfl 1 (by decide) (hT _ wd518) (fun _ h9 => h9) rfl dX4_feed_83 ?_
              refine lv_aload_n hx hb dX4_feed_86 rfl (lv_at hl 1 rfl) ?_
              refine va_get (D := (dC, dI)) (ci := 4) (v := .int (iI y)) (C := RX4) (T := TX4) (N := 10) hx hb hT inX4 hown hK hP 0 rfl rfl 2 (by decide) (hT _ wd519) (fun _ h9 => h9) rfl dX4_feed_87 ?_
              refine lv_iload hx hb dX4_feed_90 (lv_at hl 0 rfl) ?_
              refine lv_bipush (v := iI 24) hx hb dX4_feed_92 (by decide +kernel) ?_
              refine lv_bipush (v := iI 8) hx hb dX4_feed_94 (by decide +kernel) ?_
              refine lv_iload hx hb dX4_feed_96 (lv_at hl 7 rfl) ?_
              refine lv_iconst (v := iI 4) hx hb dX4_feed_98 rfl ?_
              refine li_irem4 hx hb (by omega) dX4_feed_99 ?_
              refine li_imul hx hb dX4_feed_100 ?_
              refine li_isub hx hb dX4_feed_101 ?_
              refine li_ishr hx hb (by omega) (by omega) dX4_feed_102 ?_
              refine li_i2b hx hb dX4_feed_103 ?_
              refine li_bastW (y := ((p2 / 2 ^ ((24 - (8 * (jj % 4))) : Int).toNat) % 256)) hx hb hK hP hD hS 1 0 rfl rfl (z := y) (by omega) (by omega) (by rw [hln]; omega) (rfl) dX4_feed_104 (fun H locs hP hD hS => ?_)
              have hP : va_P (dC, dI) vwCl [(mm, .inr (4, [.int (iI 0), .ref ta, .int (iI y), .ref ka, .int (iI nn), .ref da, .ref ya, .int (iI pt), .int (iI md), .int (iI sx)])), (ta, .inl (cT, 4096, .inl (fun j => bI ((wrB t ((tz : Int).toNat) ((fdl p0 p1 p2 p3 p4 (jj : Int).toNat) ++ [((p2 / 2 ^ ((24 - (8 * (jj % 4))) : Int).toNat) % 256)])) j))))] H := hP
              have hD : va_D A [(mm, .inr (4, [.int (iI 0), .ref ta, .int (iI y), .ref ka, .int (iI nn), .ref da, .ref ya, .int (iI pt), .int (iI md), .int (iI sx)])), (ta, .inl (cT, 4096, .inl (fun j => bI ((wrB t ((tz : Int).toNat) ((fdl p0 p1 p2 p3 p4 (jj : Int).toNat) ++ [((p2 / 2 ^ ((24 - (8 * (jj % 4))) : Int).toNat) % 256)])) j))))] := hD
              refine lv_aload_n hx hb dX4_feed_105 rfl (lv_at hl 1 rfl) ?_
              refine lv_dup hx hb dX4_feed_106 rfl ?_
              refine va_get (D := (dC, dI)) (ci := 4) (v := .int (iI y)) (C := RX4) (T := TX4) (N := 10) hx hb hT inX4 hown hK hP 0 rfl rfl 2 (by decide) (hT _ wd519) (fun _ h9 => h9) rfl dX4_feed_107 ?_
              refine lv_iconst (v := iI 1) hx hb dX4_feed_110 rfl ?_
              refine li_iadd hx hb dX4_feed_111 ?_
              refine li_nm (fun z10 ez10 => ?_)
              refine va_put (D := (dC, dI)) (ci := 4) (v := .int (iI z10)) (ty := .int) (C := RX4) (T := TX4) (N := 10) hx hb hT inX4 tyX4 tyX4_ok nX4 hown hK hP hD hS 0 rfl rfl 2 (by decide) (hT _ wd519) (fun _ h9 => h9) rfl (by decide +kernel) rfl rfl (Nat.le_of_ble_eq_true rfl) dX4_feed_112 (fun H locs hP hD hS => ?_)
              have hP : va_P (dC, dI) vwCl [(mm, .inr (4, [.int (iI 0), .ref ta, .int (iI z10), .ref ka, .int (iI nn), .ref da, .ref ya, .int (iI pt), .int (iI md), .int (iI sx)])), (ta, .inl (cT, 4096, .inl (fun j => bI ((wrB t ((tz : Int).toNat) ((fdl p0 p1 p2 p3 p4 (jj : Int).toNat) ++ [((p2 / 2 ^ ((24 - (8 * (jj % 4))) : Int).toNat) % 256)])) j))))] H := hP
              have hD : va_D A [(mm, .inr (4, [.int (iI 0), .ref ta, .int (iI z10), .ref ka, .int (iI nn), .ref da, .ref ya, .int (iI pt), .int (iI md), .int (iI sx)])), (ta, .inl (cT, 4096, .inl (fun j => bI ((wrB t ((tz : Int).toNat) ((fdl p0 p1 p2 p3 p4 (jj : Int).toNat) ++ [((p2 / 2 ^ ((24 - (8 * (jj % 4))) : Int).toNat) % 256)])) j))))] := hD
              obtain ⟨z11, ez11⟩ : ∃ y : Int, y = jj + 1 := ⟨_, rfl⟩
              refine lv_iinc (v := iI z11) (lv' := [(6, .int (iI z11)), (7, .int (iI p2)), (0, .ref mm), (1, .int (iI p0)), (2, .int (iI p1)), (3, .int (iI p2)), (4, .int (iI p3)), (5, .int (iI p4))]) hx hb dX4_feed_115 hl (k := 7) rfl (by rw [ez11]; exact iI_add _ _) (by decide) rfl (fun ls hl => ?_)
              have hl2 : ((fdl p0 p1 p2 p3 p4 (jj : Int).toNat) ++ [((p2 / 2 ^ ((24 - (8 * (jj % 4))) : Int).toNat) % 256)]) = (fdl p0 p1 p2 p3 p4 (z11 : Int).toNat) := fdl_s (w := p2) (by omega) (by unfold fdw; (repeat' split) <;> omega) rfl (by omega)
              rw [hl2] at hP hD
              have hP : va_P (dC, dI) vwCl [(mm, .inr (4, [.int (iI 0), .ref ta, .int (iI z10), .ref ka, .int (iI nn), .ref da, .ref ya, .int (iI pt), .int (iI md), .int (iI sx)])), (ta, .inl (cT, 4096, .inl (fun j => bI ((wrB t ((tz : Int).toNat) (fdl p0 p1 p2 p3 p4 (z11 : Int).toNat)) j))))] H := hP
              have hD : va_D A [(mm, .inr (4, [.int (iI 0), .ref ta, .int (iI z10), .ref ka, .int (iI nn), .ref da, .ref ya, .int (iI pt), .int (iI md), .int (iI sx)])), (ta, .inl (cT, 4096, .inl (fun j => bI ((wrB t ((tz : Int).toNat) (fdl p0 p1 p2 p3 p4 (z11 : Int).toNat)) j))))] := hD
              refine lv_goto (tgt := 27) hx hb dX4_feed_118 (by decide) ?_
              exact ih z11 z10 _ _ _ _ _ (by omega) (by omega) (by omega) (by omega) (by omega) (hK.sub [0] rfl) (hP.sub [0, 1] rfl) (hD.sub [0, 1] (by decide) rfl) hS (lv_sub hl [2, 3, 4, 5, 6, 7, 0] rfl)
          · skip
            refine lv_iload_n hx hb dX4_feed_51 rfl (lv_at hl 2 rfl) ?_
            refine lv_goto (tgt := 80) hx hb dX4_feed_52 (by decide) ?_
            refine lv_istore (lv' := [(7, .int (iI p1)), (0, .ref mm), (1, .int (iI p0)), (2, .int (iI p1)), (3, .int (iI p2)), (4, .int (iI p3)), (5, .int (iI p4)), (6, .int (iI jj))]) hx hb dX4_feed_80 hl (by decide) rfl (fun ls hl => ?_)
            refine lv_aload_n hx hb dX4_feed_82 rfl (lv_at hl 1 rfl) ?_
            refine va_get (D := (dC, dI)) (ci := 4) (v := .ref ta) (C := RX4) (T := TX4) (N := 10) hx hb hT inX4 hown hK hP 0 rfl rfl 1 (by decide) (hT _ wd518) (fun _ h9 => h9) rfl dX4_feed_83 ?_
            refine lv_aload_n hx hb dX4_feed_86 rfl (lv_at hl 1 rfl) ?_
            refine va_get (D := (dC, dI)) (ci := 4) (v := .int (iI y)) (C := RX4) (T := TX4) (N := 10) hx hb hT inX4 hown hK hP 0 rfl rfl 2 (by decide) (hT _ wd519) (fun _ h9 => h9) rfl dX4_feed_87 ?_
            refine lv_iload hx hb dX4_feed_90 (lv_at hl 0 rfl) ?_
            refine lv_bipush (v := iI 24) hx hb dX4_feed_92 (by decide +kernel) ?_
            refine lv_bipush (v := iI 8) hx hb dX4_feed_94 (by decide +kernel) ?_
            refine lv_iload hx hb dX4_feed_96 (lv_at hl 7 rfl) ?_
            refine lv_iconst (v := iI 4) hx hb dX4_feed_98 rfl ?_
            refine li_irem4 hx hb (by omega) dX4_feed_99 ?_
            refine li_imul hx hb dX4_feed_100 ?_
            refine li_isub hx hb dX4_feed_101 ?_
            refine li_ishr hx hb (by omega) (by omega) dX4_feed_102 ?_
            refine li_i2b hx hb dX4_feed_103 ?_
            refine li_bastW (y := ((p1 / 2 ^ ((24 - (8 * (jj % 4))) : Int).toNat) % 256)) hx hb hK hP hD hS 1 0 rfl rfl (z := y) (by omega) (by omega) (by rw [hln]; omega) (rfl) dX4_feed_104 (fun H locs hP hD hS => ?_)
            have hP : va_P (dC, dI) vwCl [(mm, .inr (4, [.int (iI 0), .ref ta, .int (iI y), .ref ka, .int (iI nn), .ref da, .ref ya, .int (iI pt), .int (iI md), .int (iI sx)])), (ta, .inl (cT, 4096, .inl (fun j => bI ((wrB t ((tz : Int).toNat) ((fdl p0 p1 p2 p3 p4 (jj : Int).toNat) ++ [((p1 / 2 ^ ((24 - (8 * (jj % 4))) : Int).toNat) % 256)])) j))))] H := hP
            have hD : va_D A [(mm, .inr (4, [.int (iI 0), .ref ta, .int (iI y), .ref ka, .int (iI nn), .ref da, .ref ya, .int (iI pt), .int (iI md), .int (iI sx)])), (ta, .inl (cT, 4096, .inl (fun j => bI ((wrB t ((tz : Int).toNat) ((fdl p0 p1 p2 p3 p4 (jj : Int).toNat) ++ [((p1 / 2 ^ ((24 - (8 * (jj % 4))) : Int).toNat) % 256)])) j))))] := hD
            refine lv_aload_n hx hb dX4_feed_105 rfl (lv_at hl 1 rfl) ?_
            refine lv_dup hx hb dX4_feed_106 rfl ?_
            refine va_get (D := (dC, dI)) (ci := 4) (v := .int (iI y)) (C := RX4) (T := TX4) (N := 10) hx hb hT inX4 hown hK hP 0 rfl rfl 2 (by decide) (hT _ wd519) (fun _ h9 => h9) rfl dX4_feed_107 ?_
            refine lv_iconst (v := iI 1) hx hb dX4_feed_110 rfl ?_
            refine li_iadd hx hb dX4_feed_111 ?_
            refine li_nm (fun z12 ez12 => ?_)
            refine va_put (D := (dC, dI)) (ci := 4) (v := .int (iI z12)) (ty := .int) (C := RX4) (T := TX4) (N := 10) hx hb hT inX4 tyX4 tyX4_ok nX4 hown hK hP hD hS 0 rfl rfl 2 (by decide) (hT _ wd519) (fun _ h9 => h9) rfl (by decide +kernel) rfl rfl (Nat.le_of_ble_eq_true rfl) dX4_feed_112 (fun H locs hP hD hS => ?_)
            have hP : va_P (dC, dI) vwCl [(mm, .inr (4, [.int (iI 0), .ref ta, .int (iI z12), .ref ka, .int (iI nn), .ref da, .ref ya, .int (iI pt), .int (iI md), .int (iI sx)])), (ta, .inl (cT, 4096, .inl (fun j => bI ((wrB t ((tz : Int).toNat) ((fdl p0 p1 p2 p3 p4 (jj : Int).toNat) ++ [((p1 / 2 ^ ((24 - (8 * (jj % 4))) : Int).toNat) % 256)])) j))))] H := hP
            have hD : va_D A [(mm, .inr (4, [.int (iI 0), .ref ta, .int (iI z12), .ref ka, .int (iI nn), .ref da, .ref ya, .int (iI pt), .int (iI md), .int (iI sx)])), (ta, .inl (cT, 4096, .inl (fun j => bI ((wrB t ((tz : Int).toNat) ((fdl p0 p1 p2 p3 p4 (jj : Int).toNat) ++ [((p1 / 2 ^ ((24 - (8 * (jj % 4))) : Int).toNat) % 256)])) j))))] := hD
            obtain ⟨z13, ez13⟩ : ∃ y : Int, y = jj + 1 := ⟨_, rfl⟩
            refine lv_iinc (v := iI z13) (lv' := [(6, .int (iI z13)), (7, .int (iI p1)), (0, .ref mm), (1, .int (iI p0)), (2, .int (iI p1)), (3, .int (iI p2)), (4, .int (iI p3)), (5, .int (iI p4))]) hx hb dX4_feed_115 hl (k := 7) rfl (by rw [ez13]; exact iI_add _ _) (by decide) rfl (fun ls hl => ?_)
            have hl2 : ((fdl p0 p1 p2 p3 p4 (jj : Int).toNat) ++ [((p1 / 2 ^ ((24 - (8 * (jj % 4))) : Int).toNat) % 256)]) = (fdl p0 p1 p2 p3 p4 (z13 : Int).toNat) := fdl_s (w := p1) (by omega) (by unfold fdw; (repeat' split) <;> omega) rfl (by omega)
            rw [hl2] at hP hD
            have hP : va_P (dC, dI) vwCl [(mm, .inr (4, [.int (iI 0), .ref ta, .int (iI z12), .ref ka, .int (iI nn), .ref da, .ref ya, .int (iI pt), .int (iI md), .int (iI sx)])), (ta, .inl (cT, 4096, .inl (fun j => bI ((wrB t ((tz : Int).toNat) (fdl p0 p1 p2 p3 p4 (z13 : Int).toNat)) j))))] H := hP
            have hD : va_D A [(mm, .inr (4, [.int (iI 0), .ref ta, .int (iI z12), .ref ka, .int (iI nn), .ref da, .ref ya, .int (iI pt), .int (iI md), .int (iI sx)])), (ta, .inl (cT, 4096, .inl (fun j => bI ((wrB t ((tz : Int).toNat) (fdl p0 p1 p2 p3 p4 (z13 : Int).toNat)) j))))] := hD
            refine lv_goto (tgt := 27) hx hb dX4_feed_118 (by decide) ?_
            exact ih z13 z12 _ _ _ _ _ (by omega) (by omega) (by omega) (by omega) (by omega) (hK.sub [0] rfl) (hP.sub [0, 1] rfl) (hD.sub [0, 1] (by decide) rfl) hS (lv_sub hl [2, 3, 4, 5, 6, 7, 0] rfl)
        · skip
          refine lv_iload_n hx hb dX4_feed_40 rfl (lv_at hl 1 rfl) ?_
          refine lv_goto (tgt := 80) hx hb dX4_feed_41 (by decide) ?_
          refine lv_istore (lv' := [(7, .int (iI p0)), (0, .ref mm), (1, .int (iI p0)), (2, .int (iI p1)), (3, .int (iI p2)), (4, .int (iI p3)), (5, .int (iI p4)), (6, .int (iI jj))]) hx hb dX4_feed_80 hl (by decide) rfl (fun ls hl => ?_)
          refine lv_aload_n hx hb dX4_feed_82 rfl (lv_at hl 1 rfl) ?_
          refine va_get (D := (dC, dI)) (ci := 4) (v := .ref ta) (C := RX4) (T := TX4) (N := 10) hx hb hT inX4 hown hK hP 0 rfl rfl 1 (by decide) (hT _ wd518) (fun _ h9 => h9) rfl dX4_feed_83 ?_
          refine lv_aload_n hx hb dX4_feed_86 rfl (lv_at hl 1 rfl) ?_
          refine va_get (D := (dC, dI)) (ci := 4) (v := .int (iI y)) (C := RX4) (T := TX4) (N := 10) hx hb hT inX4 hown hK hP 0 rfl rfl 2 (by decide) (hT _ wd519) (fun _ h9 => h9) rfl dX4_feed_87 ?_
          refine lv_iload hx hb dX4_feed_90 (lv_at hl 0 rfl) ?_
          refine lv_bipush (v := iI 24) hx hb dX4_feed_92 (by decide +kernel) ?_
          refine lv_bipush (v := iI 8) hx hb dX4_feed_94 (by decide +kernel) ?_
          refine lv_iload hx hb dX4_feed_96 (lv_at hl 7 rfl) ?_
          refine lv_iconst (v := iI 4) hx hb dX4_feed_98 rfl ?_
          refine li_irem4 hx hb (by omega) dX4_feed_99 ?_
          refine li_imul hx hb dX4_feed_100 ?_
          refine li_isub hx hb dX4_feed_101 ?_
          refine li_ishr hx hb (by omega) (by omega) dX4_feed_102 ?_
          refine li_i2b hx hb dX4_feed_103 ?_
          refine li_bastW (y := ((p0 / 2 ^ ((24 - (8 * (jj % 4))) : Int).toNat) % 256)) hx hb hK hP hD hS 1 0 rfl rfl (z := y) (by omega) (by omega) (by rw [hln]; omega) (rfl) dX4_feed_104 (fun H locs hP hD hS => ?_)
          have hP : va_P (dC, dI) vwCl [(mm, .inr (4, [.int (iI 0), .ref ta, .int (iI y), .ref ka, .int (iI nn), .ref da, .ref ya, .int (iI pt), .int (iI md), .int (iI sx)])), (ta, .inl (cT, 4096, .inl (fun j => bI ((wrB t ((tz : Int).toNat) ((fdl p0 p1 p2 p3 p4 (jj : Int).toNat) ++ [((p0 / 2 ^ ((24 - (8 * (jj % 4))) : Int).toNat) % 256)])) j))))] H := hP
          have hD : va_D A [(mm, .inr (4, [.int (iI 0), .ref ta, .int (iI y), .ref ka, .int (iI nn), .ref da, .ref ya, .int (iI pt), .int (iI md), .int (iI sx)])), (ta, .inl (cT, 4096, .inl (fun j => bI ((wrB t ((tz : Int).toNat) ((fdl p0 p1 p2 p3 p4 (jj : Int).toNat) ++ [((p0 / 2 ^ ((24 - (8 * (jj % 4))) : Int).toNat) % 256)])) j))))] := hD
          refine lv_aload_n hx hb dX4_feed_105 rfl (lv_at hl 1 rfl) ?_
          refine lv_dup hx hb dX4_feed_106 rfl ?_
          refine va_get (D := (dC, dI)) (ci := 4) (v := .int (iI y)) (C := RX4) (T := TX4) (N := 10) hx hb hT inX4 hown hK hP 0 rfl rfl 2 (by decide) (hT _ wd519) (fun _ h9 => h9) rfl dX4_feed_107 ?_
          refine lv_iconst (v := iI 1) hx hb dX4_feed_110 rfl ?_
          refine li_iadd hx hb dX4_feed_111 ?_
          refine li_nm (fun z14 ez14 => ?_)
          refine va_put (D := (dC, dI)) (ci := 4) (v := .int (iI z14)) (ty := .int) (C := RX4) (T := TX4) (N := 10) hx hb hT inX4 tyX4 tyX4_ok nX4 hown hK hP hD hS 0 rfl rfl 2 (by decide) (hT _ wd519) (fun _ h9 => h9) rfl (by decide +kernel) rfl rfl (Nat.le_of_ble_eq_true rfl) dX4_feed_112 (fun H locs hP hD hS => ?_)
          have hP : va_P (dC, dI) vwCl [(mm, .inr (4, [.int (iI 0), .ref ta, .int (iI z14), .ref ka, .int (iI nn), .ref da, .ref ya, .int (iI pt), .int (iI md), .int (iI sx)])), (ta, .inl (cT, 4096, .inl (fun j => bI ((wrB t ((tz : Int).toNat) ((fdl p0 p1 p2 p3 p4 (jj : Int).toNat) ++ [((p0 / 2 ^ ((24 - (8 * (jj % 4))) : Int).toNat) % 256)])) j))))] H := hP
          have hD : va_D A [(mm, .inr (4, [.int (iI 0), .ref ta, .int (iI z14), .ref ka, .int (iI nn), .ref da, .ref ya, .int (iI pt), .int (iI md), .int (iI sx)])), (ta, .inl (cT, 4096, .inl (fun j => bI ((wrB t ((tz : Int).toNat) ((fdl p0 p1 p2 p3 p4 (jj : Int).toNat) ++ [((p0 / 2 ^ ((24 - (8 * (jj % 4))) : Int).toNat) % 256)])) j))))] := hD
          obtain ⟨z15, ez15⟩ : ∃ y : Int, y = jj + 1 := ⟨_, rfl⟩
          refine lv_iinc (v := iI z15) (lv' := [(6, .int (iI z15)), (7, .int (iI p0)), (0, .ref mm), (1, .int (iI p0)), (2, .int (iI p1)), (3, .int (iI p2)), (4, .int (iI p3)), (5, .int (iI p4))]) hx hb dX4_feed_115 hl (k := 7) rfl (by rw [ez15]; exact iI_add _ _) (by decide) rfl (fun ls hl => ?_)
          have hl2 : ((fdl p0 p1 p2 p3 p4 (jj : Int).toNat) ++ [((p0 / 2 ^ ((24 - (8 * (jj % 4))) : Int).toNat) % 256)]) = (fdl p0 p1 p2 p3 p4 (z15 : Int).toNat) := fdl_s (w := p0) (by omega) (by unfold fdw; (repeat' split) <;> omega) rfl (by omega)
          rw [hl2] at hP hD
          have hP : va_P (dC, dI) vwCl [(mm, .inr (4, [.int (iI 0), .ref ta, .int (iI z14), .ref ka, .int (iI nn), .ref da, .ref ya, .int (iI pt), .int (iI md), .int (iI sx)])), (ta, .inl (cT, 4096, .inl (fun j => bI ((wrB t ((tz : Int).toNat) (fdl p0 p1 p2 p3 p4 (z15 : Int).toNat)) j))))] H := hP
          have hD : va_D A [(mm, .inr (4, [.int (iI 0), .ref ta, .int (iI z14), .ref ka, .int (iI nn), .ref da, .ref ya, .int (iI pt), .int (iI md), .int (iI sx)])), (ta, .inl (cT, 4096, .inl (fun j => bI ((wrB t ((tz : Int).toNat) (fdl p0 p1 p2 p3 p4 (z15 : Int).toNat)) j))))] := hD
          refine lv_goto (tgt := 27) hx hb dX4_feed_118 (by decide) ?_
          exact ih z15 z14 _ _ _ _ _ (by omega) (by omega) (by omega) (by omega) (by omega) (hK.sub [0] rfl) (hP.sub [0, 1] rfl) (hD.sub [0, 1] (by decide) rfl) hS (lv_sub hl [2, 3, 4, 5, 6, 7, 0] rfl)
  refine lv_aload_n hx hb dX4_feed_0 rfl (lv_at hl 0 rfl) ?_
  refine lv_iconst (v := iI 0) hx hb dX4_feed_1 rfl ?_
  refine va_put (D := (dC, dI)) (ci := 4) (v := .int (iI 0)) (ty := .int) (C := RX4) (T := TX4) (N := 10) hx hb hT inX4 tyX4 tyX4_ok nX4 hown hK hP hD hS 0 rfl rfl 0 (by decide) (hT _ wd517) (fun _ h9 => h9) rfl (by decide +kernel) rfl rfl (Nat.le_of_ble_eq_true rfl) dX4_feed_2 (fun H locs hP hD hS => ?_)
  have hP : va_P (dC, dI) vwCl [(mm, .inr (4, [.int (iI 0), .ref ta, .int (iI tz), .ref ka, .int (iI nn), .ref da, .ref ya, .int (iI pt), .int (iI md), .int (iI sx)])), (ta, .inl (cT, 4096, .inl (fun j => bI (t j))))] H := hP
  have hD : va_D A [(mm, .inr (4, [.int (iI 0), .ref ta, .int (iI tz), .ref ka, .int (iI nn), .ref da, .ref ya, .int (iI pt), .int (iI md), .int (iI sx)])), (ta, .inl (cT, 4096, .inl (fun j => bI (t j))))] := hD
  refine lv_aload_n hx hb dX4_feed_5 rfl (lv_at hl 0 rfl) ?_
  refine va_get (D := (dC, dI)) (ci := 4) (v := .int (iI tz)) (C := RX4) (T := TX4) (N := 10) hx hb hT inX4 hown hK hP 0 rfl rfl 2 (by decide) (hT _ wd519) (fun _ h9 => h9) rfl dX4_feed_6 ?_
  refine lv_bipush (v := iI 20) hx hb dX4_feed_9 (by decide +kernel) ?_
  refine li_iadd hx hb dX4_feed_11 ?_
  refine lv_sipush (v := iI 4096) hx hb dX4_feed_12 (by decide +kernel) ?_
  refine li_icmp_le (tgt := 24) hx hb (by omega) (by omega) dX4_feed_15 (by decide) (fun c16 => ?_) (fun c16 => ?_)
  · skip
    have hP : va_P (dC, dI) vwCl [(mm, .inr (4, [.int (iI 0), .ref ta, .int (iI tz), .ref ka, .int (iI nn), .ref da, .ref ya, .int (iI pt), .int (iI md), .int (iI sx)])), (ta, .inl (cT, 4096, .inl (fun j => bI ((wrB t ((tz : Int).toNat) (fdl p0 p1 p2 p3 p4 (0 : Int).toNat)) j))))] H := by rw [show fdl p0 p1 p2 p3 p4 (0 : Int).toNat = [] from rfl, wrB_0]; exact hP
    have hD : va_D A [(mm, .inr (4, [.int (iI 0), .ref ta, .int (iI tz), .ref ka, .int (iI nn), .ref da, .ref ya, .int (iI pt), .int (iI md), .int (iI sx)])), (ta, .inl (cT, 4096, .inl (fun j => bI ((wrB t ((tz : Int).toNat) (fdl p0 p1 p2 p3 p4 (0 : Int).toNat)) j))))] := by rw [show fdl p0 p1 p2 p3 p4 (0 : Int).toNat = [] from rfl, wrB_0]; exact hD
    refine lv_iconst (v := iI 0) hx hb dX4_feed_24 rfl ?_
    refine lv_istore (lv' := [(6, .int (iI 0)), (0, .ref mm), (1, .int (iI p0)), (2, .int (iI p1)), (3, .int (iI p2)), (4, .int (iI p3)), (5, .int (iI p4))]) hx hb dX4_feed_25 hl (by decide) rfl (fun ls hl => ?_)
    exact LP (21) 0 tz _ _ _ _ _ (by omega) (by omega) (by omega) (by omega) (by omega) (hK.sub [0] rfl) (hP.sub [0, 1] rfl) (hD.sub [0, 1] (by decide) rfl) hS (lv_sub hl [1, 2, 3, 4, 5, 6, 0] rfl)
  · skip
    refine lv_aload_n hx hb dX4_feed_18 rfl (lv_at hl 0 rfl) ?_
    refine lv_iconst (v := iI 1) hx hb dX4_feed_19 rfl ?_
    have hPc := hP.sub (ws' := [(mm, .inr (4, [.int (iI 0), .ref ta, .int (iI tz), .ref ka, .int (iI nn), .ref da, .ref ya, .int (iI pt), .int (iI md), .int (iI sx)]))]) [0] rfl
    have hDc := hD.sub (ws' := [(mm, .inr (4, [.int (iI 0), .ref ta, .int (iI tz), .ref ka, .int (iI nn), .ref da, .ref ya, .int (iI pt), .int (iI md), .int (iI sx)]))]) [0] (by decide) rfl
    have hKc := hK.sub (tys' := []) [] rfl
    have hFc := va_free (wc := [(mm, .inr (4, [.int (iI 0), .ref ta, .int (iI tz), .ref ka, .int (iI nn), .ref da, .ref ya, .int (iI pt), .int (iI md), .int (iI sx)]))]) hD hS hA [0] rfl
    refine mv_call (mv_runV (As := [.int (iI 1)]) (rest := []) ⟨hx, hb, hml, hown, hT⟩ (c_M_fail l dC dI H.size mm 0 ta tz ka nn da ya pt md sx 1 ) (cwV 1 hT (gV wd556 wd558 wd16 wd30 wd559) rfl rfl rfl (by decide +kernel) ⟨show 0 + 1 ≤ 2 from by omega, show 8 + (2 + 11) + 0 ≤ 60 from by omega⟩) ⟨fun a U g mk q => by obtain ⟨q0, q1, qP, qK, qD⟩ := q; exact ⟨q0, q1, qP, va_K.moved (u := U) (U := U.calling g mk a) (Vm.Alike.refl U.vm) qK, qD⟩, va_recv hKc hPc (ci := 4) (q0 := 0) rfl rfl, fun U hU hW => ⟨rfl, by rw [hU], by rw [hU]; exact hPc, va_K.moved hW.alike hKc, hDc.weaken (fun _ _ _ _ => trivial)⟩⟩ rfl rfl hl.1 rfl (lv_room (Nat.le_of_ble_eq_true rfl)) dX4_feed_20 ⟨show 0 + 0 ≤ 0 from by omega, show 0 + 0 ≤ 0 from by omega⟩) hS (fun q _ h => hFc q h) hFc (fun v19 u k17 n18 tS H1 locs ht hvm hw hB hz1 hk1 hS => ?_)
    obtain ⟨hP1, hK1, hD1⟩ := hB
    rw [ht] at hP1
    have hK1 := va_K.moved hvm.symm hK1
    try dsimp only at hw
    obtain ⟨hP, hD⟩ := va_join (wr := [(ta, .inl (cT, 4096, .inl (fun j => bI (t j))))]) (w1 := [(mm, .inr (4, [.int (iI 1), .ref ta, .int (iI tz), .ref ka, .int (iI nn), .ref da, .ref ya, .int (iI pt), .int (iI md), .int (iI sx)]))]) hP hD [0] [1] rfl rfl (by decide) (by decide) hk1 hFc hP1 hD1
    have hK := (hK.sub (tys' := [(cT, .byte)]) [0] rfl).app hK1
    generalize H1 = H at hP hS ⊢
    have hP : va_P (dC, dI) vwCl [(ta, .inl (cT, 4096, .inl (fun j => bI (t j)))), (mm, .inr (4, [.int (iI 1), .ref ta, .int (iI tz), .ref ka, .int (iI nn), .ref da, .ref ya, .int (iI pt), .int (iI md), .int (iI sx)]))] H := hP
    have hD : va_D A [(ta, .inl (cT, 4096, .inl (fun j => bI (t j)))), (mm, .inr (4, [.int (iI 1), .ref ta, .int (iI tz), .ref ka, .int (iI nn), .ref da, .ref ya, .int (iI pt), .int (iI md), .int (iI sx)]))] := hD
    have hK : va_K (dC, dI) vwCl [(cT, .byte)] s := hK
    obtain ⟨rfl, rfl, rfl⟩ := hw
    refine W.eq (g2 := F0 m 23 ls [.int (iI 0)]) rfl ?_
    subst hQ9
    have hP9 := hP.sub (ws' := [(mm, .inr (4, [.int (iI 1), .ref ta, .int (iI tz), .ref ka, .int (iI nn), .ref da, .ref ya, .int (iI pt), .int (iI md), .int (iI sx)])), (ta, .inl (cT, 4096, .inl (fun j => bI (t j))))]) [1, 0] rfl
    have hD9 := hD.sub (ws' := [(mm, .inr (4, [.int (iI 1), .ref ta, .int (iI tz), .ref ka, .int (iI nn), .ref da, .ref ya, .int (iI pt), .int (iI md), .int (iI sx)])), (ta, .inl (cT, 4096, .inl (fun j => bI (t j))))]) [1, 0] (by decide) rfl
    have hK9 := hK.sub (tys' := [(cT, .byte)]) [0] rfl
    exact mv_iret hx hb hr hlocks (fun tS ht hW => ⟨⟨_, (1, tz, t, 0), rfl, ⟨rfl, Or.inr (⟨rfl, ⟨by omega, rfl, hok⟩⟩), by omega, by omega⟩, by rw [ht]; exact hP9, va_K.moved hW.alike hK9, hD9⟩, hS.F ht⟩) hS.2.2 dX4_feed_23
set_option maxHeartbeats 4000000 in
set_option maxRecDepth 100000 in
theorem c_M_wrap (l : Launch) (dC : Nat → ClassId) (dI : Nat → Nat → Nat) (sz : Nat) (mm : Nat) (fl : Int) (ta : Nat) (tz : Int) (ka : Nat) (nn : Int) (da : Nat) (ya : Nat) (pt : Int) (md : Int) (sx : Int) (cT : ClassId) (t : Nat → Int) (L : List Int) (x : Int) (y : Int) (cs : Int) (hok : okB 4096 t tz L) (hx4 : -2147483648 ≤ x ∧ x < 2147483648) (hy : -2147483648 ≤ y ∧ y < 2147483648) (hcs : cs = 0 ∨ cs = 1) : mv_Met l yX4_wrap wsX4_wrap ({ frames := 3, cells := 0, slots := 0, locals := 120 }) (va_Pc [.ref mm, .int (iI x), .int (iI y), .int (iI cs)] (fun U => U.heap.size = sz ∧ va_P (dC, dI) vwCl [(mm, .inr (4, [.int (iI fl), .ref ta, .int (iI tz), .ref ka, .int (iI nn), .ref da, .ref ya, .int (iI pt), .int (iI md), .int (iI sx)])), (ta, .inl (cT, 4096, .inl (fun j => bI (t j))))] U.heap ∧ va_K (dC, dI) vwCl [(cT, .byte)] U ∧ va_D (fun _ => True) [(mm, .inr (4, [.int (iI fl), .ref ta, .int (iI tz), .ref ka, .int (iI nn), .ref da, .ref ya, .int (iI pt), .int (iI md), .int (iI sx)])), (ta, .inl (cT, 4096, .inl (fun j => bI (t j))))])) (mv_Q (fun (v : Option Value) (u : Int × Int × (Nat → Int) × Int) (k n : Nat) => match u with | (fl', tz', t', q') => v = some (.int (iI q')) ∧ ((fl' = 0 ∧ (0 ≤ x ∧ x ≤ 3 ∧ 0 ≤ y ∧ tz' = tz + ((wrL x y cs tz).length : Int) ∧ q' = tz' ∧ okB 4096 t' tz' (wrL x y cs tz ++ L))) ∨ (fl' = 1 ∧ ((x < 0 ∨ 3 < x ∨ y < 0) ∧ tz' = tz ∧ okB 4096 t' tz' L)) ∨ (fl' = 2 ∧ (0 ≤ x ∧ x ≤ 3 ∧ 0 ≤ y ∧ 4096 < tz + ((wrL x y cs tz).length : Int) ∧ tz' = tz ∧ okB 4096 t' tz' L))) ∧ k = 0 ∧ n = 0) (fun (u : Int × Int × (Nat → Int) × Int) (tS : State) => match u with | (fl', tz', t', q') => va_P (dC, dI) vwCl [(mm, .inr (4, [.int (iI fl'), .ref ta, .int (iI tz'), .ref ka, .int (iI nn), .ref da, .ref ya, .int (iI pt), .int (iI md), .int (iI sx)])), (ta, .inl (cT, 4096, .inl (fun j => bI (t' j))))] tS.heap ∧ va_K (dC, dI) vwCl [(cT, .byte)] tS ∧ va_D (va_A [(mm, .inr (4, [.int (iI fl), .ref ta, .int (iI tz), .ref ka, .int (iI nn), .ref da, .ref ya, .int (iI pt), .int (iI md), .int (iI sx)])), (ta, .inl (cT, 4096, .inl (fun j => bI (t j))))] sz) [(mm, .inr (4, [.int (iI fl'), .ref ta, .int (iI tz'), .ref ka, .int (iI nn), .ref da, .ref ya, .int (iI pt), .int (iI md), .int (iI sx)])), (ta, .inl (cT, 4096, .inl (fun j => bI (t' j))))]) (va_A [(mm, .inr (4, [.int (iI fl), .ref ta, .int (iI tz), .ref ka, .int (iI nn), .ref da, .ref ya, .int (iI pt), .int (iI md), .int (iI sx)])), (ta, .inl (cT, 4096, .inl (fun j => bI (t j))))] sz)) (va_A [(mm, .inr (4, [.int (iI fl), .ref ta, .int (iI tz), .ref ka, .int (iI nn), .ref da, .ref ya, .int (iI pt), .int (iI md), .int (iI sx)])), (ta, .inl (cT, 4096, .inl (fun j => bI (t j))))] sz) := by
  refine mv_ofW (cc := cX4_wrap) (maxL := 6) (ret := (some .int)) (by decide) rfl ?_
  intro p e s m args below meth c s₁ B hml hv
  obtain ⟨rfl, hsz, hP, hK, hD0⟩ := hv
  have hx := B.exec
  have hb := B.bytes
  have hr := B.returns
  have hT : ∀ w ∈ wT, w.before _ s = true := fun w h => atoms_spec (ws := wsX4_wrap) B.pre w (List.mem_cons_of_mem _ h)
  have hown : s.vm.findClass RX4 = some m.cls := findClass_of_methodNamed B.named
  have hlocks := B.notSynchronized
  subst hsz
  have hD := hD0.self (sz := s.heap.size)
  generalize hAe : va_A [(mm, .inr (4, [.int (iI fl), .ref ta, .int (iI tz), .ref ka, .int (iI nn), .ref da, .ref ya, .int (iI pt), .int (iI md), .int (iI sx)])), (ta, .inl (cT, 4096, .inl (fun j => bI (t j))))] s.heap.size = A at hD ⊢
  have hA : ∀ q : Nat, s.heap.size ≤ q → A q := fun q h => by rw [← hAe]; exact Or.inr h
  have hS : va_S A s.heap s.heap [] := va_S.rf
  have hP : va_P (dC, dI) vwCl [(mm, .inr (4, [.int (iI fl), .ref ta, .int (iI tz), .ref ka, .int (iI nn), .ref da, .ref ya, .int (iI pt), .int (iI md), .int (iI sx)])), (ta, .inl (cT, 4096, .inl (fun j => bI (t j))))] s.heap := hP
  have hl := lv_entry ([.ref mm, .int (iI x), .int (iI y), .int (iI cs)]) (n := 6) (Nat.le_of_ble_eq_true rfl)
  rw [lg_entry_eq]
  generalize (lg_sl ([.ref mm, .int (iI x), .int (iI y), .int (iI cs)]) ++ List.replicate (6 - (lg_sl ([.ref mm, .int (iI x), .int (iI y), .int (iI cs)])).length) Slot.unset).toArray = ls at hl ⊢
  have hl : lv_has ls 6 [(0, .ref mm), (1, .int (iI x)), (2, .int (iI y)), (3, .int (iI cs))] := hl
  obtain ⟨hw1, hw2, hw3, hw4, hw5, hw6⟩ := id hok
  have hlb : 1 ≤ idLen y ∧ idLen y ≤ 6 ∧ 1 ≤ lnLen tz ∧ lnLen tz ≤ 3 := by unfold idLen lnLen; (repeat' split) <;> omega
  refine mv_nameQ (fun Q9 hQ9 => ?_)
  have LP : ∀ (fu : Nat) (jj : Int) (g : Int) (H : Heap) (locs : List Loc) (ls : Array Slot) (kc ks : Nat), (jj + 1 < (fu : Int)) → (-1 ≤ jj ∧ jj < tz) → (g = idLen y + lnLen tz ∧ tz + g ≤ 4096 ∧ 2 ≤ g) → (0 ≤ x ∧ x ≤ 3 ∧ 0 ≤ y) → (kc = 0 ∧ ks = 0) → va_K (dC, dI) vwCl [(cT, .byte)] s → va_P (dC, dI) vwCl [(mm, .inr (4, [.int (iI 0), .ref ta, .int (iI tz), .ref ka, .int (iI nn), .ref da, .ref ya, .int (iI pt), .int (iI md), .int (iI sx)])), (ta, .inl (cT, 4096, .inl (fun j => bI ((shB t g jj tz) j))))] H → va_D A [(mm, .inr (4, [.int (iI 0), .ref ta, .int (iI tz), .ref ka, .int (iI nn), .ref da, .ref ya, .int (iI pt), .int (iI md), .int (iI sx)])), (ta, .inl (cT, 4096, .inl (fun j => bI ((shB t g jj tz) j))))] → va_S A s.heap H locs → lv_has ls 6 [(0, .ref mm), (1, .int (iI x)), (2, .int (iI y)), (3, .int (iI cs)), (4, .int (iI g)), (5, .int (iI jj))] → W p l e ({ frames := 3, cells := 0, slots := 0, locals := 120 }) s m ([.ref mm, .int (iI x), .int (iI y), .int (iI cs)] : List Value).toArray below meth c H locs kc ks Q9 (F0 m 62 ls []) := by
    intro fu
    induction fu with
    | zero =>
      intro jj g H locs ls kc ks hfu hj hg hr9 hkc hK hP hD hS hl
      exfalso
      omega
    | succ fu ih =>
      intro jj g H locs ls kc ks hfu hj hg hr9 hkc hK hP hD hS hl
      refine lv_iload hx hb dX4_wrap_62 (lv_at hl 5 rfl) ?_
      refine li_if_lt (tgt := 90) hx hb (by omega) dX4_wrap_64 (by decide) (fun c1 => ?_) (fun c1 => ?_)
      · skip
        refine lv_aload_n hx hb dX4_wrap_90 rfl (lv_at hl 0 rfl) ?_
        refine lv_iconst (v := iI 0) hx hb dX4_wrap_91 rfl ?_
        refine lv_iload_n hx hb dX4_wrap_92 rfl (lv_at hl 1 rfl) ?_
        refine lv_iload_n hx hb dX4_wrap_93 rfl (lv_at hl 2 rfl) ?_
        refine lv_iload_n hx hb dX4_wrap_94 rfl (lv_at hl 3 rfl) ?_
        refine lv_aload_n hx hb dX4_wrap_95 rfl (lv_at hl 0 rfl) ?_
        refine va_get (D := (dC, dI)) (ci := 4) (v := .int (iI tz)) (C := RX4) (T := TX4) (N := 10) hx hb hT inX4 hown hK hP 0 rfl rfl 2 (by decide) (hT _ wd519) (fun _ h9 => h9) rfl dX4_wrap_96 ?_
        have hPc := hP.sub (ws' := [(mm, .inr (4, [.int (iI 0), .ref ta, .int (iI tz), .ref ka, .int (iI nn), .ref da, .ref ya, .int (iI pt), .int (iI md), .int (iI sx)])), (ta, .inl (cT, 4096, .inl (fun j => bI ((shB t g jj tz) j))))]) [0, 1] rfl
        have hDc := hD.sub (ws' := [(mm, .inr (4, [.int (iI 0), .ref ta, .int (iI tz), .ref ka, .int (iI nn), .ref da, .ref ya, .int (iI pt), .int (iI md), .int (iI sx)])), (ta, .inl (cT, 4096, .inl (fun j => bI ((shB t g jj tz) j))))]) [0, 1] (by decide) rfl
        have hKc := hK.sub (tys' := [(cT, .byte)]) [0] rfl
        have hFc := va_free (wc := [(mm, .inr (4, [.int (iI 0), .ref ta, .int (iI tz), .ref ka, .int (iI nn), .ref da, .ref ya, .int (iI pt), .int (iI md), .int (iI sx)])), (ta, .inl (cT, 4096, .inl (fun j => bI ((shB t g jj tz) j))))]) hD hS hA [0, 1] rfl
        refine mv_call (mv_runV (As := [.int (iI 0), .int (iI x), .int (iI y), .int (iI cs), .int (iI tz)]) (rest := []) ⟨hx, hb, hml, hown, hT⟩ (c_M_head l dC dI H.size mm 0 ta tz ka nn da ya pt md sx cT (shB t g jj tz) 0 x y cs tz (by omega) (by omega) (by omega) (by omega) (by omega)) (cwV 5 hT (gV wd613 wd615 wd23 wd30 wd616) rfl rfl rfl (by decide +kernel) ⟨show 1 + 1 ≤ 3 from by omega, show 8 + (11 + 11) + 60 ≤ 120 from by omega⟩) ⟨fun a U g mk q => by obtain ⟨q0, q1, qP, qK, qD⟩ := q; exact ⟨q0, q1, qP, va_K.moved (u := U) (U := U.calling g mk a) (Vm.Alike.refl U.vm) qK, qD⟩, va_recv hKc hPc (ci := 4) (q0 := 0) rfl rfl, fun U hU hW => ⟨rfl, by rw [hU], by rw [hU]; exact hPc, va_K.moved hW.alike hKc, hDc.weaken (fun _ _ _ _ => trivial)⟩⟩ rfl rfl hl.1 rfl (lv_room (Nat.le_of_ble_eq_true rfl)) dX4_wrap_99 ⟨show kc + 0 ≤ 0 from by omega, show ks + 0 ≤ 0 from by omega⟩) hS (fun q _ h => hFc q h) hFc (fun v4 u k2 n3 tS H1 locs ht hvm hw hB hz1 hk1 hS => ?_)
        obtain ⟨t5, q6⟩ := u
        obtain ⟨hP1, hK1, hD1⟩ := hB
        rw [ht] at hP1
        have hK1 := va_K.moved hvm.symm hK1
        try dsimp only at hw
        obtain ⟨hP, hD⟩ := va_join (wr := []) (w1 := [(mm, .inr (4, [.int (iI 0), .ref ta, .int (iI tz), .ref ka, .int (iI nn), .ref da, .ref ya, .int (iI pt), .int (iI md), .int (iI sx)])), (ta, .inl (cT, 4096, .inl (fun j => bI (t5 j))))]) hP hD [0, 1] [] rfl rfl (by decide) (by decide) hk1 hFc hP1 hD1
        have hK := (hK.sub (tys' := []) [] rfl).app hK1
        generalize H1 = H at hP hS ⊢
        have hP : va_P (dC, dI) vwCl [(mm, .inr (4, [.int (iI 0), .ref ta, .int (iI tz), .ref ka, .int (iI nn), .ref da, .ref ya, .int (iI pt), .int (iI md), .int (iI sx)])), (ta, .inl (cT, 4096, .inl (fun j => bI (t5 j))))] H := hP
        have hD : va_D A [(mm, .inr (4, [.int (iI 0), .ref ta, .int (iI tz), .ref ka, .int (iI nn), .ref da, .ref ya, .int (iI pt), .int (iI md), .int (iI sx)])), (ta, .inl (cT, 4096, .inl (fun j => bI (t5 j))))] := hD
        have hK : va_K (dC, dI) vwCl [(cT, .byte)] s := hK
        obtain ⟨rfl, htv4, hqv4, rfl, rfl⟩ := hw
        refine W.eq (g2 := F0 m 102 ls [.int (iI q6)]) rfl ?_
        refine lv_istore (lv' := [(5, .int (iI q6)), (0, .ref mm), (1, .int (iI x)), (2, .int (iI y)), (3, .int (iI cs)), (4, .int (iI g))]) hx hb dX4_wrap_102 hl (by decide) rfl (fun ls hl => ?_)
        refine lv_aload_n hx hb dX4_wrap_104 rfl (lv_at hl 1 rfl) ?_
        refine lv_dup hx hb dX4_wrap_105 rfl ?_
        refine va_get (D := (dC, dI)) (ci := 4) (v := .int (iI tz)) (C := RX4) (T := TX4) (N := 10) hx hb hT inX4 hown hK hP 0 rfl rfl 2 (by decide) (hT _ wd519) (fun _ h9 => h9) rfl dX4_wrap_106 ?_
        refine lv_iload hx hb dX4_wrap_109 (lv_at hl 5 rfl) ?_
        refine li_iadd hx hb dX4_wrap_111 ?_
        refine li_nm (fun z7 ez7 => ?_)
        refine va_put (D := (dC, dI)) (ci := 4) (v := .int (iI z7)) (ty := .int) (C := RX4) (T := TX4) (N := 10) hx hb hT inX4 tyX4 tyX4_ok nX4 hown hK hP hD hS 0 rfl rfl 2 (by decide) (hT _ wd519) (fun _ h9 => h9) rfl (by decide +kernel) rfl rfl (Nat.le_of_ble_eq_true rfl) dX4_wrap_112 (fun H locs hP hD hS => ?_)
        have hP : va_P (dC, dI) vwCl [(mm, .inr (4, [.int (iI 0), .ref ta, .int (iI z7), .ref ka, .int (iI nn), .ref da, .ref ya, .int (iI pt), .int (iI md), .int (iI sx)])), (ta, .inl (cT, 4096, .inl (fun j => bI (t5 j))))] H := hP
        have hD : va_D A [(mm, .inr (4, [.int (iI 0), .ref ta, .int (iI z7), .ref ka, .int (iI nn), .ref da, .ref ya, .int (iI pt), .int (iI md), .int (iI sx)])), (ta, .inl (cT, 4096, .inl (fun j => bI (t5 j))))] := hD
        refine lv_aload_n hx hb dX4_wrap_115 rfl (lv_at hl 1 rfl) ?_
        refine va_get (D := (dC, dI)) (ci := 4) (v := .int (iI z7)) (C := RX4) (T := TX4) (N := 10) hx hb hT inX4 hown hK hP 0 rfl rfl 2 (by decide) (hT _ wd519) (fun _ h9 => h9) rfl dX4_wrap_116 ?_
        have hwl : ((wrL x y cs tz).length : Int) = idLen y + lnLen tz := by unfold wrL; rw [List.length_append]; have h1 := idB_len (x := x) (cs := cs) (show 0 ≤ y by omega); have h2 := lnB_len (i := tz); omega
        have ej : jj = -1 := by omega
        rw [ej] at htv4
        have hfin : okB 4096 t5 z7 (wrL x y cs tz ++ L) := by rw [htv4]; exact okB_sh hok (rgB_app (rgB_id (by omega) (by omega) hcs) (rgB_ln (by omega))) (show g = ((wrL x y cs tz).length : Int) by omega) (by omega) (by omega)
        subst hQ9
        have hP9 := hP.sub (ws' := [(mm, .inr (4, [.int (iI 0), .ref ta, .int (iI z7), .ref ka, .int (iI nn), .ref da, .ref ya, .int (iI pt), .int (iI md), .int (iI sx)])), (ta, .inl (cT, 4096, .inl (fun j => bI (t5 j))))]) [0, 1] rfl
        have hD9 := hD.sub (ws' := [(mm, .inr (4, [.int (iI 0), .ref ta, .int (iI z7), .ref ka, .int (iI nn), .ref da, .ref ya, .int (iI pt), .int (iI md), .int (iI sx)])), (ta, .inl (cT, 4096, .inl (fun j => bI (t5 j))))]) [0, 1] (by decide) rfl
        have hK9 := hK.sub (tys' := [(cT, .byte)]) [0] rfl
        exact mv_iret hx hb hr hlocks (fun tS ht hW => ⟨⟨_, (0, z7, t5, z7), rfl, ⟨rfl, Or.inl ⟨rfl, ⟨by omega, by omega, by omega, by omega, rfl, hfin⟩⟩, by omega, by omega⟩, by rw [ht]; exact hP9, va_K.moved hW.alike hK9, hD9⟩, hS.F ht⟩) hS.2.2 dX4_wrap_119
      · skip
        refine lv_aload_n hx hb dX4_wrap_67 rfl (lv_at hl 0 rfl) ?_
        refine va_get (D := (dC, dI)) (ci := 4) (v := .ref ta) (C := RX4) (T := TX4) (N := 10) hx hb hT inX4 hown hK hP 0 rfl rfl 1 (by decide) (hT _ wd518) (fun _ h9 => h9) rfl dX4_wrap_68 ?_
        refine lv_iload hx hb dX4_wrap_71 (lv_at hl 5 rfl) ?_
        refine lv_iload hx hb dX4_wrap_73 (lv_at hl 4 rfl) ?_
        refine li_iadd hx hb dX4_wrap_75 ?_
        refine lv_aload_n hx hb dX4_wrap_76 rfl (lv_at hl 0 rfl) ?_
        refine va_get (D := (dC, dI)) (ci := 4) (v := .ref ta) (C := RX4) (T := TX4) (N := 10) hx hb hT inX4 hown hK hP 0 rfl rfl 1 (by decide) (hT _ wd518) (fun _ h9 => h9) rfl dX4_wrap_77 ?_
        refine lv_iload hx hb dX4_wrap_80 (lv_at hl 5 rfl) ?_
        refine li_bald hx hb hK hP 1 0 rfl rfl (z := jj) (by omega) (by omega) dX4_wrap_82 ?_
        refine li_bast hx hb hK hP hD hS 1 0 rfl rfl (z := (jj + g)) (by omega) (by omega) dX4_wrap_83 (fun H locs hP hD hS => ?_)
        have hP : va_P (dC, dI) vwCl [(mm, .inr (4, [.int (iI 0), .ref ta, .int (iI tz), .ref ka, .int (iI nn), .ref da, .ref ya, .int (iI pt), .int (iI md), .int (iI sx)])), (ta, .inl (cT, 4096, .inl (fun j => bI ((vf_upd (shB t g jj tz) ((jj + g) : Int).toNat ((shB t g jj tz) (jj : Int).toNat)) j))))] H := hP
        have hD : va_D A [(mm, .inr (4, [.int (iI 0), .ref ta, .int (iI tz), .ref ka, .int (iI nn), .ref da, .ref ya, .int (iI pt), .int (iI md), .int (iI sx)])), (ta, .inl (cT, 4096, .inl (fun j => bI ((vf_upd (shB t g jj tz) ((jj + g) : Int).toNat ((shB t g jj tz) (jj : Int).toNat)) j))))] := hD
        obtain ⟨z8, ez8⟩ : ∃ y : Int, y = jj + (-1) := ⟨_, rfl⟩
        refine lv_iinc (v := iI z8) (lv' := [(5, .int (iI z8)), (0, .ref mm), (1, .int (iI x)), (2, .int (iI y)), (3, .int (iI cs)), (4, .int (iI g))]) hx hb dX4_wrap_84 hl (k := 5) rfl (by rw [ez8]; exact iI_add _ _) (by decide) rfl (fun ls hl => ?_)
        have hsh : (vf_upd (shB t g jj tz) ((jj + g) : Int).toNat ((shB t g jj tz) (jj : Int).toNat)) = (shB t g z8 tz) := shB_s (by omega) (by omega) (by omega) (by omega)
        rw [hsh] at hP hD
        have hP : va_P (dC, dI) vwCl [(mm, .inr (4, [.int (iI 0), .ref ta, .int (iI tz), .ref ka, .int (iI nn), .ref da, .ref ya, .int (iI pt), .int (iI md), .int (iI sx)])), (ta, .inl (cT, 4096, .inl (fun j => bI ((shB t g z8 tz) j))))] H := hP
        have hD : va_D A [(mm, .inr (4, [.int (iI 0), .ref ta, .int (iI tz), .ref ka, .int (iI nn), .ref da, .ref ya, .int (iI pt), .int (iI md), .int (iI sx)])), (ta, .inl (cT, 4096, .inl (fun j => bI ((shB t g z8 tz) j))))] := hD
        refine lv_goto (tgt := 62) hx hb dX4_wrap_87 (by decide) ?_
        exact ih z8 g _ _ _ _ _ (by omega) (by omega) (by omega) (by omega) (by omega) (hK.sub [0] rfl) (hP.sub [0, 1] rfl) (hD.sub [0, 1] (by decide) rfl) hS (lv_sub hl [1, 2, 3, 4, 5, 0] rfl)
  refine lv_aload_n hx hb dX4_wrap_0 rfl (lv_at hl 0 rfl) ?_
  refine lv_iconst (v := iI 0) hx hb dX4_wrap_1 rfl ?_
  refine va_put (D := (dC, dI)) (ci := 4) (v := .int (iI 0)) (ty := .int) (C := RX4) (T := TX4) (N := 10) hx hb hT inX4 tyX4 tyX4_ok nX4 hown hK hP hD hS 0 rfl rfl 0 (by decide) (hT _ wd517) (fun _ h9 => h9) rfl (by decide +kernel) rfl rfl (Nat.le_of_ble_eq_true rfl) dX4_wrap_2 (fun H locs hP hD hS => ?_)
  have hP : va_P (dC, dI) vwCl [(mm, .inr (4, [.int (iI 0), .ref ta, .int (iI tz), .ref ka, .int (iI nn), .ref da, .ref ya, .int (iI pt), .int (iI md), .int (iI sx)])), (ta, .inl (cT, 4096, .inl (fun j => bI (t j))))] H := hP
  have hD : va_D A [(mm, .inr (4, [.int (iI 0), .ref ta, .int (iI tz), .ref ka, .int (iI nn), .ref da, .ref ya, .int (iI pt), .int (iI md), .int (iI sx)])), (ta, .inl (cT, 4096, .inl (fun j => bI (t j))))] := hD
  refine lv_iload_n hx hb dX4_wrap_5 rfl (lv_at hl 1 rfl) ?_
  refine li_if_lt (tgt := 18) hx hb (by omega) dX4_wrap_6 (by decide) (fun c9 => ?_) (fun c9 => ?_)
  · skip
    refine lv_aload_n hx hb dX4_wrap_18 rfl (lv_at hl 0 rfl) ?_
    refine lv_iconst (v := iI 1) hx hb dX4_wrap_19 rfl ?_
    have hPc := hP.sub (ws' := [(mm, .inr (4, [.int (iI 0), .ref ta, .int (iI tz), .ref ka, .int (iI nn), .ref da, .ref ya, .int (iI pt), .int (iI md), .int (iI sx)]))]) [0] rfl
    have hDc := hD.sub (ws' := [(mm, .inr (4, [.int (iI 0), .ref ta, .int (iI tz), .ref ka, .int (iI nn), .ref da, .ref ya, .int (iI pt), .int (iI md), .int (iI sx)]))]) [0] (by decide) rfl
    have hKc := hK.sub (tys' := []) [] rfl
    have hFc := va_free (wc := [(mm, .inr (4, [.int (iI 0), .ref ta, .int (iI tz), .ref ka, .int (iI nn), .ref da, .ref ya, .int (iI pt), .int (iI md), .int (iI sx)]))]) hD hS hA [0] rfl
    refine mv_call (mv_runV (As := [.int (iI 1)]) (rest := []) ⟨hx, hb, hml, hown, hT⟩ (c_M_fail l dC dI H.size mm 0 ta tz ka nn da ya pt md sx 1 ) (cwV 1 hT (gV wd556 wd558 wd16 wd30 wd559) rfl rfl rfl (by decide +kernel) ⟨show 0 + 1 ≤ 3 from by omega, show 8 + (2 + 11) + 0 ≤ 120 from by omega⟩) ⟨fun a U g mk q => by obtain ⟨q0, q1, qP, qK, qD⟩ := q; exact ⟨q0, q1, qP, va_K.moved (u := U) (U := U.calling g mk a) (Vm.Alike.refl U.vm) qK, qD⟩, va_recv hKc hPc (ci := 4) (q0 := 0) rfl rfl, fun U hU hW => ⟨rfl, by rw [hU], by rw [hU]; exact hPc, va_K.moved hW.alike hKc, hDc.weaken (fun _ _ _ _ => trivial)⟩⟩ rfl rfl hl.1 rfl (lv_room (Nat.le_of_ble_eq_true rfl)) dX4_wrap_20 ⟨show 0 + 0 ≤ 0 from by omega, show 0 + 0 ≤ 0 from by omega⟩) hS (fun q _ h => hFc q h) hFc (fun v12 u k10 n11 tS H1 locs ht hvm hw hB hz1 hk1 hS => ?_)
    obtain ⟨hP1, hK1, hD1⟩ := hB
    rw [ht] at hP1
    have hK1 := va_K.moved hvm.symm hK1
    try dsimp only at hw
    obtain ⟨hP, hD⟩ := va_join (wr := [(ta, .inl (cT, 4096, .inl (fun j => bI (t j))))]) (w1 := [(mm, .inr (4, [.int (iI 1), .ref ta, .int (iI tz), .ref ka, .int (iI nn), .ref da, .ref ya, .int (iI pt), .int (iI md), .int (iI sx)]))]) hP hD [0] [1] rfl rfl (by decide) (by decide) hk1 hFc hP1 hD1
    have hK := (hK.sub (tys' := [(cT, .byte)]) [0] rfl).app hK1
    generalize H1 = H at hP hS ⊢
    have hP : va_P (dC, dI) vwCl [(ta, .inl (cT, 4096, .inl (fun j => bI (t j)))), (mm, .inr (4, [.int (iI 1), .ref ta, .int (iI tz), .ref ka, .int (iI nn), .ref da, .ref ya, .int (iI pt), .int (iI md), .int (iI sx)]))] H := hP
    have hD : va_D A [(ta, .inl (cT, 4096, .inl (fun j => bI (t j)))), (mm, .inr (4, [.int (iI 1), .ref ta, .int (iI tz), .ref ka, .int (iI nn), .ref da, .ref ya, .int (iI pt), .int (iI md), .int (iI sx)]))] := hD
    have hK : va_K (dC, dI) vwCl [(cT, .byte)] s := hK
    obtain ⟨rfl, rfl, rfl⟩ := hw
    refine W.eq (g2 := F0 m 23 ls [.int (iI 0)]) rfl ?_
    subst hQ9
    have hP9 := hP.sub (ws' := [(mm, .inr (4, [.int (iI 1), .ref ta, .int (iI tz), .ref ka, .int (iI nn), .ref da, .ref ya, .int (iI pt), .int (iI md), .int (iI sx)])), (ta, .inl (cT, 4096, .inl (fun j => bI (t j))))]) [1, 0] rfl
    have hD9 := hD.sub (ws' := [(mm, .inr (4, [.int (iI 1), .ref ta, .int (iI tz), .ref ka, .int (iI nn), .ref da, .ref ya, .int (iI pt), .int (iI md), .int (iI sx)])), (ta, .inl (cT, 4096, .inl (fun j => bI (t j))))]) [1, 0] (by decide) rfl
    have hK9 := hK.sub (tys' := [(cT, .byte)]) [0] rfl
    exact mv_iret hx hb hr hlocks (fun tS ht hW => ⟨⟨_, (1, tz, t, 0), rfl, ⟨rfl, Or.inr (Or.inl ⟨rfl, ⟨by omega, rfl, hok⟩⟩), by omega, by omega⟩, by rw [ht]; exact hP9, va_K.moved hW.alike hK9, hD9⟩, hS.F ht⟩) hS.2.2 dX4_wrap_23
  · skip
    refine lv_iload_n hx hb dX4_wrap_9 rfl (lv_at hl 1 rfl) ?_
    refine lv_iconst (v := iI 3) hx hb dX4_wrap_10 rfl ?_
    refine li_icmp_gt (tgt := 18) hx hb (by omega) (by omega) dX4_wrap_11 (by decide) (fun c13 => ?_) (fun c13 => ?_)
    · skip
      refine lv_aload_n hx hb dX4_wrap_18 rfl (lv_at hl 0 rfl) ?_
      refine lv_iconst (v := iI 1) hx hb dX4_wrap_19 rfl ?_
      have hPc := hP.sub (ws' := [(mm, .inr (4, [.int (iI 0), .ref ta, .int (iI tz), .ref ka, .int (iI nn), .ref da, .ref ya, .int (iI pt), .int (iI md), .int (iI sx)]))]) [0] rfl
      have hDc := hD.sub (ws' := [(mm, .inr (4, [.int (iI 0), .ref ta, .int (iI tz), .ref ka, .int (iI nn), .ref da, .ref ya, .int (iI pt), .int (iI md), .int (iI sx)]))]) [0] (by decide) rfl
      have hKc := hK.sub (tys' := []) [] rfl
      have hFc := va_free (wc := [(mm, .inr (4, [.int (iI 0), .ref ta, .int (iI tz), .ref ka, .int (iI nn), .ref da, .ref ya, .int (iI pt), .int (iI md), .int (iI sx)]))]) hD hS hA [0] rfl
      refine mv_call (mv_runV (As := [.int (iI 1)]) (rest := []) ⟨hx, hb, hml, hown, hT⟩ (c_M_fail l dC dI H.size mm 0 ta tz ka nn da ya pt md sx 1 ) (cwV 1 hT (gV wd556 wd558 wd16 wd30 wd559) rfl rfl rfl (by decide +kernel) ⟨show 0 + 1 ≤ 3 from by omega, show 8 + (2 + 11) + 0 ≤ 120 from by omega⟩) ⟨fun a U g mk q => by obtain ⟨q0, q1, qP, qK, qD⟩ := q; exact ⟨q0, q1, qP, va_K.moved (u := U) (U := U.calling g mk a) (Vm.Alike.refl U.vm) qK, qD⟩, va_recv hKc hPc (ci := 4) (q0 := 0) rfl rfl, fun U hU hW => ⟨rfl, by rw [hU], by rw [hU]; exact hPc, va_K.moved hW.alike hKc, hDc.weaken (fun _ _ _ _ => trivial)⟩⟩ rfl rfl hl.1 rfl (lv_room (Nat.le_of_ble_eq_true rfl)) dX4_wrap_20 ⟨show 0 + 0 ≤ 0 from by omega, show 0 + 0 ≤ 0 from by omega⟩) hS (fun q _ h => hFc q h) hFc (fun v16 u k14 n15 tS H1 locs ht hvm hw hB hz1 hk1 hS => ?_)
      obtain ⟨hP1, hK1, hD1⟩ := hB
      rw [ht] at hP1
      have hK1 := va_K.moved hvm.symm hK1
      try dsimp only at hw
      obtain ⟨hP, hD⟩ := va_join (wr := [(ta, .inl (cT, 4096, .inl (fun j => bI (t j))))]) (w1 := [(mm, .inr (4, [.int (iI 1), .ref ta, .int (iI tz), .ref ka, .int (iI nn), .ref da, .ref ya, .int (iI pt), .int (iI md), .int (iI sx)]))]) hP hD [0] [1] rfl rfl (by decide) (by decide) hk1 hFc hP1 hD1
      have hK := (hK.sub (tys' := [(cT, .byte)]) [0] rfl).app hK1
      generalize H1 = H at hP hS ⊢
      have hP : va_P (dC, dI) vwCl [(ta, .inl (cT, 4096, .inl (fun j => bI (t j)))), (mm, .inr (4, [.int (iI 1), .ref ta, .int (iI tz), .ref ka, .int (iI nn), .ref da, .ref ya, .int (iI pt), .int (iI md), .int (iI sx)]))] H := hP
      have hD : va_D A [(ta, .inl (cT, 4096, .inl (fun j => bI (t j)))), (mm, .inr (4, [.int (iI 1), .ref ta, .int (iI tz), .ref ka, .int (iI nn), .ref da, .ref ya, .int (iI pt), .int (iI md), .int (iI sx)]))] := hD
      have hK : va_K (dC, dI) vwCl [(cT, .byte)] s := hK
      obtain ⟨rfl, rfl, rfl⟩ := hw
      refine W.eq (g2 := F0 m 23 ls [.int (iI 0)]) rfl ?_
      subst hQ9
      have hP9 := hP.sub (ws' := [(mm, .inr (4, [.int (iI 1), .ref ta, .int (iI tz), .ref ka, .int (iI nn), .ref da, .ref ya, .int (iI pt), .int (iI md), .int (iI sx)])), (ta, .inl (cT, 4096, .inl (fun j => bI (t j))))]) [1, 0] rfl
      have hD9 := hD.sub (ws' := [(mm, .inr (4, [.int (iI 1), .ref ta, .int (iI tz), .ref ka, .int (iI nn), .ref da, .ref ya, .int (iI pt), .int (iI md), .int (iI sx)])), (ta, .inl (cT, 4096, .inl (fun j => bI (t j))))]) [1, 0] (by decide) rfl
      have hK9 := hK.sub (tys' := [(cT, .byte)]) [0] rfl
      exact mv_iret hx hb hr hlocks (fun tS ht hW => ⟨⟨_, (1, tz, t, 0), rfl, ⟨rfl, Or.inr (Or.inl ⟨rfl, ⟨by omega, rfl, hok⟩⟩), by omega, by omega⟩, by rw [ht]; exact hP9, va_K.moved hW.alike hK9, hD9⟩, hS.F ht⟩) hS.2.2 dX4_wrap_23
    · skip
      refine lv_iload_n hx hb dX4_wrap_14 rfl (lv_at hl 2 rfl) ?_
      refine li_if_ge (tgt := 24) hx hb (by omega) dX4_wrap_15 (by decide) (fun c17 => ?_) (fun c17 => ?_)
      · skip
        refine lv_aload_n hx hb dX4_wrap_24 rfl (lv_at hl 0 rfl) ?_
        refine lv_iload_n hx hb dX4_wrap_25 rfl (lv_at hl 2 rfl) ?_
        refine lv_aload_n hx hb dX4_wrap_26 rfl (lv_at hl 0 rfl) ?_
        refine va_get (D := (dC, dI)) (ci := 4) (v := .int (iI tz)) (C := RX4) (T := TX4) (N := 10) hx hb hT inX4 hown hK hP 0 rfl rfl 2 (by decide) (hT _ wd519) (fun _ h9 => h9) rfl dX4_wrap_27 ?_
        have hPc := hP.sub (ws' := [(mm, .inr (4, [.int (iI 0), .ref ta, .int (iI tz), .ref ka, .int (iI nn), .ref da, .ref ya, .int (iI pt), .int (iI md), .int (iI sx)]))]) [0] rfl
        have hDc := hD.sub (ws' := [(mm, .inr (4, [.int (iI 0), .ref ta, .int (iI tz), .ref ka, .int (iI nn), .ref da, .ref ya, .int (iI pt), .int (iI md), .int (iI sx)]))]) [0] (by decide) rfl
        have hKc := hK.sub (tys' := []) [] rfl
        have hFc := va_free (wc := [(mm, .inr (4, [.int (iI 0), .ref ta, .int (iI tz), .ref ka, .int (iI nn), .ref da, .ref ya, .int (iI pt), .int (iI md), .int (iI sx)]))]) hD hS hA [0] rfl
        refine mv_call (mv_runV (As := [.int (iI y), .int (iI tz)]) (rest := []) ⟨hx, hb, hml, hown, hT⟩ (c_M_hsz l dC dI H.size mm 0 ta tz ka nn da ya pt md sx y tz (by omega) (by omega)) (cwV 2 hT (gV wd609 wd611 wd22 wd30 wd612) rfl rfl rfl (by decide +kernel) ⟨show 1 + 1 ≤ 3 from by omega, show 8 + (6 + 11) + 60 ≤ 120 from by omega⟩) ⟨fun a U g mk q => by obtain ⟨q0, q1, qP, qK, qD⟩ := q; exact ⟨q0, q1, qP, va_K.moved (u := U) (U := U.calling g mk a) (Vm.Alike.refl U.vm) qK, qD⟩, va_recv hKc hPc (ci := 4) (q0 := 0) rfl rfl, fun U hU hW => ⟨rfl, by rw [hU], by rw [hU]; exact hPc, va_K.moved hW.alike hKc, hDc.weaken (fun _ _ _ _ => trivial)⟩⟩ rfl rfl hl.1 rfl (lv_room (Nat.le_of_ble_eq_true rfl)) dX4_wrap_30 ⟨show 0 + 0 ≤ 0 from by omega, show 0 + 0 ≤ 0 from by omega⟩) hS (fun q _ h => hFc q h) hFc (fun v20 u k18 n19 tS H1 locs ht hvm hw hB hz1 hk1 hS => ?_)
        obtain ⟨q21, rfl⟩ : ∃ y, y = u := ⟨_, rfl⟩
        obtain ⟨hP1, hK1, hD1⟩ := hB
        rw [ht] at hP1
        have hK1 := va_K.moved hvm.symm hK1
        try dsimp only at hw
        obtain ⟨hP, hD⟩ := va_join (wr := [(ta, .inl (cT, 4096, .inl (fun j => bI (t j))))]) (w1 := [(mm, .inr (4, [.int (iI 0), .ref ta, .int (iI tz), .ref ka, .int (iI nn), .ref da, .ref ya, .int (iI pt), .int (iI md), .int (iI sx)]))]) hP hD [0] [1] rfl rfl (by decide) (by decide) hk1 hFc hP1 hD1
        have hK := (hK.sub (tys' := [(cT, .byte)]) [0] rfl).app hK1
        generalize H1 = H at hP hS ⊢
        have hP : va_P (dC, dI) vwCl [(ta, .inl (cT, 4096, .inl (fun j => bI (t j)))), (mm, .inr (4, [.int (iI 0), .ref ta, .int (iI tz), .ref ka, .int (iI nn), .ref da, .ref ya, .int (iI pt), .int (iI md), .int (iI sx)]))] H := hP
        have hD : va_D A [(ta, .inl (cT, 4096, .inl (fun j => bI (t j)))), (mm, .inr (4, [.int (iI 0), .ref ta, .int (iI tz), .ref ka, .int (iI nn), .ref da, .ref ya, .int (iI pt), .int (iI md), .int (iI sx)]))] := hD
        have hK : va_K (dC, dI) vwCl [(cT, .byte)] s := hK
        obtain ⟨rfl, hqv20, rfl, rfl⟩ := hw
        refine W.eq (g2 := F0 m 33 ls [.int (iI q21)]) rfl ?_
        refine lv_istore (lv' := [(4, .int (iI q21)), (0, .ref mm), (1, .int (iI x)), (2, .int (iI y)), (3, .int (iI cs))]) hx hb dX4_wrap_33 hl (by decide) rfl (fun ls hl => ?_)
        refine lv_aload_n hx hb dX4_wrap_35 rfl (lv_at hl 1 rfl) ?_
        refine va_get (D := (dC, dI)) (ci := 4) (v := .int (iI tz)) (C := RX4) (T := TX4) (N := 10) hx hb hT inX4 hown hK hP 1 rfl rfl 2 (by decide) (hT _ wd519) (fun _ h9 => h9) rfl dX4_wrap_36 ?_
        refine lv_iload hx hb dX4_wrap_39 (lv_at hl 0 rfl) ?_
        refine li_iadd hx hb dX4_wrap_41 ?_
        refine lv_sipush (v := iI 4096) hx hb dX4_wrap_42 (by decide +kernel) ?_
        refine li_icmp_le (tgt := 54) hx hb (by omega) (by omega) dX4_wrap_45 (by decide) (fun c22 => ?_) (fun c22 => ?_)
        · skip
          refine lv_aload_n hx hb dX4_wrap_54 rfl (lv_at hl 1 rfl) ?_
          refine va_get (D := (dC, dI)) (ci := 4) (v := .int (iI tz)) (C := RX4) (T := TX4) (N := 10) hx hb hT inX4 hown hK hP 1 rfl rfl 2 (by decide) (hT _ wd519) (fun _ h9 => h9) rfl dX4_wrap_55 ?_
          refine lv_iconst (v := iI 1) hx hb dX4_wrap_58 rfl ?_
          refine li_isub hx hb dX4_wrap_59 ?_
          refine li_nm (fun z23 ez23 => ?_)
          refine lv_istore (lv' := [(5, .int (iI z23)), (4, .int (iI q21)), (0, .ref mm), (1, .int (iI x)), (2, .int (iI y)), (3, .int (iI cs))]) hx hb dX4_wrap_60 hl (by decide) rfl (fun ls hl => ?_)
          have hP : va_P (dC, dI) vwCl [(ta, .inl (cT, 4096, .inl (fun j => bI ((shB t q21 z23 tz) j)))), (mm, .inr (4, [.int (iI 0), .ref ta, .int (iI tz), .ref ka, .int (iI nn), .ref da, .ref ya, .int (iI pt), .int (iI md), .int (iI sx)]))] H := by rw [shB_0 t (by omega)]; exact hP
          have hD : va_D A [(ta, .inl (cT, 4096, .inl (fun j => bI ((shB t q21 z23 tz) j)))), (mm, .inr (4, [.int (iI 0), .ref ta, .int (iI tz), .ref ka, .int (iI nn), .ref da, .ref ya, .int (iI pt), .int (iI md), .int (iI sx)]))] := by rw [shB_0 t (by omega)]; exact hD
          exact LP (5000) z23 q21 _ _ _ _ _ (by omega) (by omega) (by omega) (by omega) (by omega) (hK.sub [0] rfl) (hP.sub [1, 0] rfl) (hD.sub [1, 0] (by decide) rfl) hS (lv_sub hl [2, 3, 4, 5, 1, 0] rfl)
        · skip
          refine lv_aload_n hx hb dX4_wrap_48 rfl (lv_at hl 1 rfl) ?_
          refine lv_iconst (v := iI 2) hx hb dX4_wrap_49 rfl ?_
          have hPc := hP.sub (ws' := [(mm, .inr (4, [.int (iI 0), .ref ta, .int (iI tz), .ref ka, .int (iI nn), .ref da, .ref ya, .int (iI pt), .int (iI md), .int (iI sx)]))]) [1] rfl
          have hDc := hD.sub (ws' := [(mm, .inr (4, [.int (iI 0), .ref ta, .int (iI tz), .ref ka, .int (iI nn), .ref da, .ref ya, .int (iI pt), .int (iI md), .int (iI sx)]))]) [1] (by decide) rfl
          have hKc := hK.sub (tys' := []) [] rfl
          have hFc := va_free (wc := [(mm, .inr (4, [.int (iI 0), .ref ta, .int (iI tz), .ref ka, .int (iI nn), .ref da, .ref ya, .int (iI pt), .int (iI md), .int (iI sx)]))]) hD hS hA [1] rfl
          refine mv_call (mv_runV (As := [.int (iI 2)]) (rest := []) ⟨hx, hb, hml, hown, hT⟩ (c_M_fail l dC dI H.size mm 0 ta tz ka nn da ya pt md sx 2 ) (cwV 1 hT (gV wd556 wd558 wd16 wd30 wd559) rfl rfl rfl (by decide +kernel) ⟨show 0 + 1 ≤ 3 from by omega, show 8 + (2 + 11) + 0 ≤ 120 from by omega⟩) ⟨fun a U g mk q => by obtain ⟨q0, q1, qP, qK, qD⟩ := q; exact ⟨q0, q1, qP, va_K.moved (u := U) (U := U.calling g mk a) (Vm.Alike.refl U.vm) qK, qD⟩, va_recv hKc hPc (ci := 4) (q0 := 0) rfl rfl, fun U hU hW => ⟨rfl, by rw [hU], by rw [hU]; exact hPc, va_K.moved hW.alike hKc, hDc.weaken (fun _ _ _ _ => trivial)⟩⟩ rfl rfl hl.1 rfl (lv_room (Nat.le_of_ble_eq_true rfl)) dX4_wrap_50 ⟨show 0 + 0 + 0 ≤ 0 from by omega, show 0 + 0 + 0 ≤ 0 from by omega⟩) hS (fun q _ h => hFc q h) hFc (fun v26 u k24 n25 tS H1 locs ht hvm hw hB hz1 hk1 hS => ?_)
          obtain ⟨hP1, hK1, hD1⟩ := hB
          rw [ht] at hP1
          have hK1 := va_K.moved hvm.symm hK1
          try dsimp only at hw
          obtain ⟨hP, hD⟩ := va_join (wr := [(ta, .inl (cT, 4096, .inl (fun j => bI (t j))))]) (w1 := [(mm, .inr (4, [.int (iI 2), .ref ta, .int (iI tz), .ref ka, .int (iI nn), .ref da, .ref ya, .int (iI pt), .int (iI md), .int (iI sx)]))]) hP hD [1] [0] rfl rfl (by decide) (by decide) hk1 hFc hP1 hD1
          have hK := (hK.sub (tys' := [(cT, .byte)]) [0] rfl).app hK1
          generalize H1 = H at hP hS ⊢
          have hP : va_P (dC, dI) vwCl [(ta, .inl (cT, 4096, .inl (fun j => bI (t j)))), (mm, .inr (4, [.int (iI 2), .ref ta, .int (iI tz), .ref ka, .int (iI nn), .ref da, .ref ya, .int (iI pt), .int (iI md), .int (iI sx)]))] H := hP
          have hD : va_D A [(ta, .inl (cT, 4096, .inl (fun j => bI (t j)))), (mm, .inr (4, [.int (iI 2), .ref ta, .int (iI tz), .ref ka, .int (iI nn), .ref da, .ref ya, .int (iI pt), .int (iI md), .int (iI sx)]))] := hD
          have hK : va_K (dC, dI) vwCl [(cT, .byte)] s := hK
          obtain ⟨rfl, rfl, rfl⟩ := hw
          refine W.eq (g2 := F0 m 53 ls [.int (iI 0)]) rfl ?_
          have hwl : ((wrL x y cs tz).length : Int) = idLen y + lnLen tz := by unfold wrL; rw [List.length_append]; have h1 := idB_len (x := x) (cs := cs) (show 0 ≤ y by omega); have h2 := lnB_len (i := tz); omega
          subst hQ9
          have hP9 := hP.sub (ws' := [(mm, .inr (4, [.int (iI 2), .ref ta, .int (iI tz), .ref ka, .int (iI nn), .ref da, .ref ya, .int (iI pt), .int (iI md), .int (iI sx)])), (ta, .inl (cT, 4096, .inl (fun j => bI (t j))))]) [1, 0] rfl
          have hD9 := hD.sub (ws' := [(mm, .inr (4, [.int (iI 2), .ref ta, .int (iI tz), .ref ka, .int (iI nn), .ref da, .ref ya, .int (iI pt), .int (iI md), .int (iI sx)])), (ta, .inl (cT, 4096, .inl (fun j => bI (t j))))]) [1, 0] (by decide) rfl
          have hK9 := hK.sub (tys' := [(cT, .byte)]) [0] rfl
          exact mv_iret hx hb hr hlocks (fun tS ht hW => ⟨⟨_, (2, tz, t, 0), rfl, ⟨rfl, Or.inr (Or.inr (⟨rfl, ⟨by omega, by omega, by omega, by omega, rfl, hok⟩⟩)), by omega, by omega⟩, by rw [ht]; exact hP9, va_K.moved hW.alike hK9, hD9⟩, hS.F ht⟩) hS.2.2 dX4_wrap_53
      · skip
        refine lv_aload_n hx hb dX4_wrap_18 rfl (lv_at hl 0 rfl) ?_
        refine lv_iconst (v := iI 1) hx hb dX4_wrap_19 rfl ?_
        have hPc := hP.sub (ws' := [(mm, .inr (4, [.int (iI 0), .ref ta, .int (iI tz), .ref ka, .int (iI nn), .ref da, .ref ya, .int (iI pt), .int (iI md), .int (iI sx)]))]) [0] rfl
        have hDc := hD.sub (ws' := [(mm, .inr (4, [.int (iI 0), .ref ta, .int (iI tz), .ref ka, .int (iI nn), .ref da, .ref ya, .int (iI pt), .int (iI md), .int (iI sx)]))]) [0] (by decide) rfl
        have hKc := hK.sub (tys' := []) [] rfl
        have hFc := va_free (wc := [(mm, .inr (4, [.int (iI 0), .ref ta, .int (iI tz), .ref ka, .int (iI nn), .ref da, .ref ya, .int (iI pt), .int (iI md), .int (iI sx)]))]) hD hS hA [0] rfl
        refine mv_call (mv_runV (As := [.int (iI 1)]) (rest := []) ⟨hx, hb, hml, hown, hT⟩ (c_M_fail l dC dI H.size mm 0 ta tz ka nn da ya pt md sx 1 ) (cwV 1 hT (gV wd556 wd558 wd16 wd30 wd559) rfl rfl rfl (by decide +kernel) ⟨show 0 + 1 ≤ 3 from by omega, show 8 + (2 + 11) + 0 ≤ 120 from by omega⟩) ⟨fun a U g mk q => by obtain ⟨q0, q1, qP, qK, qD⟩ := q; exact ⟨q0, q1, qP, va_K.moved (u := U) (U := U.calling g mk a) (Vm.Alike.refl U.vm) qK, qD⟩, va_recv hKc hPc (ci := 4) (q0 := 0) rfl rfl, fun U hU hW => ⟨rfl, by rw [hU], by rw [hU]; exact hPc, va_K.moved hW.alike hKc, hDc.weaken (fun _ _ _ _ => trivial)⟩⟩ rfl rfl hl.1 rfl (lv_room (Nat.le_of_ble_eq_true rfl)) dX4_wrap_20 ⟨show 0 + 0 ≤ 0 from by omega, show 0 + 0 ≤ 0 from by omega⟩) hS (fun q _ h => hFc q h) hFc (fun v29 u k27 n28 tS H1 locs ht hvm hw hB hz1 hk1 hS => ?_)
        obtain ⟨hP1, hK1, hD1⟩ := hB
        rw [ht] at hP1
        have hK1 := va_K.moved hvm.symm hK1
        try dsimp only at hw
        obtain ⟨hP, hD⟩ := va_join (wr := [(ta, .inl (cT, 4096, .inl (fun j => bI (t j))))]) (w1 := [(mm, .inr (4, [.int (iI 1), .ref ta, .int (iI tz), .ref ka, .int (iI nn), .ref da, .ref ya, .int (iI pt), .int (iI md), .int (iI sx)]))]) hP hD [0] [1] rfl rfl (by decide) (by decide) hk1 hFc hP1 hD1
        have hK := (hK.sub (tys' := [(cT, .byte)]) [0] rfl).app hK1
        generalize H1 = H at hP hS ⊢
        have hP : va_P (dC, dI) vwCl [(ta, .inl (cT, 4096, .inl (fun j => bI (t j)))), (mm, .inr (4, [.int (iI 1), .ref ta, .int (iI tz), .ref ka, .int (iI nn), .ref da, .ref ya, .int (iI pt), .int (iI md), .int (iI sx)]))] H := hP
        have hD : va_D A [(ta, .inl (cT, 4096, .inl (fun j => bI (t j)))), (mm, .inr (4, [.int (iI 1), .ref ta, .int (iI tz), .ref ka, .int (iI nn), .ref da, .ref ya, .int (iI pt), .int (iI md), .int (iI sx)]))] := hD
        have hK : va_K (dC, dI) vwCl [(cT, .byte)] s := hK
        obtain ⟨rfl, rfl, rfl⟩ := hw
        refine W.eq (g2 := F0 m 23 ls [.int (iI 0)]) rfl ?_
        subst hQ9
        have hP9 := hP.sub (ws' := [(mm, .inr (4, [.int (iI 1), .ref ta, .int (iI tz), .ref ka, .int (iI nn), .ref da, .ref ya, .int (iI pt), .int (iI md), .int (iI sx)])), (ta, .inl (cT, 4096, .inl (fun j => bI (t j))))]) [1, 0] rfl
        have hD9 := hD.sub (ws' := [(mm, .inr (4, [.int (iI 1), .ref ta, .int (iI tz), .ref ka, .int (iI nn), .ref da, .ref ya, .int (iI pt), .int (iI md), .int (iI sx)])), (ta, .inl (cT, 4096, .inl (fun j => bI (t j))))]) [1, 0] (by decide) rfl
        have hK9 := hK.sub (tys' := [(cT, .byte)]) [0] rfl
        exact mv_iret hx hb hr hlocks (fun tS ht hW => ⟨⟨_, (1, tz, t, 0), rfl, ⟨rfl, Or.inr (Or.inl ⟨rfl, ⟨by omega, rfl, hok⟩⟩), by omega, by omega⟩, by rw [ht]; exact hP9, va_K.moved hW.alike hK9, hD9⟩, hS.F ht⟩) hS.2.2 dX4_wrap_23
set_option maxHeartbeats 4000000 in
set_option maxRecDepth 100000 in
theorem c_M_add (l : Launch) (dC : Nat → ClassId) (dI : Nat → Nat → Nat) (sz : Nat) (mm : Nat) (fl : Int) (ta : Nat) (tz : Int) (ka : Nat) (nn : Int) (da : Nat) (ya : Nat) (pt : Int) (md : Int) (sx : Int) (cT : ClassId) (t : Nat → Int) (L : List Int) (x : Int) (y : Int) (q : Int) (hok : okB 4096 t tz L) (hx4 : -2147483648 ≤ x ∧ x < 2147483648) (hy : -2147483648 ≤ y ∧ y < 2147483648) (hq : -9223372036854775808 ≤ q ∧ q < 9223372036854775808) : mv_Met l yX4_add wsX4_add ({ frames := 3, cells := 0, slots := 0, locals := 120 }) (va_Pc [.ref mm, .int (iI x), .int (iI y), .long (lI q)] (fun U => U.heap.size = sz ∧ va_P (dC, dI) vwCl [(mm, .inr (4, [.int (iI fl), .ref ta, .int (iI tz), .ref ka, .int (iI nn), .ref da, .ref ya, .int (iI pt), .int (iI md), .int (iI sx)])), (ta, .inl (cT, 4096, .inl (fun j => bI (t j))))] U.heap ∧ va_K (dC, dI) vwCl [(cT, .byte)] U ∧ va_D (fun _ => True) [(mm, .inr (4, [.int (iI fl), .ref ta, .int (iI tz), .ref ka, .int (iI nn), .ref da, .ref ya, .int (iI pt), .int (iI md), .int (iI sx)])), (ta, .inl (cT, 4096, .inl (fun j => bI (t j))))])) (mv_Q (fun (v : Option Value) (u : Int × Int × (Nat → Int) × Int) (k n : Nat) => match u with | (fl', tz', t', q') => v = some (.int (iI q')) ∧ ((fl' = 0 ∧ (0 ≤ x ∧ x ≤ 3 ∧ 0 ≤ y ∧ tz' = tz + ((adL x y q).length : Int) ∧ q' = tz' ∧ okB 4096 t' tz' (L ++ adL x y q))) ∨ (fl' = 1 ∧ ((x < 0 ∨ 3 < x ∨ y < 0) ∧ tz' = tz ∧ okB 4096 t' tz' L)) ∨ (fl' = 2 ∧ (0 ≤ x ∧ x ≤ 3 ∧ 0 ≤ y ∧ 4096 < tz + ((adL x y q).length : Int) ∧ tz' = tz ∧ okB 4096 t' tz' L))) ∧ k = 0 ∧ n = 0) (fun (u : Int × Int × (Nat → Int) × Int) (tS : State) => match u with | (fl', tz', t', q') => va_P (dC, dI) vwCl [(mm, .inr (4, [.int (iI fl'), .ref ta, .int (iI tz'), .ref ka, .int (iI nn), .ref da, .ref ya, .int (iI pt), .int (iI md), .int (iI sx)])), (ta, .inl (cT, 4096, .inl (fun j => bI (t' j))))] tS.heap ∧ va_K (dC, dI) vwCl [(cT, .byte)] tS ∧ va_D (va_A [(mm, .inr (4, [.int (iI fl), .ref ta, .int (iI tz), .ref ka, .int (iI nn), .ref da, .ref ya, .int (iI pt), .int (iI md), .int (iI sx)])), (ta, .inl (cT, 4096, .inl (fun j => bI (t j))))] sz) [(mm, .inr (4, [.int (iI fl'), .ref ta, .int (iI tz'), .ref ka, .int (iI nn), .ref da, .ref ya, .int (iI pt), .int (iI md), .int (iI sx)])), (ta, .inl (cT, 4096, .inl (fun j => bI (t' j))))]) (va_A [(mm, .inr (4, [.int (iI fl), .ref ta, .int (iI tz), .ref ka, .int (iI nn), .ref da, .ref ya, .int (iI pt), .int (iI md), .int (iI sx)])), (ta, .inl (cT, 4096, .inl (fun j => bI (t j))))] sz)) (va_A [(mm, .inr (4, [.int (iI fl), .ref ta, .int (iI tz), .ref ka, .int (iI nn), .ref da, .ref ya, .int (iI pt), .int (iI md), .int (iI sx)])), (ta, .inl (cT, 4096, .inl (fun j => bI (t j))))] sz) := by
  refine mv_ofW (cc := cX4_add) (maxL := 7) (ret := (some .int)) (by decide) rfl ?_
  intro p e s m args below meth c s₁ B hml hv
  obtain ⟨rfl, hsz, hP, hK, hD0⟩ := hv
  have hx := B.exec
  have hb := B.bytes
  have hr := B.returns
  have hT : ∀ w ∈ wT, w.before _ s = true := fun w h => atoms_spec (ws := wsX4_add) B.pre w (List.mem_cons_of_mem _ h)
  have hown : s.vm.findClass RX4 = some m.cls := findClass_of_methodNamed B.named
  have hlocks := B.notSynchronized
  subst hsz
  have hD := hD0.self (sz := s.heap.size)
  generalize hAe : va_A [(mm, .inr (4, [.int (iI fl), .ref ta, .int (iI tz), .ref ka, .int (iI nn), .ref da, .ref ya, .int (iI pt), .int (iI md), .int (iI sx)])), (ta, .inl (cT, 4096, .inl (fun j => bI (t j))))] s.heap.size = A at hD ⊢
  have hA : ∀ q : Nat, s.heap.size ≤ q → A q := fun q h => by rw [← hAe]; exact Or.inr h
  have hS : va_S A s.heap s.heap [] := va_S.rf
  have hP : va_P (dC, dI) vwCl [(mm, .inr (4, [.int (iI fl), .ref ta, .int (iI tz), .ref ka, .int (iI nn), .ref da, .ref ya, .int (iI pt), .int (iI md), .int (iI sx)])), (ta, .inl (cT, 4096, .inl (fun j => bI (t j))))] s.heap := hP
  have hl := lv_entry ([.ref mm, .int (iI x), .int (iI y), .long (lI q)]) (n := 7) (Nat.le_of_ble_eq_true rfl)
  rw [lg_entry_eq]
  generalize (lg_sl ([.ref mm, .int (iI x), .int (iI y), .long (lI q)]) ++ List.replicate (7 - (lg_sl ([.ref mm, .int (iI x), .int (iI y), .long (lI q)])).length) Slot.unset).toArray = ls at hl ⊢
  have hl : lv_has ls 7 [(0, .ref mm), (1, .int (iI x)), (2, .int (iI y)), (3, .long (lI q))] := hl
  obtain ⟨hw1, hw2, hw3, hw4, hw5, hw6⟩ := id hok
  refine mv_nameQ (fun Q9 hQ9 => ?_)
  have LP : ∀ (fu : Nat) (jj : Int) (g : Int) (y2 : Int) (l1 : List Int) (H : Heap) (locs : List Loc) (ls : Array Slot) (kc ks : Nat), (jj + 1 < (fu : Int)) → (-1 ≤ jj ∧ jj ≤ 7) → (g = fwb q 7 1 ∧ 1 ≤ g ∧ g ≤ 8) → (0 ≤ x ∧ x ≤ 3 ∧ 0 ≤ y ∧ tz + idLen y + lnLen g + g ≤ 4096) → (l1 ++ nb q (jj + 1).toNat = adL x y q) → (y2 = tz + (l1.length : Int) ∧ (l1.length : Int) + (jj + 1) = idLen y + lnLen g + g) → (kc = 0 ∧ ks = 0) → va_K (dC, dI) vwCl [(cT, .byte)] s → va_P (dC, dI) vwCl [(mm, .inr (4, [.int (iI 0), .ref ta, .int (iI y2), .ref ka, .int (iI nn), .ref da, .ref ya, .int (iI pt), .int (iI md), .int (iI sx)])), (ta, .inl (cT, 4096, .inl (fun j => bI ((wrB t ((tz : Int).toNat) l1) j))))] H → va_D A [(mm, .inr (4, [.int (iI 0), .ref ta, .int (iI y2), .ref ka, .int (iI nn), .ref da, .ref ya, .int (iI pt), .int (iI md), .int (iI sx)])), (ta, .inl (cT, 4096, .inl (fun j => bI ((wrB t ((tz : Int).toNat) l1) j))))] → va_S A s.heap H locs → lv_has ls 7 [(0, .ref mm), (1, .int (iI x)), (2, .int (iI y)), (3, .long (lI q)), (5, .int (iI g)), (6, .int (iI jj))] → W p l e ({ frames := 3, cells := 0, slots := 0, locals := 120 }) s m ([.ref mm, .int (iI x), .int (iI y), .long (lI q)] : List Value).toArray below meth c H locs kc ks Q9 (F0 m 81 ls []) := by
    intro fu
    induction fu with
    | zero =>
      intro jj g y2 l1 H locs ls kc ks hfu hj hg hr9 hl1 hy2 hkc hK hP hD hS hl
      exfalso
      omega
    | succ fu ih =>
      intro jj g y2 l1 H locs ls kc ks hfu hj hg hr9 hl1 hy2 hkc hK hP hD hS hl
      refine lv_iload hx hb dX4_add_81 (lv_at hl 5 rfl) ?_
      refine li_if_lt (tgt := 117) hx hb (by omega) dX4_add_83 (by decide) (fun c1 => ?_) (fun c1 => ?_)
      · skip
        refine lv_aload_n hx hb dX4_add_117 rfl (lv_at hl 0 rfl) ?_
        refine va_get (D := (dC, dI)) (ci := 4) (v := .int (iI y2)) (C := RX4) (T := TX4) (N := 10) hx hb hT inX4 hown hK hP 0 rfl rfl 2 (by decide) (hT _ wd519) (fun _ h9 => h9) rfl dX4_add_118 ?_
        have hwl : ((adL x y q).length : Int) = idLen y + lnLen (fwb q 7 1) + fwb q 7 1 := by unfold adL; rw [List.length_append, List.length_append, nb_len]; have h1 := idB_len (x := x) (cs := 0) (show 0 ≤ y by omega); have h2 := lnB_len (i := fwb q 7 1); omega
        have eg : lnLen g = lnLen (fwb q 7 1) := by rw [show g = fwb q 7 1 by omega]
        have hend : l1 = adL x y q := by rw [← hl1, show (jj + 1).toNat = 0 by omega]; simp [nb]
        have hfin : okB 4096 (wrB t ((tz : Int).toNat) l1) y2 (L ++ adL x y q) := by rw [← hend]; exact okB_wr hok (by rw [hend]; exact rgB_app (rgB_app (rgB_id (by omega) (by omega) (by omega)) (rgB_ln (by omega))) (rgB_nb _ _)) (by omega) (by omega) (by omega)
        subst hQ9
        have hP9 := hP.sub (ws' := [(mm, .inr (4, [.int (iI 0), .ref ta, .int (iI y2), .ref ka, .int (iI nn), .ref da, .ref ya, .int (iI pt), .int (iI md), .int (iI sx)])), (ta, .inl (cT, 4096, .inl (fun j => bI ((wrB t ((tz : Int).toNat) l1) j))))]) [0, 1] rfl
        have hD9 := hD.sub (ws' := [(mm, .inr (4, [.int (iI 0), .ref ta, .int (iI y2), .ref ka, .int (iI nn), .ref da, .ref ya, .int (iI pt), .int (iI md), .int (iI sx)])), (ta, .inl (cT, 4096, .inl (fun j => bI ((wrB t ((tz : Int).toNat) l1) j))))]) [0, 1] (by decide) rfl
        have hK9 := hK.sub (tys' := [(cT, .byte)]) [0] rfl
        exact mv_iret hx hb hr hlocks (fun tS ht hW => ⟨⟨_, (0, y2, (wrB t ((tz : Int).toNat) l1), y2), rfl, ⟨rfl, Or.inl ⟨rfl, ⟨by omega, by omega, by omega, by omega, rfl, hfin⟩⟩, by omega, by omega⟩, by rw [ht]; exact hP9, va_K.moved hW.alike hK9, hD9⟩, hS.F ht⟩) hS.2.2 dX4_add_121
      · skip
        refine lv_aload_n hx hb dX4_add_86 rfl (lv_at hl 0 rfl) ?_
        refine va_get (D := (dC, dI)) (ci := 4) (v := .ref ta) (C := RX4) (T := TX4) (N := 10) hx hb hT inX4 hown hK hP 0 rfl rfl 1 (by decide) (hT _ wd518) (fun _ h9 => h9) rfl dX4_add_87 ?_
        refine lv_aload_n hx hb dX4_add_90 rfl (lv_at hl 0 rfl) ?_
        refine lv_dup hx hb dX4_add_91 rfl ?_
        refine va_get (D := (dC, dI)) (ci := 4) (v := .int (iI y2)) (C := RX4) (T := TX4) (N := 10) hx hb hT inX4 hown hK hP 0 rfl rfl 2 (by decide) (hT _ wd519) (fun _ h9 => h9) rfl dX4_add_92 ?_
        refine lv_dup_x1 hx hb dX4_add_95 rfl rfl ?_
        refine lv_iconst (v := iI 1) hx hb dX4_add_96 rfl ?_
        refine li_iadd hx hb dX4_add_97 ?_
        refine li_nm (fun z2 ez2 => ?_)
        refine va_put (D := (dC, dI)) (ci := 4) (v := .int (iI z2)) (ty := .int) (C := RX4) (T := TX4) (N := 10) hx hb hT inX4 tyX4 tyX4_ok nX4 hown hK hP hD hS 0 rfl rfl 2 (by decide) (hT _ wd519) (fun _ h9 => h9) rfl (by decide +kernel) rfl rfl (Nat.le_of_ble_eq_true rfl) dX4_add_98 (fun H locs hP hD hS => ?_)
        have hP : va_P (dC, dI) vwCl [(mm, .inr (4, [.int (iI 0), .ref ta, .int (iI z2), .ref ka, .int (iI nn), .ref da, .ref ya, .int (iI pt), .int (iI md), .int (iI sx)])), (ta, .inl (cT, 4096, .inl (fun j => bI ((wrB t ((tz : Int).toNat) l1) j))))] H := hP
        have hD : va_D A [(mm, .inr (4, [.int (iI 0), .ref ta, .int (iI z2), .ref ka, .int (iI nn), .ref da, .ref ya, .int (iI pt), .int (iI md), .int (iI sx)])), (ta, .inl (cT, 4096, .inl (fun j => bI ((wrB t ((tz : Int).toNat) l1) j))))] := hD
        refine lv_lload_n hx hb dX4_add_101 rfl (lv_at hl 3 rfl) ?_
        refine lv_bipush (v := iI 8) hx hb dX4_add_102 (by decide +kernel) ?_
        refine lv_iload hx hb dX4_add_104 (lv_at hl 5 rfl) ?_
        refine li_imul hx hb dX4_add_106 ?_
        refine li_lshr hx hb (by omega) (by omega) dX4_add_107 ?_
        refine li_l2i hx hb dX4_add_108 ?_
        refine li_i2b hx hb dX4_add_109 ?_
        refine li_bastW (y := ((q / 2 ^ ((8 * jj) : Int).toNat) % 256)) hx hb hK hP hD hS 1 0 rfl rfl (z := y2) (by omega) (by omega) (by (try simp only [List.length_append, List.length_cons, List.length_nil]); omega) (rfl) dX4_add_110 (fun H locs hP hD hS => ?_)
        have hP : va_P (dC, dI) vwCl [(mm, .inr (4, [.int (iI 0), .ref ta, .int (iI z2), .ref ka, .int (iI nn), .ref da, .ref ya, .int (iI pt), .int (iI md), .int (iI sx)])), (ta, .inl (cT, 4096, .inl (fun j => bI ((wrB t ((tz : Int).toNat) (l1 ++ [((q / 2 ^ ((8 * jj) : Int).toNat) % 256)])) j))))] H := hP
        have hD : va_D A [(mm, .inr (4, [.int (iI 0), .ref ta, .int (iI z2), .ref ka, .int (iI nn), .ref da, .ref ya, .int (iI pt), .int (iI md), .int (iI sx)])), (ta, .inl (cT, 4096, .inl (fun j => bI ((wrB t ((tz : Int).toNat) (l1 ++ [((q / 2 ^ ((8 * jj) : Int).toNat) % 256)])) j))))] := hD
        obtain ⟨z3, ez3⟩ : ∃ y : Int, y = jj + (-1) := ⟨_, rfl⟩
        refine lv_iinc (v := iI z3) (lv' := [(6, .int (iI z3)), (0, .ref mm), (1, .int (iI x)), (2, .int (iI y)), (3, .long (lI q)), (5, .int (iI g))]) hx hb dX4_add_111 hl (k := 5) rfl (by rw [ez3]; exact iI_add _ _) (by decide) rfl (fun ls hl => ?_)
        refine lv_goto (tgt := 81) hx hb dX4_add_114 (by decide) ?_
        exact ih z3 g z2 (l1 ++ [((q / 2 ^ ((8 * jj) : Int).toNat) % 256)]) _ _ _ _ _ (by omega) (by omega) (by omega) (by omega) (by rw [List.append_assoc, ← hl1, nb_step q (i := jj) (by omega), p8 (by omega), show (z3 + 1).toNat = jj.toNat by omega]; rfl) (by simp only [List.length_append, List.length_cons, List.length_nil]; omega) (by omega) (hK.sub [0] rfl) (hP.sub [0, 1] rfl) (hD.sub [0, 1] (by decide) rfl) hS (lv_sub hl [1, 2, 3, 4, 5, 0] rfl)
  refine lv_aload_n hx hb dX4_add_0 rfl (lv_at hl 0 rfl) ?_
  refine lv_iconst (v := iI 0) hx hb dX4_add_1 rfl ?_
  refine va_put (D := (dC, dI)) (ci := 4) (v := .int (iI 0)) (ty := .int) (C := RX4) (T := TX4) (N := 10) hx hb hT inX4 tyX4 tyX4_ok nX4 hown hK hP hD hS 0 rfl rfl 0 (by decide) (hT _ wd517) (fun _ h9 => h9) rfl (by decide +kernel) rfl rfl (Nat.le_of_ble_eq_true rfl) dX4_add_2 (fun H locs hP hD hS => ?_)
  have hP : va_P (dC, dI) vwCl [(mm, .inr (4, [.int (iI 0), .ref ta, .int (iI tz), .ref ka, .int (iI nn), .ref da, .ref ya, .int (iI pt), .int (iI md), .int (iI sx)])), (ta, .inl (cT, 4096, .inl (fun j => bI (t j))))] H := hP
  have hD : va_D A [(mm, .inr (4, [.int (iI 0), .ref ta, .int (iI tz), .ref ka, .int (iI nn), .ref da, .ref ya, .int (iI pt), .int (iI md), .int (iI sx)])), (ta, .inl (cT, 4096, .inl (fun j => bI (t j))))] := hD
  refine lv_iload_n hx hb dX4_add_5 rfl (lv_at hl 1 rfl) ?_
  refine li_if_lt (tgt := 18) hx hb (by omega) dX4_add_6 (by decide) (fun c4 => ?_) (fun c4 => ?_)
  · skip
    refine lv_aload_n hx hb dX4_add_18 rfl (lv_at hl 0 rfl) ?_
    refine lv_iconst (v := iI 1) hx hb dX4_add_19 rfl ?_
    have hPc := hP.sub (ws' := [(mm, .inr (4, [.int (iI 0), .ref ta, .int (iI tz), .ref ka, .int (iI nn), .ref da, .ref ya, .int (iI pt), .int (iI md), .int (iI sx)]))]) [0] rfl
    have hDc := hD.sub (ws' := [(mm, .inr (4, [.int (iI 0), .ref ta, .int (iI tz), .ref ka, .int (iI nn), .ref da, .ref ya, .int (iI pt), .int (iI md), .int (iI sx)]))]) [0] (by decide) rfl
    have hKc := hK.sub (tys' := []) [] rfl
    have hFc := va_free (wc := [(mm, .inr (4, [.int (iI 0), .ref ta, .int (iI tz), .ref ka, .int (iI nn), .ref da, .ref ya, .int (iI pt), .int (iI md), .int (iI sx)]))]) hD hS hA [0] rfl
    refine mv_call (mv_runV (As := [.int (iI 1)]) (rest := []) ⟨hx, hb, hml, hown, hT⟩ (c_M_fail l dC dI H.size mm 0 ta tz ka nn da ya pt md sx 1 ) (cwV 1 hT (gV wd556 wd558 wd16 wd30 wd559) rfl rfl rfl (by decide +kernel) ⟨show 0 + 1 ≤ 3 from by omega, show 8 + (2 + 11) + 0 ≤ 120 from by omega⟩) ⟨fun a U g mk q => by obtain ⟨q0, q1, qP, qK, qD⟩ := q; exact ⟨q0, q1, qP, va_K.moved (u := U) (U := U.calling g mk a) (Vm.Alike.refl U.vm) qK, qD⟩, va_recv hKc hPc (ci := 4) (q0 := 0) rfl rfl, fun U hU hW => ⟨rfl, by rw [hU], by rw [hU]; exact hPc, va_K.moved hW.alike hKc, hDc.weaken (fun _ _ _ _ => trivial)⟩⟩ rfl rfl hl.1 rfl (lv_room (Nat.le_of_ble_eq_true rfl)) dX4_add_20 ⟨show 0 + 0 ≤ 0 from by omega, show 0 + 0 ≤ 0 from by omega⟩) hS (fun q _ h => hFc q h) hFc (fun v7 u k5 n6 tS H1 locs ht hvm hw hB hz1 hk1 hS => ?_)
    obtain ⟨hP1, hK1, hD1⟩ := hB
    rw [ht] at hP1
    have hK1 := va_K.moved hvm.symm hK1
    try dsimp only at hw
    obtain ⟨hP, hD⟩ := va_join (wr := [(ta, .inl (cT, 4096, .inl (fun j => bI (t j))))]) (w1 := [(mm, .inr (4, [.int (iI 1), .ref ta, .int (iI tz), .ref ka, .int (iI nn), .ref da, .ref ya, .int (iI pt), .int (iI md), .int (iI sx)]))]) hP hD [0] [1] rfl rfl (by decide) (by decide) hk1 hFc hP1 hD1
    have hK := (hK.sub (tys' := [(cT, .byte)]) [0] rfl).app hK1
    generalize H1 = H at hP hS ⊢
    have hP : va_P (dC, dI) vwCl [(ta, .inl (cT, 4096, .inl (fun j => bI (t j)))), (mm, .inr (4, [.int (iI 1), .ref ta, .int (iI tz), .ref ka, .int (iI nn), .ref da, .ref ya, .int (iI pt), .int (iI md), .int (iI sx)]))] H := hP
    have hD : va_D A [(ta, .inl (cT, 4096, .inl (fun j => bI (t j)))), (mm, .inr (4, [.int (iI 1), .ref ta, .int (iI tz), .ref ka, .int (iI nn), .ref da, .ref ya, .int (iI pt), .int (iI md), .int (iI sx)]))] := hD
    have hK : va_K (dC, dI) vwCl [(cT, .byte)] s := hK
    obtain ⟨rfl, rfl, rfl⟩ := hw
    refine W.eq (g2 := F0 m 23 ls [.int (iI 0)]) rfl ?_
    subst hQ9
    have hP9 := hP.sub (ws' := [(mm, .inr (4, [.int (iI 1), .ref ta, .int (iI tz), .ref ka, .int (iI nn), .ref da, .ref ya, .int (iI pt), .int (iI md), .int (iI sx)])), (ta, .inl (cT, 4096, .inl (fun j => bI (t j))))]) [1, 0] rfl
    have hD9 := hD.sub (ws' := [(mm, .inr (4, [.int (iI 1), .ref ta, .int (iI tz), .ref ka, .int (iI nn), .ref da, .ref ya, .int (iI pt), .int (iI md), .int (iI sx)])), (ta, .inl (cT, 4096, .inl (fun j => bI (t j))))]) [1, 0] (by decide) rfl
    have hK9 := hK.sub (tys' := [(cT, .byte)]) [0] rfl
    exact mv_iret hx hb hr hlocks (fun tS ht hW => ⟨⟨_, (1, tz, t, 0), rfl, ⟨rfl, Or.inr (Or.inl ⟨rfl, ⟨by omega, rfl, hok⟩⟩), by omega, by omega⟩, by rw [ht]; exact hP9, va_K.moved hW.alike hK9, hD9⟩, hS.F ht⟩) hS.2.2 dX4_add_23
  · skip
    refine lv_iload_n hx hb dX4_add_9 rfl (lv_at hl 1 rfl) ?_
    refine lv_iconst (v := iI 3) hx hb dX4_add_10 rfl ?_
    refine li_icmp_gt (tgt := 18) hx hb (by omega) (by omega) dX4_add_11 (by decide) (fun c8 => ?_) (fun c8 => ?_)
    · skip
      refine lv_aload_n hx hb dX4_add_18 rfl (lv_at hl 0 rfl) ?_
      refine lv_iconst (v := iI 1) hx hb dX4_add_19 rfl ?_
      have hPc := hP.sub (ws' := [(mm, .inr (4, [.int (iI 0), .ref ta, .int (iI tz), .ref ka, .int (iI nn), .ref da, .ref ya, .int (iI pt), .int (iI md), .int (iI sx)]))]) [0] rfl
      have hDc := hD.sub (ws' := [(mm, .inr (4, [.int (iI 0), .ref ta, .int (iI tz), .ref ka, .int (iI nn), .ref da, .ref ya, .int (iI pt), .int (iI md), .int (iI sx)]))]) [0] (by decide) rfl
      have hKc := hK.sub (tys' := []) [] rfl
      have hFc := va_free (wc := [(mm, .inr (4, [.int (iI 0), .ref ta, .int (iI tz), .ref ka, .int (iI nn), .ref da, .ref ya, .int (iI pt), .int (iI md), .int (iI sx)]))]) hD hS hA [0] rfl
      refine mv_call (mv_runV (As := [.int (iI 1)]) (rest := []) ⟨hx, hb, hml, hown, hT⟩ (c_M_fail l dC dI H.size mm 0 ta tz ka nn da ya pt md sx 1 ) (cwV 1 hT (gV wd556 wd558 wd16 wd30 wd559) rfl rfl rfl (by decide +kernel) ⟨show 0 + 1 ≤ 3 from by omega, show 8 + (2 + 11) + 0 ≤ 120 from by omega⟩) ⟨fun a U g mk q => by obtain ⟨q0, q1, qP, qK, qD⟩ := q; exact ⟨q0, q1, qP, va_K.moved (u := U) (U := U.calling g mk a) (Vm.Alike.refl U.vm) qK, qD⟩, va_recv hKc hPc (ci := 4) (q0 := 0) rfl rfl, fun U hU hW => ⟨rfl, by rw [hU], by rw [hU]; exact hPc, va_K.moved hW.alike hKc, hDc.weaken (fun _ _ _ _ => trivial)⟩⟩ rfl rfl hl.1 rfl (lv_room (Nat.le_of_ble_eq_true rfl)) dX4_add_20 ⟨show 0 + 0 ≤ 0 from by omega, show 0 + 0 ≤ 0 from by omega⟩) hS (fun q _ h => hFc q h) hFc (fun v11 u k9 n10 tS H1 locs ht hvm hw hB hz1 hk1 hS => ?_)
      obtain ⟨hP1, hK1, hD1⟩ := hB
      rw [ht] at hP1
      have hK1 := va_K.moved hvm.symm hK1
      try dsimp only at hw
      obtain ⟨hP, hD⟩ := va_join (wr := [(ta, .inl (cT, 4096, .inl (fun j => bI (t j))))]) (w1 := [(mm, .inr (4, [.int (iI 1), .ref ta, .int (iI tz), .ref ka, .int (iI nn), .ref da, .ref ya, .int (iI pt), .int (iI md), .int (iI sx)]))]) hP hD [0] [1] rfl rfl (by decide) (by decide) hk1 hFc hP1 hD1
      have hK := (hK.sub (tys' := [(cT, .byte)]) [0] rfl).app hK1
      generalize H1 = H at hP hS ⊢
      have hP : va_P (dC, dI) vwCl [(ta, .inl (cT, 4096, .inl (fun j => bI (t j)))), (mm, .inr (4, [.int (iI 1), .ref ta, .int (iI tz), .ref ka, .int (iI nn), .ref da, .ref ya, .int (iI pt), .int (iI md), .int (iI sx)]))] H := hP
      have hD : va_D A [(ta, .inl (cT, 4096, .inl (fun j => bI (t j)))), (mm, .inr (4, [.int (iI 1), .ref ta, .int (iI tz), .ref ka, .int (iI nn), .ref da, .ref ya, .int (iI pt), .int (iI md), .int (iI sx)]))] := hD
      have hK : va_K (dC, dI) vwCl [(cT, .byte)] s := hK
      obtain ⟨rfl, rfl, rfl⟩ := hw
      refine W.eq (g2 := F0 m 23 ls [.int (iI 0)]) rfl ?_
      subst hQ9
      have hP9 := hP.sub (ws' := [(mm, .inr (4, [.int (iI 1), .ref ta, .int (iI tz), .ref ka, .int (iI nn), .ref da, .ref ya, .int (iI pt), .int (iI md), .int (iI sx)])), (ta, .inl (cT, 4096, .inl (fun j => bI (t j))))]) [1, 0] rfl
      have hD9 := hD.sub (ws' := [(mm, .inr (4, [.int (iI 1), .ref ta, .int (iI tz), .ref ka, .int (iI nn), .ref da, .ref ya, .int (iI pt), .int (iI md), .int (iI sx)])), (ta, .inl (cT, 4096, .inl (fun j => bI (t j))))]) [1, 0] (by decide) rfl
      have hK9 := hK.sub (tys' := [(cT, .byte)]) [0] rfl
      exact mv_iret hx hb hr hlocks (fun tS ht hW => ⟨⟨_, (1, tz, t, 0), rfl, ⟨rfl, Or.inr (Or.inl ⟨rfl, ⟨by omega, rfl, hok⟩⟩), by omega, by omega⟩, by rw [ht]; exact hP9, va_K.moved hW.alike hK9, hD9⟩, hS.F ht⟩) hS.2.2 dX4_add_23
    · skip
      refine lv_iload_n hx hb dX4_add_14 rfl (lv_at hl 2 rfl) ?_
      refine li_if_ge (tgt := 24) hx hb (by omega) dX4_add_15 (by decide) (fun c12 => ?_) (fun c12 => ?_)
      · skip
        refine lv_aload_n hx hb dX4_add_24 rfl (lv_at hl 0 rfl) ?_
        refine lv_lload_n hx hb dX4_add_25 rfl (lv_at hl 3 rfl) ?_
        have hPc := hP.sub (ws' := [(mm, .inr (4, [.int (iI 0), .ref ta, .int (iI tz), .ref ka, .int (iI nn), .ref da, .ref ya, .int (iI pt), .int (iI md), .int (iI sx)]))]) [0] rfl
        have hDc := hD.sub (ws' := [(mm, .inr (4, [.int (iI 0), .ref ta, .int (iI tz), .ref ka, .int (iI nn), .ref da, .ref ya, .int (iI pt), .int (iI md), .int (iI sx)]))]) [0] (by decide) rfl
        have hKc := hK.sub (tys' := []) [] rfl
        have hFc := va_free (wc := [(mm, .inr (4, [.int (iI 0), .ref ta, .int (iI tz), .ref ka, .int (iI nn), .ref da, .ref ya, .int (iI pt), .int (iI md), .int (iI sx)]))]) hD hS hA [0] rfl
        refine mv_call (mv_runV (As := [.long (lI q)]) (rest := []) ⟨hx, hb, hml, hown, hT⟩ (c_M_bytes l dC dI H.size mm 0 ta tz ka nn da ya pt md sx q (by omega)) (cwV 1 hT (gV wd621 wd623 wd24 wd30 wd624) rfl rfl rfl (by decide +kernel) ⟨show 1 + 1 ≤ 3 from by omega, show 8 + (4 + 11) + 60 ≤ 120 from by omega⟩) ⟨fun a U g mk q => by obtain ⟨q0, q1, qP, qK, qD⟩ := q; exact ⟨q0, q1, qP, va_K.moved (u := U) (U := U.calling g mk a) (Vm.Alike.refl U.vm) qK, qD⟩, va_recv hKc hPc (ci := 4) (q0 := 0) rfl rfl, fun U hU hW => ⟨rfl, by rw [hU], by rw [hU]; exact hPc, va_K.moved hW.alike hKc, hDc.weaken (fun _ _ _ _ => trivial)⟩⟩ rfl rfl hl.1 rfl (lv_room (Nat.le_of_ble_eq_true rfl)) dX4_add_26 ⟨show 0 + 0 ≤ 0 from by omega, show 0 + 0 ≤ 0 from by omega⟩) hS (fun q _ h => hFc q h) hFc (fun v15 u k13 n14 tS H1 locs ht hvm hw hB hz1 hk1 hS => ?_)
        obtain ⟨q16, rfl⟩ : ∃ y, y = u := ⟨_, rfl⟩
        obtain ⟨hP1, hK1, hD1⟩ := hB
        rw [ht] at hP1
        have hK1 := va_K.moved hvm.symm hK1
        try dsimp only at hw
        obtain ⟨hP, hD⟩ := va_join (wr := [(ta, .inl (cT, 4096, .inl (fun j => bI (t j))))]) (w1 := [(mm, .inr (4, [.int (iI 0), .ref ta, .int (iI tz), .ref ka, .int (iI nn), .ref da, .ref ya, .int (iI pt), .int (iI md), .int (iI sx)]))]) hP hD [0] [1] rfl rfl (by decide) (by decide) hk1 hFc hP1 hD1
        have hK := (hK.sub (tys' := [(cT, .byte)]) [0] rfl).app hK1
        generalize H1 = H at hP hS ⊢
        have hP : va_P (dC, dI) vwCl [(ta, .inl (cT, 4096, .inl (fun j => bI (t j)))), (mm, .inr (4, [.int (iI 0), .ref ta, .int (iI tz), .ref ka, .int (iI nn), .ref da, .ref ya, .int (iI pt), .int (iI md), .int (iI sx)]))] H := hP
        have hD : va_D A [(ta, .inl (cT, 4096, .inl (fun j => bI (t j)))), (mm, .inr (4, [.int (iI 0), .ref ta, .int (iI tz), .ref ka, .int (iI nn), .ref da, .ref ya, .int (iI pt), .int (iI md), .int (iI sx)]))] := hD
        have hK : va_K (dC, dI) vwCl [(cT, .byte)] s := hK
        obtain ⟨rfl, hqv15, hav15, hbv15, rfl, rfl⟩ := hw
        refine W.eq (g2 := F0 m 29 ls [.int (iI q16)]) rfl ?_
        refine lv_istore (lv' := [(5, .int (iI q16)), (0, .ref mm), (1, .int (iI x)), (2, .int (iI y)), (3, .long (lI q))]) hx hb dX4_add_29 hl (by decide) rfl (fun ls hl => ?_)
        have hlb : 1 ≤ idLen y ∧ idLen y ≤ 6 ∧ 1 ≤ lnLen q16 ∧ lnLen q16 ≤ 3 := by unfold idLen lnLen; (repeat' split) <;> omega
        have hqw : q16 = fwb q 7 1 := hqv15
        refine lv_aload_n hx hb dX4_add_31 rfl (lv_at hl 1 rfl) ?_
        refine va_get (D := (dC, dI)) (ci := 4) (v := .int (iI tz)) (C := RX4) (T := TX4) (N := 10) hx hb hT inX4 hown hK hP 1 rfl rfl 2 (by decide) (hT _ wd519) (fun _ h9 => h9) rfl dX4_add_32 ?_
        refine lv_aload_n hx hb dX4_add_35 rfl (lv_at hl 1 rfl) ?_
        refine lv_iload_n hx hb dX4_add_36 rfl (lv_at hl 3 rfl) ?_
        refine lv_iload hx hb dX4_add_37 (lv_at hl 0 rfl) ?_
        have hPc := hP.sub (ws' := [(mm, .inr (4, [.int (iI 0), .ref ta, .int (iI tz), .ref ka, .int (iI nn), .ref da, .ref ya, .int (iI pt), .int (iI md), .int (iI sx)]))]) [1] rfl
        have hDc := hD.sub (ws' := [(mm, .inr (4, [.int (iI 0), .ref ta, .int (iI tz), .ref ka, .int (iI nn), .ref da, .ref ya, .int (iI pt), .int (iI md), .int (iI sx)]))]) [1] (by decide) rfl
        have hKc := hK.sub (tys' := []) [] rfl
        have hFc := va_free (wc := [(mm, .inr (4, [.int (iI 0), .ref ta, .int (iI tz), .ref ka, .int (iI nn), .ref da, .ref ya, .int (iI pt), .int (iI md), .int (iI sx)]))]) hD hS hA [1] rfl
        refine mv_call (mv_runV (As := [.int (iI y), .int (iI q16)]) (rest := [.int (iI tz)]) ⟨hx, hb, hml, hown, hT⟩ (c_M_hsz l dC dI H.size mm 0 ta tz ka nn da ya pt md sx y q16 (by omega) (by omega)) (cwV 2 hT (gV wd609 wd611 wd22 wd30 wd612) rfl rfl rfl (by decide +kernel) ⟨show 1 + 1 ≤ 3 from by omega, show 8 + (6 + 11) + 60 ≤ 120 from by omega⟩) ⟨fun a U g mk q => by obtain ⟨q0, q1, qP, qK, qD⟩ := q; exact ⟨q0, q1, qP, va_K.moved (u := U) (U := U.calling g mk a) (Vm.Alike.refl U.vm) qK, qD⟩, va_recv hKc hPc (ci := 4) (q0 := 0) rfl rfl, fun U hU hW => ⟨rfl, by rw [hU], by rw [hU]; exact hPc, va_K.moved hW.alike hKc, hDc.weaken (fun _ _ _ _ => trivial)⟩⟩ rfl rfl hl.1 rfl (lv_room (Nat.le_of_ble_eq_true rfl)) dX4_add_39 ⟨show 0 + 0 + 0 ≤ 0 from by omega, show 0 + 0 + 0 ≤ 0 from by omega⟩) hS (fun q _ h => hFc q h) hFc (fun v19 u k17 n18 tS H1 locs ht hvm hw hB hz1 hk1 hS => ?_)
        obtain ⟨q20, rfl⟩ : ∃ y, y = u := ⟨_, rfl⟩
        obtain ⟨hP1, hK1, hD1⟩ := hB
        rw [ht] at hP1
        have hK1 := va_K.moved hvm.symm hK1
        try dsimp only at hw
        obtain ⟨hP, hD⟩ := va_join (wr := [(ta, .inl (cT, 4096, .inl (fun j => bI (t j))))]) (w1 := [(mm, .inr (4, [.int (iI 0), .ref ta, .int (iI tz), .ref ka, .int (iI nn), .ref da, .ref ya, .int (iI pt), .int (iI md), .int (iI sx)]))]) hP hD [1] [0] rfl rfl (by decide) (by decide) hk1 hFc hP1 hD1
        have hK := (hK.sub (tys' := [(cT, .byte)]) [0] rfl).app hK1
        generalize H1 = H at hP hS ⊢
        have hP : va_P (dC, dI) vwCl [(ta, .inl (cT, 4096, .inl (fun j => bI (t j)))), (mm, .inr (4, [.int (iI 0), .ref ta, .int (iI tz), .ref ka, .int (iI nn), .ref da, .ref ya, .int (iI pt), .int (iI md), .int (iI sx)]))] H := hP
        have hD : va_D A [(ta, .inl (cT, 4096, .inl (fun j => bI (t j)))), (mm, .inr (4, [.int (iI 0), .ref ta, .int (iI tz), .ref ka, .int (iI nn), .ref da, .ref ya, .int (iI pt), .int (iI md), .int (iI sx)]))] := hD
        have hK : va_K (dC, dI) vwCl [(cT, .byte)] s := hK
        obtain ⟨rfl, hqv19, rfl, rfl⟩ := hw
        refine W.eq (g2 := F0 m 42 ls [.int (iI q20), .int (iI tz)]) rfl ?_
        refine li_iadd hx hb dX4_add_42 ?_
        refine lv_iload hx hb dX4_add_43 (lv_at hl 0 rfl) ?_
        refine li_iadd hx hb dX4_add_45 ?_
        refine lv_sipush (v := iI 4096) hx hb dX4_add_46 (by decide +kernel) ?_
        refine li_icmp_le (tgt := 58) hx hb (by omega) (by omega) dX4_add_49 (by decide) (fun c21 => ?_) (fun c21 => ?_)
        · skip
          refine lv_aload_n hx hb dX4_add_58 rfl (lv_at hl 1 rfl) ?_
          refine lv_aload_n hx hb dX4_add_59 rfl (lv_at hl 1 rfl) ?_
          refine lv_aload_n hx hb dX4_add_60 rfl (lv_at hl 1 rfl) ?_
          refine va_get (D := (dC, dI)) (ci := 4) (v := .int (iI tz)) (C := RX4) (T := TX4) (N := 10) hx hb hT inX4 hown hK hP 1 rfl rfl 2 (by decide) (hT _ wd519) (fun _ h9 => h9) rfl dX4_add_61 ?_
          refine lv_iload_n hx hb dX4_add_64 rfl (lv_at hl 2 rfl) ?_
          refine lv_iload_n hx hb dX4_add_65 rfl (lv_at hl 3 rfl) ?_
          refine lv_iconst (v := iI 0) hx hb dX4_add_66 rfl ?_
          refine lv_iload hx hb dX4_add_67 (lv_at hl 0 rfl) ?_
          have hPc := hP.sub (ws' := [(mm, .inr (4, [.int (iI 0), .ref ta, .int (iI tz), .ref ka, .int (iI nn), .ref da, .ref ya, .int (iI pt), .int (iI md), .int (iI sx)])), (ta, .inl (cT, 4096, .inl (fun j => bI (t j))))]) [1, 0] rfl
          have hDc := hD.sub (ws' := [(mm, .inr (4, [.int (iI 0), .ref ta, .int (iI tz), .ref ka, .int (iI nn), .ref da, .ref ya, .int (iI pt), .int (iI md), .int (iI sx)])), (ta, .inl (cT, 4096, .inl (fun j => bI (t j))))]) [1, 0] (by decide) rfl
          have hKc := hK.sub (tys' := [(cT, .byte)]) [0] rfl
          have hFc := va_free (wc := [(mm, .inr (4, [.int (iI 0), .ref ta, .int (iI tz), .ref ka, .int (iI nn), .ref da, .ref ya, .int (iI pt), .int (iI md), .int (iI sx)])), (ta, .inl (cT, 4096, .inl (fun j => bI (t j))))]) hD hS hA [1, 0] rfl
          refine mv_call (mv_runV (As := [.int (iI tz), .int (iI x), .int (iI y), .int (iI 0), .int (iI q16)]) (rest := [.ref mm]) ⟨hx, hb, hml, hown, hT⟩ (c_M_head l dC dI H.size mm 0 ta tz ka nn da ya pt md sx cT t tz x y 0 q16 (by omega) (by omega) (by omega) (by omega) (by omega)) (cwV 5 hT (gV wd613 wd615 wd23 wd30 wd616) rfl rfl rfl (by decide +kernel) ⟨show 1 + 1 ≤ 3 from by omega, show 8 + (11 + 11) + 60 ≤ 120 from by omega⟩) ⟨fun a U g mk q => by obtain ⟨q0, q1, qP, qK, qD⟩ := q; exact ⟨q0, q1, qP, va_K.moved (u := U) (U := U.calling g mk a) (Vm.Alike.refl U.vm) qK, qD⟩, va_recv hKc hPc (ci := 4) (q0 := 0) rfl rfl, fun U hU hW => ⟨rfl, by rw [hU], by rw [hU]; exact hPc, va_K.moved hW.alike hKc, hDc.weaken (fun _ _ _ _ => trivial)⟩⟩ rfl rfl hl.1 rfl (lv_room (Nat.le_of_ble_eq_true rfl)) dX4_add_69 ⟨show 0 + 0 + 0 + 0 ≤ 0 from by omega, show 0 + 0 + 0 + 0 ≤ 0 from by omega⟩) hS (fun q _ h => hFc q h) hFc (fun v24 u k22 n23 tS H1 locs ht hvm hw hB hz1 hk1 hS => ?_)
          obtain ⟨t25, q26⟩ := u
          obtain ⟨hP1, hK1, hD1⟩ := hB
          rw [ht] at hP1
          have hK1 := va_K.moved hvm.symm hK1
          try dsimp only at hw
          obtain ⟨hP, hD⟩ := va_join (wr := []) (w1 := [(mm, .inr (4, [.int (iI 0), .ref ta, .int (iI tz), .ref ka, .int (iI nn), .ref da, .ref ya, .int (iI pt), .int (iI md), .int (iI sx)])), (ta, .inl (cT, 4096, .inl (fun j => bI (t25 j))))]) hP hD [1, 0] [] rfl rfl (by decide) (by decide) hk1 hFc hP1 hD1
          have hK := (hK.sub (tys' := []) [] rfl).app hK1
          generalize H1 = H at hP hS ⊢
          have hP : va_P (dC, dI) vwCl [(mm, .inr (4, [.int (iI 0), .ref ta, .int (iI tz), .ref ka, .int (iI nn), .ref da, .ref ya, .int (iI pt), .int (iI md), .int (iI sx)])), (ta, .inl (cT, 4096, .inl (fun j => bI (t25 j))))] H := hP
          have hD : va_D A [(mm, .inr (4, [.int (iI 0), .ref ta, .int (iI tz), .ref ka, .int (iI nn), .ref da, .ref ya, .int (iI pt), .int (iI md), .int (iI sx)])), (ta, .inl (cT, 4096, .inl (fun j => bI (t25 j))))] := hD
          have hK : va_K (dC, dI) vwCl [(cT, .byte)] s := hK
          obtain ⟨rfl, htv24, hqv24, rfl, rfl⟩ := hw
          refine W.eq (g2 := F0 m 72 ls [.int (iI q26), .ref mm]) rfl ?_
          rw [htv24] at hP hD
          have hP : va_P (dC, dI) vwCl [(mm, .inr (4, [.int (iI 0), .ref ta, .int (iI tz), .ref ka, .int (iI nn), .ref da, .ref ya, .int (iI pt), .int (iI md), .int (iI sx)])), (ta, .inl (cT, 4096, .inl (fun j => bI ((wrB t ((tz : Int).toNat) (idB x y 0 ++ lnB q16)) j))))] H := hP
          have hD : va_D A [(mm, .inr (4, [.int (iI 0), .ref ta, .int (iI tz), .ref ka, .int (iI nn), .ref da, .ref ya, .int (iI pt), .int (iI md), .int (iI sx)])), (ta, .inl (cT, 4096, .inl (fun j => bI ((wrB t ((tz : Int).toNat) (idB x y 0 ++ lnB q16)) j))))] := hD
          refine va_put (D := (dC, dI)) (ci := 4) (v := .int (iI q26)) (ty := .int) (C := RX4) (T := TX4) (N := 10) hx hb hT inX4 tyX4 tyX4_ok nX4 hown hK hP hD hS 0 rfl rfl 2 (by decide) (hT _ wd519) (fun _ h9 => h9) rfl (by decide +kernel) rfl rfl (Nat.le_of_ble_eq_true rfl) dX4_add_72 (fun H locs hP hD hS => ?_)
          have hP : va_P (dC, dI) vwCl [(mm, .inr (4, [.int (iI 0), .ref ta, .int (iI q26), .ref ka, .int (iI nn), .ref da, .ref ya, .int (iI pt), .int (iI md), .int (iI sx)])), (ta, .inl (cT, 4096, .inl (fun j => bI ((wrB t ((tz : Int).toNat) (idB x y 0 ++ lnB q16)) j))))] H := hP
          have hD : va_D A [(mm, .inr (4, [.int (iI 0), .ref ta, .int (iI q26), .ref ka, .int (iI nn), .ref da, .ref ya, .int (iI pt), .int (iI md), .int (iI sx)])), (ta, .inl (cT, 4096, .inl (fun j => bI ((wrB t ((tz : Int).toNat) (idB x y 0 ++ lnB q16)) j))))] := hD
          refine lv_iload hx hb dX4_add_75 (lv_at hl 0 rfl) ?_
          refine lv_iconst (v := iI 1) hx hb dX4_add_77 rfl ?_
          refine li_isub hx hb dX4_add_78 ?_
          refine li_nm (fun z27 ez27 => ?_)
          refine lv_istore (lv' := [(6, .int (iI z27)), (5, .int (iI q16)), (0, .ref mm), (1, .int (iI x)), (2, .int (iI y)), (3, .long (lI q))]) hx hb dX4_add_79 hl (by decide) rfl (fun ls hl => ?_)
          exact LP (9) z27 q16 q26 (idB x y 0 ++ lnB q16) _ _ _ _ _ (by omega) (by omega) (by omega) (by omega) (by rw [show (z27 + 1).toNat = (fwb q 7 1).toNat by omega, show q16 = fwb q 7 1 by omega]; rfl) (by rw [List.length_append]; have h1 := idB_len (x := x) (cs := 0) (show 0 ≤ y by omega); have h2 := lnB_len (i := q16); omega) (by omega) (hK.sub [0] rfl) (hP.sub [0, 1] rfl) (hD.sub [0, 1] (by decide) rfl) hS (lv_sub hl [2, 3, 4, 5, 1, 0] rfl)
        · skip
          refine lv_aload_n hx hb dX4_add_52 rfl (lv_at hl 1 rfl) ?_
          refine lv_iconst (v := iI 2) hx hb dX4_add_53 rfl ?_
          have hPc := hP.sub (ws' := [(mm, .inr (4, [.int (iI 0), .ref ta, .int (iI tz), .ref ka, .int (iI nn), .ref da, .ref ya, .int (iI pt), .int (iI md), .int (iI sx)]))]) [1] rfl
          have hDc := hD.sub (ws' := [(mm, .inr (4, [.int (iI 0), .ref ta, .int (iI tz), .ref ka, .int (iI nn), .ref da, .ref ya, .int (iI pt), .int (iI md), .int (iI sx)]))]) [1] (by decide) rfl
          have hKc := hK.sub (tys' := []) [] rfl
          have hFc := va_free (wc := [(mm, .inr (4, [.int (iI 0), .ref ta, .int (iI tz), .ref ka, .int (iI nn), .ref da, .ref ya, .int (iI pt), .int (iI md), .int (iI sx)]))]) hD hS hA [1] rfl
          refine mv_call (mv_runV (As := [.int (iI 2)]) (rest := []) ⟨hx, hb, hml, hown, hT⟩ (c_M_fail l dC dI H.size mm 0 ta tz ka nn da ya pt md sx 2 ) (cwV 1 hT (gV wd556 wd558 wd16 wd30 wd559) rfl rfl rfl (by decide +kernel) ⟨show 0 + 1 ≤ 3 from by omega, show 8 + (2 + 11) + 0 ≤ 120 from by omega⟩) ⟨fun a U g mk q => by obtain ⟨q0, q1, qP, qK, qD⟩ := q; exact ⟨q0, q1, qP, va_K.moved (u := U) (U := U.calling g mk a) (Vm.Alike.refl U.vm) qK, qD⟩, va_recv hKc hPc (ci := 4) (q0 := 0) rfl rfl, fun U hU hW => ⟨rfl, by rw [hU], by rw [hU]; exact hPc, va_K.moved hW.alike hKc, hDc.weaken (fun _ _ _ _ => trivial)⟩⟩ rfl rfl hl.1 rfl (lv_room (Nat.le_of_ble_eq_true rfl)) dX4_add_54 ⟨show 0 + 0 + 0 + 0 ≤ 0 from by omega, show 0 + 0 + 0 + 0 ≤ 0 from by omega⟩) hS (fun q _ h => hFc q h) hFc (fun v30 u k28 n29 tS H1 locs ht hvm hw hB hz1 hk1 hS => ?_)
          obtain ⟨hP1, hK1, hD1⟩ := hB
          rw [ht] at hP1
          have hK1 := va_K.moved hvm.symm hK1
          try dsimp only at hw
          obtain ⟨hP, hD⟩ := va_join (wr := [(ta, .inl (cT, 4096, .inl (fun j => bI (t j))))]) (w1 := [(mm, .inr (4, [.int (iI 2), .ref ta, .int (iI tz), .ref ka, .int (iI nn), .ref da, .ref ya, .int (iI pt), .int (iI md), .int (iI sx)]))]) hP hD [1] [0] rfl rfl (by decide) (by decide) hk1 hFc hP1 hD1
          have hK := (hK.sub (tys' := [(cT, .byte)]) [0] rfl).app hK1
          generalize H1 = H at hP hS ⊢
          have hP : va_P (dC, dI) vwCl [(ta, .inl (cT, 4096, .inl (fun j => bI (t j)))), (mm, .inr (4, [.int (iI 2), .ref ta, .int (iI tz), .ref ka, .int (iI nn), .ref da, .ref ya, .int (iI pt), .int (iI md), .int (iI sx)]))] H := hP
          have hD : va_D A [(ta, .inl (cT, 4096, .inl (fun j => bI (t j)))), (mm, .inr (4, [.int (iI 2), .ref ta, .int (iI tz), .ref ka, .int (iI nn), .ref da, .ref ya, .int (iI pt), .int (iI md), .int (iI sx)]))] := hD
          have hK : va_K (dC, dI) vwCl [(cT, .byte)] s := hK
          obtain ⟨rfl, rfl, rfl⟩ := hw
          refine W.eq (g2 := F0 m 57 ls [.int (iI 0)]) rfl ?_
          have hwl : ((adL x y q).length : Int) = idLen y + lnLen (fwb q 7 1) + fwb q 7 1 := by unfold adL; rw [List.length_append, List.length_append, nb_len]; have h1 := idB_len (x := x) (cs := 0) (show 0 ≤ y by omega); have h2 := lnB_len (i := fwb q 7 1); omega
          have eg : lnLen q16 = lnLen (fwb q 7 1) := by rw [show q16 = fwb q 7 1 by omega]
          subst hQ9
          have hP9 := hP.sub (ws' := [(mm, .inr (4, [.int (iI 2), .ref ta, .int (iI tz), .ref ka, .int (iI nn), .ref da, .ref ya, .int (iI pt), .int (iI md), .int (iI sx)])), (ta, .inl (cT, 4096, .inl (fun j => bI (t j))))]) [1, 0] rfl
          have hD9 := hD.sub (ws' := [(mm, .inr (4, [.int (iI 2), .ref ta, .int (iI tz), .ref ka, .int (iI nn), .ref da, .ref ya, .int (iI pt), .int (iI md), .int (iI sx)])), (ta, .inl (cT, 4096, .inl (fun j => bI (t j))))]) [1, 0] (by decide) rfl
          have hK9 := hK.sub (tys' := [(cT, .byte)]) [0] rfl
          exact mv_iret hx hb hr hlocks (fun tS ht hW => ⟨⟨_, (2, tz, t, 0), rfl, ⟨rfl, Or.inr (Or.inr (⟨rfl, ⟨by omega, by omega, by omega, by omega, rfl, hok⟩⟩)), by omega, by omega⟩, by rw [ht]; exact hP9, va_K.moved hW.alike hK9, hD9⟩, hS.F ht⟩) hS.2.2 dX4_add_57
      · skip
        refine lv_aload_n hx hb dX4_add_18 rfl (lv_at hl 0 rfl) ?_
        refine lv_iconst (v := iI 1) hx hb dX4_add_19 rfl ?_
        have hPc := hP.sub (ws' := [(mm, .inr (4, [.int (iI 0), .ref ta, .int (iI tz), .ref ka, .int (iI nn), .ref da, .ref ya, .int (iI pt), .int (iI md), .int (iI sx)]))]) [0] rfl
        have hDc := hD.sub (ws' := [(mm, .inr (4, [.int (iI 0), .ref ta, .int (iI tz), .ref ka, .int (iI nn), .ref da, .ref ya, .int (iI pt), .int (iI md), .int (iI sx)]))]) [0] (by decide) rfl
        have hKc := hK.sub (tys' := []) [] rfl
        have hFc := va_free (wc := [(mm, .inr (4, [.int (iI 0), .ref ta, .int (iI tz), .ref ka, .int (iI nn), .ref da, .ref ya, .int (iI pt), .int (iI md), .int (iI sx)]))]) hD hS hA [0] rfl
        refine mv_call (mv_runV (As := [.int (iI 1)]) (rest := []) ⟨hx, hb, hml, hown, hT⟩ (c_M_fail l dC dI H.size mm 0 ta tz ka nn da ya pt md sx 1 ) (cwV 1 hT (gV wd556 wd558 wd16 wd30 wd559) rfl rfl rfl (by decide +kernel) ⟨show 0 + 1 ≤ 3 from by omega, show 8 + (2 + 11) + 0 ≤ 120 from by omega⟩) ⟨fun a U g mk q => by obtain ⟨q0, q1, qP, qK, qD⟩ := q; exact ⟨q0, q1, qP, va_K.moved (u := U) (U := U.calling g mk a) (Vm.Alike.refl U.vm) qK, qD⟩, va_recv hKc hPc (ci := 4) (q0 := 0) rfl rfl, fun U hU hW => ⟨rfl, by rw [hU], by rw [hU]; exact hPc, va_K.moved hW.alike hKc, hDc.weaken (fun _ _ _ _ => trivial)⟩⟩ rfl rfl hl.1 rfl (lv_room (Nat.le_of_ble_eq_true rfl)) dX4_add_20 ⟨show 0 + 0 ≤ 0 from by omega, show 0 + 0 ≤ 0 from by omega⟩) hS (fun q _ h => hFc q h) hFc (fun v33 u k31 n32 tS H1 locs ht hvm hw hB hz1 hk1 hS => ?_)
        obtain ⟨hP1, hK1, hD1⟩ := hB
        rw [ht] at hP1
        have hK1 := va_K.moved hvm.symm hK1
        try dsimp only at hw
        obtain ⟨hP, hD⟩ := va_join (wr := [(ta, .inl (cT, 4096, .inl (fun j => bI (t j))))]) (w1 := [(mm, .inr (4, [.int (iI 1), .ref ta, .int (iI tz), .ref ka, .int (iI nn), .ref da, .ref ya, .int (iI pt), .int (iI md), .int (iI sx)]))]) hP hD [0] [1] rfl rfl (by decide) (by decide) hk1 hFc hP1 hD1
        have hK := (hK.sub (tys' := [(cT, .byte)]) [0] rfl).app hK1
        generalize H1 = H at hP hS ⊢
        have hP : va_P (dC, dI) vwCl [(ta, .inl (cT, 4096, .inl (fun j => bI (t j)))), (mm, .inr (4, [.int (iI 1), .ref ta, .int (iI tz), .ref ka, .int (iI nn), .ref da, .ref ya, .int (iI pt), .int (iI md), .int (iI sx)]))] H := hP
        have hD : va_D A [(ta, .inl (cT, 4096, .inl (fun j => bI (t j)))), (mm, .inr (4, [.int (iI 1), .ref ta, .int (iI tz), .ref ka, .int (iI nn), .ref da, .ref ya, .int (iI pt), .int (iI md), .int (iI sx)]))] := hD
        have hK : va_K (dC, dI) vwCl [(cT, .byte)] s := hK
        obtain ⟨rfl, rfl, rfl⟩ := hw
        refine W.eq (g2 := F0 m 23 ls [.int (iI 0)]) rfl ?_
        subst hQ9
        have hP9 := hP.sub (ws' := [(mm, .inr (4, [.int (iI 1), .ref ta, .int (iI tz), .ref ka, .int (iI nn), .ref da, .ref ya, .int (iI pt), .int (iI md), .int (iI sx)])), (ta, .inl (cT, 4096, .inl (fun j => bI (t j))))]) [1, 0] rfl
        have hD9 := hD.sub (ws' := [(mm, .inr (4, [.int (iI 1), .ref ta, .int (iI tz), .ref ka, .int (iI nn), .ref da, .ref ya, .int (iI pt), .int (iI md), .int (iI sx)])), (ta, .inl (cT, 4096, .inl (fun j => bI (t j))))]) [1, 0] (by decide) rfl
        have hK9 := hK.sub (tys' := [(cT, .byte)]) [0] rfl
        exact mv_iret hx hb hr hlocks (fun tS ht hW => ⟨⟨_, (1, tz, t, 0), rfl, ⟨rfl, Or.inr (Or.inl ⟨rfl, ⟨by omega, rfl, hok⟩⟩), by omega, by omega⟩, by rw [ht]; exact hP9, va_K.moved hW.alike hK9, hD9⟩, hS.F ht⟩) hS.2.2 dX4_add_23
