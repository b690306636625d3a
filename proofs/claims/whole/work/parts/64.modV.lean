set_option maxHeartbeats 4000000 in
set_option maxRecDepth 100000 in
theorem MV_s (l : Launch) (dC : Nat → ClassId) (dI : Nat → Nat → Nat) (d : Nat) (hMV : MV l dC dI d) (hMO : MO l dC dI d) : MV l dC dI (d + 1) := by
  intro sz mm fl ta tz ka nn da ya pt md sx cT t L cY Y Vs Pg x pr dp hok hsx hx9 hpr hmd hEP hPg hdp
  refine mv_ofW (cc := cX4_value) (maxL := 11) (ret := (some .boolean)) (by decide) rfl ?_
  intro p e s m args below meth c s₁ B hml hv
  obtain ⟨rfl, hsz, hP, hK, hD0⟩ := hv
  have hx := B.exec
  have hb := B.bytes
  have hr := B.returns
  have hT : ∀ w ∈ wT, w.before _ s = true := fun w h => atoms_spec (ws := wsX4_value) B.pre w (List.mem_cons_of_mem _ h)
  have hown : s.vm.findClass RX4 = some m.cls := findClass_of_methodNamed B.named
  have hlocks := B.notSynchronized
  subst hsz
  have hD := hD0.self (sz := s.heap.size)
  generalize hAe : va_A [(mm, .inr (4, [.int (iI fl), .ref ta, .int (iI tz), .ref ka, .int (iI nn), .ref da, .ref ya, .int (iI pt), .int (iI md), .int (iI sx)])), (ta, .inl (cT, 4096, .inl (fun j => bI (t j)))), (ya, .inl (cY, 16400, .inl (fun j => iI (Y j))))] s.heap.size = A at hD ⊢
  have hA : ∀ q : Nat, s.heap.size ≤ q → A q := fun q h => by rw [← hAe]; exact Or.inr h
  have hS : va_S A s.heap s.heap [] := va_S.rf
  have hP : va_P (dC, dI) vwCl [(mm, .inr (4, [.int (iI fl), .ref ta, .int (iI tz), .ref ka, .int (iI nn), .ref da, .ref ya, .int (iI pt), .int (iI md), .int (iI sx)])), (ta, .inl (cT, 4096, .inl (fun j => bI (t j)))), (ya, .inl (cY, 16400, .inl (fun j => iI (Y j))))] s.heap := hP
  have hl := lv_entry ([.ref mm, .int (iI x), .int (iI pr), .int (iI dp)]) (n := 11) (Nat.le_of_ble_eq_true rfl)
  rw [lg_entry_eq]
  generalize (lg_sl ([.ref mm, .int (iI x), .int (iI pr), .int (iI dp)]) ++ List.replicate (11 - (lg_sl ([.ref mm, .int (iI x), .int (iI pr), .int (iI dp)])).length) Slot.unset).toArray = ls at hl ⊢
  have hl : lv_has ls 11 [(0, .ref mm), (1, .int (iI x)), (2, .int (iI pr)), (3, .int (iI dp))] := hl
  obtain ⟨hw1, hw2, hw3, hw4, hw5, hw6⟩ := id hok
  have hg8 := gd_rng hok
  have hgpt := hg8 pt
  refine mv_nameQ (fun Q9 hQ9 => ?_)
  have LV : ∀ (fu : Nat) (bb : Int) (xs : Int) (a : Int) (N2 : Int) (Y3 : Nat → Int) (V2 : Nat → Int) (jj : Int) (H : Heap) (locs : List Loc) (ls : Array Slot) (kc ks : Nat), (xs - a < (fu : Int)) → (pt + 2 + 2 * jj ≤ a ∧ a ≤ xs ∧ 0 ≤ jj ∧ xs ≤ x) → (md < N2 ∧ 2 * N2 ≤ a) → (layV (gd L) sx (d + 1) pt x pr md Vs = UU (loopU (layV (gd L) sx d) xs md (4096 - jj).toNat a N2 V2) xs) → (eqP Pg Y3 V2 N2) → (∀ j : Nat, (j : Int) < 8 * md → ¬ j % 8 = 7 → Y3 j = Y j) → (kc = 0 ∧ ks = 0) → va_K (dC, dI) vwCl [(cT, .byte), (cY, .int)] s → va_P (dC, dI) vwCl [(mm, .inr (4, [.int (iI fl), .ref ta, .int (iI tz), .ref ka, .int (iI nn), .ref da, .ref ya, .int (iI a), .int (iI N2), .int (iI sx)])), (ta, .inl (cT, 4096, .inl (fun j => bI (t j)))), (ya, .inl (cY, 16400, .inl (fun j => iI (Y3 j))))] H → va_D A [(mm, .inr (4, [.int (iI fl), .ref ta, .int (iI tz), .ref ka, .int (iI nn), .ref da, .ref ya, .int (iI a), .int (iI N2), .int (iI sx)])), (ta, .inl (cT, 4096, .inl (fun j => bI (t j)))), (ya, .inl (cY, 16400, .inl (fun j => iI (Y3 j))))] → va_S A s.heap H locs → lv_has ls 11 [(0, .ref mm), (1, .int (iI x)), (2, .int (iI pr)), (3, .int (iI dp)), (4, .int (iI md)), (5, .int (iI bb)), (10, .int (iI xs))] → W p l e ({ frames := (2 * (d + 1) + 5), cells := 0, slots := 0, locals := (60 * (d + 1) + 200) }) s m ([.ref mm, .int (iI x), .int (iI pr), .int (iI dp)] : List Value).toArray below meth c H locs kc ks Q9 (F0 m 406 ls []) := by
    intro fu
    induction fu with
    | zero =>
      intro bb xs a N2 Y3 V2 jj H locs ls kc ks hfu ha hN2 hC hE3 hk hkc hK hP hD hS hl
      exfalso
      omega
    | succ fu ih =>
      intro bb xs a N2 Y3 V2 jj H locs ls kc ks hfu ha hN2 hC hE3 hk hkc hK hP hD hS hl
      refine lv_aload_n hx hb dX4_value_406 rfl (lv_at hl 0 rfl) ?_
      refine va_get (D := (dC, dI)) (ci := 4) (v := .int (iI a)) (C := RX4) (T := TX4) (N := 10) hx hb hT inX4 hown hK hP 0 rfl rfl 7 (by decide) (hT _ wd524) (fun _ h9 => h9) rfl dX4_value_407 ?_
      refine lv_iload hx hb dX4_value_410 (lv_at hl 6 rfl) ?_
      refine li_icmp_ge (tgt := 431) hx hb (by omega) (by omega) dX4_value_412 (by decide) (fun c1 => ?_) (fun c1 => ?_)
      · skip
        refine lv_aload_n hx hb dX4_value_431 rfl (lv_at hl 0 rfl) ?_
        refine va_get (D := (dC, dI)) (ci := 4) (v := .int (iI a)) (C := RX4) (T := TX4) (N := 10) hx hb hT inX4 hown hK hP 0 rfl rfl 7 (by decide) (hT _ wd524) (fun _ h9 => h9) rfl dX4_value_432 ?_
        refine lv_iload hx hb dX4_value_435 (lv_at hl 6 rfl) ?_
        refine li_icmp_ne (tgt := 444) hx hb (by omega) (by omega) dX4_value_437 (by decide) (fun c2 => absurd c2 (by omega)) (fun c2 => ?_)
        refine lv_iconst (v := iI 1) hx hb dX4_value_440 rfl ?_
        refine lv_goto (tgt := 445) hx hb dX4_value_441 (by decide) ?_
        subst hQ9
        have hP9 := hP.sub (ws' := [(mm, .inr (4, [.int (iI fl), .ref ta, .int (iI tz), .ref ka, .int (iI nn), .ref da, .ref ya, .int (iI a), .int (iI N2), .int (iI sx)])), (ta, .inl (cT, 4096, .inl (fun j => bI (t j)))), (ya, .inl (cY, 16400, .inl (fun j => iI (Y3 j))))]) [0, 1, 2] rfl
        have hD9 := hD.sub (ws' := [(mm, .inr (4, [.int (iI fl), .ref ta, .int (iI tz), .ref ka, .int (iI nn), .ref da, .ref ya, .int (iI a), .int (iI N2), .int (iI sx)])), (ta, .inl (cT, 4096, .inl (fun j => bI (t j)))), (ya, .inl (cY, 16400, .inl (fun j => iI (Y3 j))))]) [0, 1, 2] (by decide) rfl
        have hK9 := hK.sub (tys' := [(cT, .byte), (cY, .int)]) [0, 1] rfl
        exact mv_zret hx hb hr (zb_n (by omega)) hlocks (fun tS ht hW => ⟨⟨_, (Y3, a, N2, 1), rfl, ⟨rfl, Or.inr ⟨rfl, V2, by rw [hC, loopU_y (by omega), show xs = a by omega]; rfl, hE3, by omega, hk⟩, by omega, by omega⟩, by rw [ht]; exact hP9, va_K.moved hW.alike hK9, hD9⟩, hS.F ht⟩) hS.2.2 dX4_value_445
      · skip
        refine lv_aload_n hx hb dX4_value_415 rfl (lv_at hl 0 rfl) ?_
        refine lv_iload hx hb dX4_value_416 (lv_at hl 6 rfl) ?_
        refine lv_iload hx hb dX4_value_418 (lv_at hl 4 rfl) ?_
        refine lv_iload_n hx hb dX4_value_420 rfl (lv_at hl 3 rfl) ?_
        refine lv_iconst (v := iI 1) hx hb dX4_value_421 rfl ?_
        refine li_iadd hx hb dX4_value_422 ?_
        have hPc := hP.sub (ws' := [(mm, .inr (4, [.int (iI fl), .ref ta, .int (iI tz), .ref ka, .int (iI nn), .ref da, .ref ya, .int (iI a), .int (iI N2), .int (iI sx)])), (ta, .inl (cT, 4096, .inl (fun j => bI (t j)))), (ya, .inl (cY, 16400, .inl (fun j => iI (Y3 j))))]) [0, 1, 2] rfl
        have hDc := hD.sub (ws' := [(mm, .inr (4, [.int (iI fl), .ref ta, .int (iI tz), .ref ka, .int (iI nn), .ref da, .ref ya, .int (iI a), .int (iI N2), .int (iI sx)])), (ta, .inl (cT, 4096, .inl (fun j => bI (t j)))), (ya, .inl (cY, 16400, .inl (fun j => iI (Y3 j))))]) [0, 1, 2] (by decide) rfl
        have hKc := hK.sub (tys' := [(cT, .byte), (cY, .int)]) [0, 1] rfl
        have hFc := va_free (wc := [(mm, .inr (4, [.int (iI fl), .ref ta, .int (iI tz), .ref ka, .int (iI nn), .ref da, .ref ya, .int (iI a), .int (iI N2), .int (iI sx)])), (ta, .inl (cT, 4096, .inl (fun j => bI (t j)))), (ya, .inl (cY, 16400, .inl (fun j => iI (Y3 j))))]) hD hS hA [0, 1, 2] rfl
        refine mv_call (mv_runV (As := [.int (iI xs), .int (iI md), .int (iI (dp + 1))]) (rest := []) ⟨hx, hb, hml, hown, hT⟩ (hMV H.size mm fl ta tz ka nn da ya a N2 sx cT t L cY Y3 V2 Pg xs md (dp + 1) (hok) (by omega) (by omega) (by omega) (by omega) (hE3) (hPg) (by omega)) (cwV 3 hT (gV wd568 wd570 wd17 wd30 wd571) rfl rfl rfl (by decide +kernel) ⟨show (2 * d + 5) + 1 ≤ (2 * (d + 1) + 5) from by omega, show 8 + (11 + 11) + (60 * d + 200) ≤ (60 * (d + 1) + 200) from by omega⟩) ⟨fun a U g mk q => by obtain ⟨q0, q1, qP, qK, qD⟩ := q; exact ⟨q0, q1, qP, va_K.moved (u := U) (U := U.calling g mk a) (Vm.Alike.refl U.vm) qK, qD⟩, va_recv hKc hPc (ci := 4) (q0 := 0) rfl rfl, fun U hU hW => ⟨rfl, by rw [hU], by rw [hU]; exact hPc, va_K.moved hW.alike hKc, hDc.weaken (fun _ _ _ _ => trivial)⟩⟩ rfl rfl hl.1 rfl (lv_room (Nat.le_of_ble_eq_true rfl)) dX4_value_423 ⟨show kc + 0 ≤ 0 from by omega, show ks + 0 ≤ 0 from by omega⟩) hS (fun q _ h => hFc q h) hFc (fun v5 u k3 n4 tS H1 locs ht hvm hw hB hz1 hk1 hS => ?_)
        obtain ⟨Y6, pt7, md8, q9⟩ := u
        obtain ⟨hP1, hK1, hD1⟩ := hB
        rw [ht] at hP1
        have hK1 := va_K.moved hvm.symm hK1
        try dsimp only at hw
        obtain ⟨hP, hD⟩ := va_join (wr := []) (w1 := [(mm, .inr (4, [.int (iI fl), .ref ta, .int (iI tz), .ref ka, .int (iI nn), .ref da, .ref ya, .int (iI pt7), .int (iI md8), .int (iI sx)])), (ta, .inl (cT, 4096, .inl (fun j => bI (t j)))), (ya, .inl (cY, 16400, .inl (fun j => iI (Y6 j))))]) hP hD [0, 1, 2] [] rfl rfl (by decide) (by decide) hk1 hFc hP1 hD1
        have hK := (hK.sub (tys' := []) [] rfl).app hK1
        generalize H1 = H at hP hS ⊢
        have hP : va_P (dC, dI) vwCl [(mm, .inr (4, [.int (iI fl), .ref ta, .int (iI tz), .ref ka, .int (iI nn), .ref da, .ref ya, .int (iI pt7), .int (iI md8), .int (iI sx)])), (ta, .inl (cT, 4096, .inl (fun j => bI (t j)))), (ya, .inl (cY, 16400, .inl (fun j => iI (Y6 j))))] H := hP
        have hD : va_D A [(mm, .inr (4, [.int (iI fl), .ref ta, .int (iI tz), .ref ka, .int (iI nn), .ref da, .ref ya, .int (iI pt7), .int (iI md8), .int (iI sx)])), (ta, .inl (cT, 4096, .inl (fun j => bI (t j)))), (ya, .inl (cY, 16400, .inl (fun j => iI (Y6 j))))] := hD
        have hK : va_K (dC, dI) vwCl [(cT, .byte), (cY, .int)] s := hK
        obtain ⟨rfl, hqv5, rfl, rfl⟩ := hw
        refine W.eq (g2 := F0 m 426 ls [.int (iI q9)]) rfl ?_
        refine li_if_ne (tgt := 406) hx hb (by omega) dX4_value_426 (by decide) (fun c10 => ?_) (fun c10 => ?_)
        · skip
          obtain ⟨-, V3, y1, y2, y3, y4⟩ := hqv5.resolve_left (fun h => absurd h.1 (by omega))
          exact ih bb xs pt7 md8 Y6 V3 (jj + 1) _ _ _ _ _ (by omega) (by omega) (by omega) (by rw [hC, loopU_go (by omega) (by omega) y1]) (y2) (fun j h1 h2 => (y4 j (by omega) h2).trans (hk j h1 h2)) (by omega) (hK.sub [0, 1] rfl) (hP.sub [0, 1, 2] rfl) (hD.sub [0, 1, 2] (by decide) rfl) hS (lv_sub hl [0, 1, 2, 3, 4, 5, 6] rfl)
        · skip
          refine lv_iconst (v := iI 0) hx hb dX4_value_429 rfl ?_
          have hno := hqv5.resolve_right (fun h => absurd h.1 (by omega))
          subst hQ9
          have hP9 := hP.sub (ws' := [(mm, .inr (4, [.int (iI fl), .ref ta, .int (iI tz), .ref ka, .int (iI nn), .ref da, .ref ya, .int (iI pt7), .int (iI md8), .int (iI sx)])), (ta, .inl (cT, 4096, .inl (fun j => bI (t j)))), (ya, .inl (cY, 16400, .inl (fun j => iI (Y6 j))))]) [0, 1, 2] rfl
          have hD9 := hD.sub (ws' := [(mm, .inr (4, [.int (iI fl), .ref ta, .int (iI tz), .ref ka, .int (iI nn), .ref da, .ref ya, .int (iI pt7), .int (iI md8), .int (iI sx)])), (ta, .inl (cT, 4096, .inl (fun j => bI (t j)))), (ya, .inl (cY, 16400, .inl (fun j => iI (Y6 j))))]) [0, 1, 2] (by decide) rfl
          have hK9 := hK.sub (tys' := [(cT, .byte), (cY, .int)]) [0, 1] rfl
          exact mv_zret hx hb hr (zb_n (by omega)) hlocks (fun tS ht hW => ⟨⟨_, (Y6, pt7, md8, 0), rfl, ⟨rfl, Or.inl ⟨rfl, by rw [hC, loopU_no (by omega) (by omega) hno.2]; rfl⟩, by omega, by omega⟩, by rw [ht]; exact hP9, va_K.moved hW.alike hK9, hD9⟩, hS.F ht⟩) hS.2.2 dX4_value_430
  have J269 : ∀ (fu : Nat) (bb : Int) (tg : Int) (p1 : Int) (m1 : Int) (Y2 : Nat → Int) (H : Heap) (locs : List Loc) (ls : Array Slot) (kc ks : Nat), (0 < (fu : Int)) → (bb = gd L pt ∧ pt < tz ∧ 0 ≤ bb ∧ bb < 256) → (pt < p1 ∧ p1 ≤ tz ∧ m1 = md + 1) → (idn (gd L) pt x = some (bb / 64, bb / 32 % 2, tg, p1) ∨ idn (gd L) pt x = none ∧ x < p1) → (∀ ct sz9 : Int, ∀ j : Nat, (j : Int) < 8 * (md + 1) → ¬ Pg j → ¬ (j : Int) = 8 * md + 4 → ¬ (j : Int) = 8 * md + 5 → Y2 j = entV Vs md (bb / 64) tg (bb / 32 % 2) pt ct sz9 pr j) → (∀ j : Nat, (j : Int) < 8 * md → ¬ j % 8 = 7 → Y2 j = Y j) → (kc = 0 ∧ ks = 0) → va_K (dC, dI) vwCl [(cT, .byte), (cY, .int)] s → va_P (dC, dI) vwCl [(mm, .inr (4, [.int (iI fl), .ref ta, .int (iI tz), .ref ka, .int (iI nn), .ref da, .ref ya, .int (iI p1), .int (iI m1), .int (iI sx)])), (ta, .inl (cT, 4096, .inl (fun j => bI (t j)))), (ya, .inl (cY, 16400, .inl (fun j => iI (Y2 j))))] H → va_D A [(mm, .inr (4, [.int (iI fl), .ref ta, .int (iI tz), .ref ka, .int (iI nn), .ref da, .ref ya, .int (iI p1), .int (iI m1), .int (iI sx)])), (ta, .inl (cT, 4096, .inl (fun j => bI (t j)))), (ya, .inl (cY, 16400, .inl (fun j => iI (Y2 j))))] → va_S A s.heap H locs → lv_has ls 11 [(0, .ref mm), (1, .int (iI x)), (2, .int (iI pr)), (3, .int (iI dp)), (4, .int (iI md)), (5, .int (iI bb))] → W p l e ({ frames := (2 * (d + 1) + 5), cells := 0, slots := 0, locals := (60 * (d + 1) + 200) }) s m ([.ref mm, .int (iI x), .int (iI pr), .int (iI dp)] : List Value).toArray below meth c H locs kc ks Q9 (F0 m 269 ls []) := by
    intro fu
    induction fu with
    | zero =>
      intro bb tg p1 m1 Y2 H locs ls kc ks hfu hbb hp1 hI hY2 hk hkc hK hP hD hS hl
      exfalso
      omega
    | succ fu ih =>
      intro bb tg p1 m1 Y2 H locs ls kc ks hfu hbb hp1 hI hY2 hk hkc hK hP hD hS hl
      have hg1 := hg8 p1
      refine lv_aload_n hx hb dX4_value_269 rfl (lv_at hl 0 rfl) ?_
      have hPc := hP.sub (ws' := [(mm, .inr (4, [.int (iI fl), .ref ta, .int (iI tz), .ref ka, .int (iI nn), .ref da, .ref ya, .int (iI p1), .int (iI m1), .int (iI sx)])), (ta, .inl (cT, 4096, .inl (fun j => bI (t j))))]) [0, 1] rfl
      have hDc := hD.sub (ws' := [(mm, .inr (4, [.int (iI fl), .ref ta, .int (iI tz), .ref ka, .int (iI nn), .ref da, .ref ya, .int (iI p1), .int (iI m1), .int (iI sx)])), (ta, .inl (cT, 4096, .inl (fun j => bI (t j))))]) [0, 1] (by decide) rfl
      have hKc := hK.sub (tys' := [(cT, .byte)]) [0] rfl
      have hFc := va_free (wc := [(mm, .inr (4, [.int (iI fl), .ref ta, .int (iI tz), .ref ka, .int (iI nn), .ref da, .ref ya, .int (iI p1), .int (iI m1), .int (iI sx)])), (ta, .inl (cT, 4096, .inl (fun j => bI (t j))))]) hD hS hA [0, 1] rfl
      refine mv_call (mv_runV (As := []) (rest := []) ⟨hx, hb, hml, hown, hT⟩ (c_M_length l dC dI H.size mm fl ta tz ka nn da ya p1 m1 sx cT t L (hok) (by omega) (by omega)) (cwV 0 hT (gV wd582 wd584 wd19 wd30 wd585) rfl rfl rfl (by decide +kernel) ⟨show 1 + 1 ≤ (2 * (d + 1) + 5) from by omega, show 8 + (6 + 11) + 60 ≤ (60 * (d + 1) + 200) from by omega⟩) ⟨fun a U g mk q => by obtain ⟨q0, q1, qP, qK, qD⟩ := q; exact ⟨q0, q1, qP, va_K.moved (u := U) (U := U.calling g mk a) (Vm.Alike.refl U.vm) qK, qD⟩, va_recv hKc hPc (ci := 4) (q0 := 0) rfl rfl, fun U hU hW => ⟨rfl, by rw [hU], by rw [hU]; exact hPc, va_K.moved hW.alike hKc, hDc.weaken (fun _ _ _ _ => trivial)⟩⟩ rfl rfl hl.1 rfl (lv_room (Nat.le_of_ble_eq_true rfl)) dX4_value_270 ⟨show kc + 0 ≤ 0 from by omega, show ks + 0 ≤ 0 from by omega⟩) hS (fun q _ h => hFc q h) hFc (fun v13 u k11 n12 tS H1 locs ht hvm hw hB hz1 hk1 hS => ?_)
      obtain ⟨pt14, q15⟩ := u
      obtain ⟨hP1, hK1, hD1⟩ := hB
      rw [ht] at hP1
      have hK1 := va_K.moved hvm.symm hK1
      try dsimp only at hw
      obtain ⟨hP, hD⟩ := va_join (wr := [(ya, .inl (cY, 16400, .inl (fun j => iI (Y2 j))))]) (w1 := [(mm, .inr (4, [.int (iI fl), .ref ta, .int (iI tz), .ref ka, .int (iI nn), .ref da, .ref ya, .int (iI pt14), .int (iI m1), .int (iI sx)])), (ta, .inl (cT, 4096, .inl (fun j => bI (t j))))]) hP hD [0, 1] [2] rfl rfl (by decide) (by decide) hk1 hFc hP1 hD1
      have hK := (hK.sub (tys' := [(cY, .int)]) [1] rfl).app hK1
      generalize H1 = H at hP hS ⊢
      have hP : va_P (dC, dI) vwCl [(ya, .inl (cY, 16400, .inl (fun j => iI (Y2 j)))), (mm, .inr (4, [.int (iI fl), .ref ta, .int (iI tz), .ref ka, .int (iI nn), .ref da, .ref ya, .int (iI pt14), .int (iI m1), .int (iI sx)])), (ta, .inl (cT, 4096, .inl (fun j => bI (t j))))] H := hP
      have hD : va_D A [(ya, .inl (cY, 16400, .inl (fun j => iI (Y2 j)))), (mm, .inr (4, [.int (iI fl), .ref ta, .int (iI tz), .ref ka, .int (iI nn), .ref da, .ref ya, .int (iI pt14), .int (iI m1), .int (iI sx)])), (ta, .inl (cT, 4096, .inl (fun j => bI (t j))))] := hD
      have hK : va_K (dC, dI) vwCl [(cY, .int), (cT, .byte)] s := hK
      obtain ⟨rfl, hLv13, rfl, rfl⟩ := hw
      refine W.eq (g2 := F0 m 273 ls [.long (lI q15)]) rfl ?_
      refine lv_lstore (lv' := [(8, .long (lI q15)), (0, .ref mm), (1, .int (iI x)), (2, .int (iI pr)), (3, .int (iI dp)), (4, .int (iI md)), (5, .int (iI bb))]) hx hb dX4_value_273 hl (by decide) rfl (fun ls hl => ?_)
      have hLb := lenP_b hLv13 (hg8 p1).2
      refine lv_lload hx hb dX4_value_275 (lv_at hl 0 rfl) ?_
      refine lv_ldc2 (v := lI (-2)) hx hb hown (by rw [show lI (-2) = (-2 : Int64) by decide +kernel]; exact hT _ wd586) dX4_value_277 ?_
      refine li_lcmp_eq (tgt := 316) hx hb (by omega) (by omega) dX4_value_280 dX4_value_281 (by decide) (fun c16 => ?_) (fun c16 => ?_)
      · skip
        refine lv_iconst (v := iI 0) hx hb dX4_value_316 rfl ?_
        subst hQ9
        have hP9 := hP.sub (ws' := [(mm, .inr (4, [.int (iI fl), .ref ta, .int (iI tz), .ref ka, .int (iI nn), .ref da, .ref ya, .int (iI pt14), .int (iI m1), .int (iI sx)])), (ta, .inl (cT, 4096, .inl (fun j => bI (t j)))), (ya, .inl (cY, 16400, .inl (fun j => iI (Y2 j))))]) [1, 2, 0] rfl
        have hD9 := hD.sub (ws' := [(mm, .inr (4, [.int (iI fl), .ref ta, .int (iI tz), .ref ka, .int (iI nn), .ref da, .ref ya, .int (iI pt14), .int (iI m1), .int (iI sx)])), (ta, .inl (cT, 4096, .inl (fun j => bI (t j)))), (ya, .inl (cY, 16400, .inl (fun j => iI (Y2 j))))]) [1, 2, 0] (by decide) rfl
        have hK9 := hK.sub (tys' := [(cT, .byte), (cY, .int)]) [1, 0] rfl
        exact mv_zret hx hb hr (zb_n (by omega)) hlocks (fun tS ht hW => ⟨⟨_, (Y2, pt14, m1, 0), rfl, ⟨rfl, Or.inl ⟨rfl, layV_x (len_no2 hLv13 hx9.2.2 hI (by omega))⟩, by omega, by omega⟩, by rw [ht]; exact hP9, va_K.moved hW.alike hK9, hD9⟩, hS.F ht⟩) hS.2.2 dX4_value_317
      · skip
        refine lv_lload hx hb dX4_value_284 (lv_at hl 0 rfl) ?_
        refine lv_ldc2 (v := lI (-1)) hx hb hown (by rw [show lI (-1) = (-1 : Int64) by decide +kernel]; exact hT _ wd587) dX4_value_286 ?_
        refine li_lcmp_ne (tgt := 308) hx hb (by omega) (by omega) dX4_value_289 dX4_value_290 (by decide) (fun c17 => ?_) (fun c17 => ?_)
        · skip
          refine lv_aload_n hx hb dX4_value_308 rfl (lv_at hl 1 rfl) ?_
          refine va_get (D := (dC, dI)) (ci := 4) (v := .int (iI pt14)) (C := RX4) (T := TX4) (N := 10) hx hb hT inX4 hown hK hP 1 rfl rfl 7 (by decide) (hT _ wd524) (fun _ h9 => h9) rfl dX4_value_309 ?_
          refine lv_iload_n hx hb dX4_value_312 rfl (lv_at hl 2 rfl) ?_
          refine li_icmp_le (tgt := 318) hx hb (by omega) (by omega) dX4_value_313 (by decide) (fun c18 => ?_) (fun c18 => ?_)
          · skip
            refine lv_aload_n hx hb dX4_value_318 rfl (lv_at hl 1 rfl) ?_
            refine va_get (D := (dC, dI)) (ci := 4) (v := .ref ya) (C := RX4) (T := TX4) (N := 10) hx hb hT inX4 hown hK hP 1 rfl rfl 6 (by decide) (hT _ wd523) (fun _ h9 => h9) rfl dX4_value_319 ?_
            refine lv_bipush (v := iI 8) hx hb dX4_value_322 (by decide +kernel) ?_
            refine lv_iload hx hb dX4_value_324 (lv_at hl 5 rfl) ?_
            refine li_imul hx hb dX4_value_326 ?_
            refine lv_iconst (v := iI 4) hx hb dX4_value_327 rfl ?_
            refine li_iadd hx hb dX4_value_328 ?_
            refine lv_aload_n hx hb dX4_value_329 rfl (lv_at hl 1 rfl) ?_
            refine va_get (D := (dC, dI)) (ci := 4) (v := .int (iI pt14)) (C := RX4) (T := TX4) (N := 10) hx hb hT inX4 hown hK hP 1 rfl rfl 7 (by decide) (hT _ wd524) (fun _ h9 => h9) rfl dX4_value_330 ?_
            refine li_iast hx hb hK hP hD hS 0 0 rfl rfl (z := ((8 * md) + 4)) (by omega) (by omega) dX4_value_333 (fun H locs hP hD hS => ?_)
            have hP : va_P (dC, dI) vwCl [(ya, .inl (cY, 16400, .inl (fun j => iI ((vf_upd Y2 (((8 * md) + 4) : Int).toNat pt14) j)))), (mm, .inr (4, [.int (iI fl), .ref ta, .int (iI tz), .ref ka, .int (iI nn), .ref da, .ref ya, .int (iI pt14), .int (iI m1), .int (iI sx)])), (ta, .inl (cT, 4096, .inl (fun j => bI (t j))))] H := hP
            have hD : va_D A [(ya, .inl (cY, 16400, .inl (fun j => iI ((vf_upd Y2 (((8 * md) + 4) : Int).toNat pt14) j)))), (mm, .inr (4, [.int (iI fl), .ref ta, .int (iI tz), .ref ka, .int (iI nn), .ref da, .ref ya, .int (iI pt14), .int (iI m1), .int (iI sx)])), (ta, .inl (cT, 4096, .inl (fun j => bI (t j))))] := hD
            refine lv_lload hx hb dX4_value_334 (lv_at hl 0 rfl) ?_
            refine lv_ldc2 (v := lI (-1)) hx hb hown (by rw [show lI (-1) = (-1 : Int64) by decide +kernel]; exact hT _ wd587) dX4_value_336 ?_
            refine li_lcmp_ne (tgt := 352) hx hb (by omega) (by omega) dX4_value_339 dX4_value_340 (by decide) (fun c19 => ?_) (fun c19 => ?_)
            · skip
              refine lv_lload hx hb dX4_value_352 (lv_at hl 0 rfl) ?_
              refine lv_iload_n hx hb dX4_value_354 rfl (lv_at hl 2 rfl) ?_
              refine lv_aload_n hx hb dX4_value_355 rfl (lv_at hl 1 rfl) ?_
              refine va_get (D := (dC, dI)) (ci := 4) (v := .int (iI pt14)) (C := RX4) (T := TX4) (N := 10) hx hb hT inX4 hown hK hP 1 rfl rfl 7 (by decide) (hT _ wd524) (fun _ h9 => h9) rfl dX4_value_356 ?_
              refine li_isub hx hb dX4_value_359 ?_
              refine li_i2l hx hb (by omega) dX4_value_360 ?_
              refine li_lcmp_le (tgt := 367) hx hb (by omega) (by omega) dX4_value_361 dX4_value_362 (by decide) (fun c20 => ?_) (fun c20 => ?_)
              · skip
                refine lv_aload_n hx hb dX4_value_367 rfl (lv_at hl 1 rfl) ?_
                refine va_get (D := (dC, dI)) (ci := 4) (v := .int (iI pt14)) (C := RX4) (T := TX4) (N := 10) hx hb hT inX4 hown hK hP 1 rfl rfl 7 (by decide) (hT _ wd524) (fun _ h9 => h9) rfl dX4_value_368 ?_
                refine lv_lload hx hb dX4_value_371 (lv_at hl 0 rfl) ?_
                refine li_l2i hx hb dX4_value_373 ?_
                refine li_iadd hx hb dX4_value_374 ?_
                refine li_nm (fun z21 ez21 => ?_)
                refine lv_istore (lv' := [(10, .int (iI z21)), (8, .long (lI q15)), (0, .ref mm), (1, .int (iI x)), (2, .int (iI pr)), (3, .int (iI dp)), (4, .int (iI md)), (5, .int (iI bb))]) hx hb dX4_value_375 hl (by decide) rfl (fun ls hl => ?_)
                refine lv_aload_n hx hb dX4_value_377 rfl (lv_at hl 2 rfl) ?_
                refine va_get (D := (dC, dI)) (ci := 4) (v := .ref ya) (C := RX4) (T := TX4) (N := 10) hx hb hT inX4 hown hK hP 1 rfl rfl 6 (by decide) (hT _ wd523) (fun _ h9 => h9) rfl dX4_value_378 ?_
                refine lv_bipush (v := iI 8) hx hb dX4_value_381 (by decide +kernel) ?_
                refine lv_iload hx hb dX4_value_383 (lv_at hl 6 rfl) ?_
                refine li_imul hx hb dX4_value_385 ?_
                refine lv_iconst (v := iI 5) hx hb dX4_value_386 rfl ?_
                refine li_iadd hx hb dX4_value_387 ?_
                refine lv_lload hx hb dX4_value_388 (lv_at hl 1 rfl) ?_
                refine li_l2i hx hb dX4_value_390 ?_
                refine li_iast hx hb hK hP hD hS 0 0 rfl rfl (z := ((8 * md) + 5)) (by omega) (by omega) dX4_value_391 (fun H locs hP hD hS => ?_)
                have hP : va_P (dC, dI) vwCl [(ya, .inl (cY, 16400, .inl (fun j => iI ((vf_upd (vf_upd Y2 (((8 * md) + 4) : Int).toNat pt14) (((8 * md) + 5) : Int).toNat q15) j)))), (mm, .inr (4, [.int (iI fl), .ref ta, .int (iI tz), .ref ka, .int (iI nn), .ref da, .ref ya, .int (iI pt14), .int (iI m1), .int (iI sx)])), (ta, .inl (cT, 4096, .inl (fun j => bI (t j))))] H := hP
                have hD : va_D A [(ya, .inl (cY, 16400, .inl (fun j => iI ((vf_upd (vf_upd Y2 (((8 * md) + 4) : Int).toNat pt14) (((8 * md) + 5) : Int).toNat q15) j)))), (mm, .inr (4, [.int (iI fl), .ref ta, .int (iI tz), .ref ka, .int (iI nn), .ref da, .ref ya, .int (iI pt14), .int (iI m1), .int (iI sx)])), (ta, .inl (cT, 4096, .inl (fun j => bI (t j))))] := hD
                refine lv_iload hx hb dX4_value_392 (lv_at hl 7 rfl) ?_
                refine lv_bipush (v := iI 32) hx hb dX4_value_394 (by decide +kernel) ?_
                refine li_iand32 hx hb (by omega) dX4_value_396 ?_
                refine li_if_ne (tgt := 406) hx hb (by omega) dX4_value_397 (by decide) (fun c22 => ?_) (fun c22 => ?_)
                · skip
                  have hh := len_ok hLv13 hI (by omega) (by omega) (by omega) (by omega) (by omega) (hg8 p1).2
                  have ecs : bb / 32 % 2 = 1 := by omega
                  have hC0 : layV (gd L) sx (d + 1) pt x pr md Vs = UU (loopU (layV (gd L) sx d) z21 md (4096 - 0 : Int).toNat pt14 (md + 1) (entV Vs md (bb / 64) tg (bb / 32 % 2) pt pt14 q15 pr)) z21 := by
                    rw [ecs] at hh ⊢
                    exact layV_U (by omega) hh (by omega)
                  have hE9 : eqP Pg (vf_upd (vf_upd Y2 (((8 * md) + 4) : Int).toNat pt14) (((8 * md) + 5) : Int).toNat q15) (entV Vs md (bb / 64) tg (bb / 32 % 2) pt pt14 q15 pr) (md + 1) := by
                    intro j hj hp
                    by_cases e5 : j = (8 * md + 5).toNat
                    · rw [upd_at e5, e5]; exact (ent_5 (by omega) (by omega)).symm
                    · rw [upd_ne e5]
                      by_cases e4 : j = (8 * md + 4).toNat
                      · rw [upd_at e4, e4]; exact (ent_4 (by omega) (by omega)).symm
                      · rw [upd_ne e4]; exact hY2 _ _ j hj hp (by omega) (by omega)
                  have hk9 : ∀ j : Nat, (j : Int) < 8 * md → ¬ j % 8 = 7 → (vf_upd (vf_upd Y2 (((8 * md) + 4) : Int).toNat pt14) (((8 * md) + 5) : Int).toNat q15) j = Y j := fun j h1 h2 => (upd_ne (by omega)).trans ((upd_ne (by omega)).trans (hk j h1 h2))
                  have em1 : m1 = md + 1 := hp1.2.2
                  rw [em1] at hP hD
                  have hP : va_P (dC, dI) vwCl [(ya, .inl (cY, 16400, .inl (fun j => iI ((vf_upd (vf_upd Y2 (((8 * md) + 4) : Int).toNat pt14) (((8 * md) + 5) : Int).toNat q15) j)))), (mm, .inr (4, [.int (iI fl), .ref ta, .int (iI tz), .ref ka, .int (iI nn), .ref da, .ref ya, .int (iI pt14), .int (iI (md + 1)), .int (iI sx)])), (ta, .inl (cT, 4096, .inl (fun j => bI (t j))))] H := hP
                  have hD : va_D A [(ya, .inl (cY, 16400, .inl (fun j => iI ((vf_upd (vf_upd Y2 (((8 * md) + 4) : Int).toNat pt14) (((8 * md) + 5) : Int).toNat q15) j)))), (mm, .inr (4, [.int (iI fl), .ref ta, .int (iI tz), .ref ka, .int (iI nn), .ref da, .ref ya, .int (iI pt14), .int (iI (md + 1)), .int (iI sx)])), (ta, .inl (cT, 4096, .inl (fun j => bI (t j))))] := hD
                  exact LV (5000) bb z21 pt14 (md + 1) (vf_upd (vf_upd Y2 (((8 * md) + 4) : Int).toNat pt14) (((8 * md) + 5) : Int).toNat q15) (entV Vs md (bb / 64) tg (bb / 32 % 2) pt pt14 q15 pr) 0 _ _ _ _ _ (by omega) (by omega) (by omega) (hC0) (hE9) (hk9) (by omega) (hK.sub [1, 0] rfl) (hP.sub [1, 2, 0] rfl) (hD.sub [1, 2, 0] (by decide) rfl) hS (lv_sub hl [2, 3, 4, 5, 6, 7, 0] rfl)
                · skip
                  refine lv_aload_n hx hb dX4_value_400 rfl (lv_at hl 2 rfl) ?_
                  refine lv_iload hx hb dX4_value_401 (lv_at hl 0 rfl) ?_
                  refine va_put (D := (dC, dI)) (ci := 4) (v := .int (iI z21)) (ty := .int) (C := RX4) (T := TX4) (N := 10) hx hb hT inX4 tyX4 tyX4_ok nX4 hown hK hP hD hS 1 rfl rfl 7 (by decide) (hT _ wd524) (fun _ h9 => h9) rfl (by decide +kernel) rfl rfl (Nat.le_of_ble_eq_true rfl) dX4_value_403 (fun H locs hP hD hS => ?_)
                  have hP : va_P (dC, dI) vwCl [(ya, .inl (cY, 16400, .inl (fun j => iI ((vf_upd (vf_upd Y2 (((8 * md) + 4) : Int).toNat pt14) (((8 * md) + 5) : Int).toNat q15) j)))), (mm, .inr (4, [.int (iI fl), .ref ta, .int (iI tz), .ref ka, .int (iI nn), .ref da, .ref ya, .int (iI z21), .int (iI m1), .int (iI sx)])), (ta, .inl (cT, 4096, .inl (fun j => bI (t j))))] H := hP
                  have hD : va_D A [(ya, .inl (cY, 16400, .inl (fun j => iI ((vf_upd (vf_upd Y2 (((8 * md) + 4) : Int).toNat pt14) (((8 * md) + 5) : Int).toNat q15) j)))), (mm, .inr (4, [.int (iI fl), .ref ta, .int (iI tz), .ref ka, .int (iI nn), .ref da, .ref ya, .int (iI z21), .int (iI m1), .int (iI sx)])), (ta, .inl (cT, 4096, .inl (fun j => bI (t j))))] := hD
                  have hh := len_ok hLv13 hI (by omega) (by omega) (by omega) (by omega) (by omega) (hg8 p1).2
                  have ecs : bb / 32 % 2 = 0 := by omega
                  have hC0 : layV (gd L) sx (d + 1) pt x pr md Vs = UU (loopU (layV (gd L) sx d) z21 md (4096 - 0 : Int).toNat z21 (md + 1) (entV Vs md (bb / 64) tg (bb / 32 % 2) pt pt14 q15 pr)) z21 := by
                    rw [ecs] at hh ⊢
                    exact layV_P (by omega) hh (by omega) (by omega)
                  have hE9 : eqP Pg (vf_upd (vf_upd Y2 (((8 * md) + 4) : Int).toNat pt14) (((8 * md) + 5) : Int).toNat q15) (entV Vs md (bb / 64) tg (bb / 32 % 2) pt pt14 q15 pr) (md + 1) := by
                    intro j hj hp
                    by_cases e5 : j = (8 * md + 5).toNat
                    · rw [upd_at e5, e5]; exact (ent_5 (by omega) (by omega)).symm
                    · rw [upd_ne e5]
                      by_cases e4 : j = (8 * md + 4).toNat
                      · rw [upd_at e4, e4]; exact (ent_4 (by omega) (by omega)).symm
                      · rw [upd_ne e4]; exact hY2 _ _ j hj hp (by omega) (by omega)
                  have hk9 : ∀ j : Nat, (j : Int) < 8 * md → ¬ j % 8 = 7 → (vf_upd (vf_upd Y2 (((8 * md) + 4) : Int).toNat pt14) (((8 * md) + 5) : Int).toNat q15) j = Y j := fun j h1 h2 => (upd_ne (by omega)).trans ((upd_ne (by omega)).trans (hk j h1 h2))
                  have em1 : m1 = md + 1 := hp1.2.2
                  rw [em1] at hP hD
                  have hP : va_P (dC, dI) vwCl [(ya, .inl (cY, 16400, .inl (fun j => iI ((vf_upd (vf_upd Y2 (((8 * md) + 4) : Int).toNat pt14) (((8 * md) + 5) : Int).toNat q15) j)))), (mm, .inr (4, [.int (iI fl), .ref ta, .int (iI tz), .ref ka, .int (iI nn), .ref da, .ref ya, .int (iI z21), .int (iI (md + 1)), .int (iI sx)])), (ta, .inl (cT, 4096, .inl (fun j => bI (t j))))] H := hP
                  have hD : va_D A [(ya, .inl (cY, 16400, .inl (fun j => iI ((vf_upd (vf_upd Y2 (((8 * md) + 4) : Int).toNat pt14) (((8 * md) + 5) : Int).toNat q15) j)))), (mm, .inr (4, [.int (iI fl), .ref ta, .int (iI tz), .ref ka, .int (iI nn), .ref da, .ref ya, .int (iI z21), .int (iI (md + 1)), .int (iI sx)])), (ta, .inl (cT, 4096, .inl (fun j => bI (t j))))] := hD
                  exact LV (5000) bb z21 z21 (md + 1) (vf_upd (vf_upd Y2 (((8 * md) + 4) : Int).toNat pt14) (((8 * md) + 5) : Int).toNat q15) (entV Vs md (bb / 64) tg (bb / 32 % 2) pt pt14 q15 pr) 0 _ _ _ _ _ (by omega) (by omega) (by omega) (hC0) (hE9) (hk9) (by omega) (hK.sub [1, 0] rfl) (hP.sub [1, 2, 0] rfl) (hD.sub [1, 2, 0] (by decide) rfl) hS (lv_sub hl [2, 3, 4, 5, 6, 7, 0] rfl)
              · skip
                refine lv_iconst (v := iI 0) hx hb dX4_value_365 rfl ?_
                subst hQ9
                have hP9 := hP.sub (ws' := [(mm, .inr (4, [.int (iI fl), .ref ta, .int (iI tz), .ref ka, .int (iI nn), .ref da, .ref ya, .int (iI pt14), .int (iI m1), .int (iI sx)])), (ta, .inl (cT, 4096, .inl (fun j => bI (t j)))), (ya, .inl (cY, 16400, .inl (fun j => iI ((vf_upd Y2 (((8 * md) + 4) : Int).toNat pt14) j))))]) [1, 2, 0] rfl
                have hD9 := hD.sub (ws' := [(mm, .inr (4, [.int (iI fl), .ref ta, .int (iI tz), .ref ka, .int (iI nn), .ref da, .ref ya, .int (iI pt14), .int (iI m1), .int (iI sx)])), (ta, .inl (cT, 4096, .inl (fun j => bI (t j)))), (ya, .inl (cY, 16400, .inl (fun j => iI ((vf_upd Y2 (((8 * md) + 4) : Int).toNat pt14) j))))]) [1, 2, 0] (by decide) rfl
                have hK9 := hK.sub (tys' := [(cT, .byte), (cY, .int)]) [1, 0] rfl
                exact mv_zret hx hb hr (zb_n (by omega)) hlocks (fun tS ht hW => ⟨⟨_, ((vf_upd Y2 (((8 * md) + 4) : Int).toNat pt14), pt14, m1, 0), rfl, ⟨rfl, Or.inl ⟨rfl, layV_x (len_big hLv13 hI (by omega) (by omega) (by omega) (by omega))⟩, by omega, by omega⟩, by rw [ht]; exact hP9, va_K.moved hW.alike hK9, hD9⟩, hS.F ht⟩) hS.2.2 dX4_value_366
            · skip
              refine lv_aload_n hx hb dX4_value_343 rfl (lv_at hl 1 rfl) ?_
              refine lv_iload hx hb dX4_value_344 (lv_at hl 5 rfl) ?_
              refine lv_iload_n hx hb dX4_value_346 rfl (lv_at hl 2 rfl) ?_
              refine lv_iload_n hx hb dX4_value_347 rfl (lv_at hl 4 rfl) ?_
              have ecs1 : bb / 32 % 2 = 1 := by omega
              have hh : hdr (gd L) sx pt x = some (bb / 64, bb / 32 % 2, tg, 1, 0, pt14) := by rw [ecs1]; exact len_op hLv13 hI (by omega) ecs1 (by omega) (by omega)
              have hE8 : eqP (fun j => Pg j ∨ (j : Int) = 8 * md + 5) (vf_upd Y2 (((8 * md) + 4) : Int).toNat pt14) (entV Vs md (bb / 64) tg (bb / 32 % 2) pt pt14 0 pr) (md + 1) := by
                intro j hj hp
                by_cases e4 : j = (8 * md + 4).toNat
                · rw [upd_at e4, e4]; exact (ent_4 (by omega) (by omega)).symm
                · rw [upd_ne e4]; exact hY2 _ _ j hj (fun h => hp (Or.inl h)) (by omega) (fun h => hp (Or.inr h))
              have em1 : m1 = md + 1 := hp1.2.2
              rw [em1] at hP hD
              have hP : va_P (dC, dI) vwCl [(ya, .inl (cY, 16400, .inl (fun j => iI ((vf_upd Y2 (((8 * md) + 4) : Int).toNat pt14) j)))), (mm, .inr (4, [.int (iI fl), .ref ta, .int (iI tz), .ref ka, .int (iI nn), .ref da, .ref ya, .int (iI pt14), .int (iI (md + 1)), .int (iI sx)])), (ta, .inl (cT, 4096, .inl (fun j => bI (t j))))] H := hP
              have hD : va_D A [(ya, .inl (cY, 16400, .inl (fun j => iI ((vf_upd Y2 (((8 * md) + 4) : Int).toNat pt14) j)))), (mm, .inr (4, [.int (iI fl), .ref ta, .int (iI tz), .ref ka, .int (iI nn), .ref da, .ref ya, .int (iI pt14), .int (iI (md + 1)), .int (iI sx)])), (ta, .inl (cT, 4096, .inl (fun j => bI (t j))))] := hD
              have hPc := hP.sub (ws' := [(mm, .inr (4, [.int (iI fl), .ref ta, .int (iI tz), .ref ka, .int (iI nn), .ref da, .ref ya, .int (iI pt14), .int (iI (md + 1)), .int (iI sx)])), (ta, .inl (cT, 4096, .inl (fun j => bI (t j)))), (ya, .inl (cY, 16400, .inl (fun j => iI ((vf_upd Y2 (((8 * md) + 4) : Int).toNat pt14) j))))]) [1, 2, 0] rfl
              have hDc := hD.sub (ws' := [(mm, .inr (4, [.int (iI fl), .ref ta, .int (iI tz), .ref ka, .int (iI nn), .ref da, .ref ya, .int (iI pt14), .int (iI (md + 1)), .int (iI sx)])), (ta, .inl (cT, 4096, .inl (fun j => bI (t j)))), (ya, .inl (cY, 16400, .inl (fun j => iI ((vf_upd Y2 (((8 * md) + 4) : Int).toNat pt14) j))))]) [1, 2, 0] (by decide) rfl
              have hKc := hK.sub (tys' := [(cT, .byte), (cY, .int)]) [1, 0] rfl
              have hFc := va_free (wc := [(mm, .inr (4, [.int (iI fl), .ref ta, .int (iI tz), .ref ka, .int (iI nn), .ref da, .ref ya, .int (iI pt14), .int (iI (md + 1)), .int (iI sx)])), (ta, .inl (cT, 4096, .inl (fun j => bI (t j)))), (ya, .inl (cY, 16400, .inl (fun j => iI ((vf_upd Y2 (((8 * md) + 4) : Int).toNat pt14) j))))]) hD hS hA [1, 2, 0] rfl
              refine mv_call (mv_runV (As := [.int (iI md), .int (iI x), .int (iI dp)]) (rest := []) ⟨hx, hb, hml, hown, hT⟩ (hMO H.size mm fl ta tz ka nn da ya pt14 (md + 1) sx cT t L cY (vf_upd Y2 (((8 * md) + 4) : Int).toNat pt14) (entV Vs md (bb / 64) tg (bb / 32 % 2) pt pt14 0 pr) Pg md x dp pt14 (hok) (hsx) (by omega) (by omega) (hE8) (hPg) (⟨upd_at (by omega), by omega, by omega⟩) (by omega)) (cwV 3 hT (gV wd589 wd591 wd20 wd30 wd592) rfl rfl rfl (by decide +kernel) ⟨show (2 * d + 6) + 1 ≤ (2 * (d + 1) + 5) from by omega, show 8 + (4 + 11) + (60 * d + 230) ≤ (60 * (d + 1) + 200) from by omega⟩) ⟨fun a U g mk q => by obtain ⟨q0, q1, qP, qK, qD⟩ := q; exact ⟨q0, q1, qP, va_K.moved (u := U) (U := U.calling g mk a) (Vm.Alike.refl U.vm) qK, qD⟩, va_recv hKc hPc (ci := 4) (q0 := 0) rfl rfl, fun U hU hW => ⟨rfl, by rw [hU], by rw [hU]; exact hPc, va_K.moved hW.alike hKc, hDc.weaken (fun _ _ _ _ => trivial)⟩⟩ rfl rfl hl.1 rfl (lv_room (Nat.le_of_ble_eq_true rfl)) dX4_value_348 ⟨show kc + 0 + 0 ≤ 0 from by omega, show ks + 0 + 0 ≤ 0 from by omega⟩) hS (fun q _ h => hFc q h) hFc (fun v25 u k23 n24 tS H1 locs ht hvm hw hB hz1 hk1 hS => ?_)
              obtain ⟨Y26, pt27, md28, q29⟩ := u
              obtain ⟨hP1, hK1, hD1⟩ := hB
              rw [ht] at hP1
              have hK1 := va_K.moved hvm.symm hK1
              try dsimp only at hw
              obtain ⟨hP, hD⟩ := va_join (wr := []) (w1 := [(mm, .inr (4, [.int (iI fl), .ref ta, .int (iI tz), .ref ka, .int (iI nn), .ref da, .ref ya, .int (iI pt27), .int (iI md28), .int (iI sx)])), (ta, .inl (cT, 4096, .inl (fun j => bI (t j)))), (ya, .inl (cY, 16400, .inl (fun j => iI (Y26 j))))]) hP hD [1, 2, 0] [] rfl rfl (by decide) (by decide) hk1 hFc hP1 hD1
              have hK := (hK.sub (tys' := []) [] rfl).app hK1
              generalize H1 = H at hP hS ⊢
              have hP : va_P (dC, dI) vwCl [(mm, .inr (4, [.int (iI fl), .ref ta, .int (iI tz), .ref ka, .int (iI nn), .ref da, .ref ya, .int (iI pt27), .int (iI md28), .int (iI sx)])), (ta, .inl (cT, 4096, .inl (fun j => bI (t j)))), (ya, .inl (cY, 16400, .inl (fun j => iI (Y26 j))))] H := hP
              have hD : va_D A [(mm, .inr (4, [.int (iI fl), .ref ta, .int (iI tz), .ref ka, .int (iI nn), .ref da, .ref ya, .int (iI pt27), .int (iI md28), .int (iI sx)])), (ta, .inl (cT, 4096, .inl (fun j => bI (t j)))), (ya, .inl (cY, 16400, .inl (fun j => iI (Y26 j))))] := hD
              have hK : va_K (dC, dI) vwCl [(cT, .byte), (cY, .int)] s := hK
              obtain ⟨rfl, hqv25, rfl, rfl⟩ := hw
              refine W.eq (g2 := F0 m 351 ls [.int (iI q29)]) rfl ?_
              rcases hqv25 with ⟨z0, z1⟩ | ⟨z0, W9, b9, z1, z2, z3, z4, z5⟩
              · skip
                subst hQ9
                have hP9 := hP.sub (ws' := [(mm, .inr (4, [.int (iI fl), .ref ta, .int (iI tz), .ref ka, .int (iI nn), .ref da, .ref ya, .int (iI pt27), .int (iI md28), .int (iI sx)])), (ta, .inl (cT, 4096, .inl (fun j => bI (t j)))), (ya, .inl (cY, 16400, .inl (fun j => iI (Y26 j))))]) [0, 1, 2] rfl
                have hD9 := hD.sub (ws' := [(mm, .inr (4, [.int (iI fl), .ref ta, .int (iI tz), .ref ka, .int (iI nn), .ref da, .ref ya, .int (iI pt27), .int (iI md28), .int (iI sx)])), (ta, .inl (cT, 4096, .inl (fun j => bI (t j)))), (ya, .inl (cY, 16400, .inl (fun j => iI (Y26 j))))]) [0, 1, 2] (by decide) rfl
                have hK9 := hK.sub (tys' := [(cT, .byte), (cY, .int)]) [0, 1] rfl
                exact mv_zret hx hb hr (zb_n (by omega)) hlocks (fun tS ht hW => ⟨⟨_, (Y26, pt27, md28, q29), rfl, ⟨rfl, Or.inl ⟨z0, layV_o0 (by omega) hh z1⟩, by omega, by omega⟩, by rw [ht]; exact hP9, va_K.moved hW.alike hK9, hD9⟩, hS.F ht⟩) hS.2.2 dX4_value_351
              · skip
                have hh2 := layV_o1 (d := d) (V := Vs) (pr := pr) (show md < 2048 by omega) hh z1
                rw [← z2] at hh2
                have hk5 : ∀ j : Nat, (j : Int) < 8 * md → ¬ j % 8 = 7 → Y26 j = Y j := fun j h1 h2 => (z5 j h1 h2).trans ((upd_ne (by omega)).trans (hk j h1 h2))
                subst hQ9
                have hP9 := hP.sub (ws' := [(mm, .inr (4, [.int (iI fl), .ref ta, .int (iI tz), .ref ka, .int (iI nn), .ref da, .ref ya, .int (iI pt27), .int (iI md28), .int (iI sx)])), (ta, .inl (cT, 4096, .inl (fun j => bI (t j)))), (ya, .inl (cY, 16400, .inl (fun j => iI (Y26 j))))]) [0, 1, 2] rfl
                have hD9 := hD.sub (ws' := [(mm, .inr (4, [.int (iI fl), .ref ta, .int (iI tz), .ref ka, .int (iI nn), .ref da, .ref ya, .int (iI pt27), .int (iI md28), .int (iI sx)])), (ta, .inl (cT, 4096, .inl (fun j => bI (t j)))), (ya, .inl (cY, 16400, .inl (fun j => iI (Y26 j))))]) [0, 1, 2] (by decide) rfl
                have hK9 := hK.sub (tys' := [(cT, .byte), (cY, .int)]) [0, 1] rfl
                exact mv_zret hx hb hr (zb_n (by omega)) hlocks (fun tS ht hW => ⟨⟨_, (Y26, pt27, md28, q29), rfl, ⟨rfl, Or.inr ⟨z0, _, hh2, z3, by omega, hk5⟩, by omega, by omega⟩, by rw [ht]; exact hP9, va_K.moved hW.alike hK9, hD9⟩, hS.F ht⟩) hS.2.2 dX4_value_351
          · skip
            refine lv_iconst (v := iI 0) hx hb dX4_value_316 rfl ?_
            subst hQ9
            have hP9 := hP.sub (ws' := [(mm, .inr (4, [.int (iI fl), .ref ta, .int (iI tz), .ref ka, .int (iI nn), .ref da, .ref ya, .int (iI pt14), .int (iI m1), .int (iI sx)])), (ta, .inl (cT, 4096, .inl (fun j => bI (t j)))), (ya, .inl (cY, 16400, .inl (fun j => iI (Y2 j))))]) [1, 2, 0] rfl
            have hD9 := hD.sub (ws' := [(mm, .inr (4, [.int (iI fl), .ref ta, .int (iI tz), .ref ka, .int (iI nn), .ref da, .ref ya, .int (iI pt14), .int (iI m1), .int (iI sx)])), (ta, .inl (cT, 4096, .inl (fun j => bI (t j)))), (ya, .inl (cY, 16400, .inl (fun j => iI (Y2 j))))]) [1, 2, 0] (by decide) rfl
            have hK9 := hK.sub (tys' := [(cT, .byte), (cY, .int)]) [1, 0] rfl
            exact mv_zret hx hb hr (zb_n (by omega)) hlocks (fun tS ht hW => ⟨⟨_, (Y2, pt14, m1, 0), rfl, ⟨rfl, Or.inl ⟨rfl, layV_x (len_no3 hLv13 hI (by omega) (by omega))⟩, by omega, by omega⟩, by rw [ht]; exact hP9, va_K.moved hW.alike hK9, hD9⟩, hS.F ht⟩) hS.2.2 dX4_value_317
        · skip
          refine lv_aload_n hx hb dX4_value_293 rfl (lv_at hl 1 rfl) ?_
          refine va_get (D := (dC, dI)) (ci := 4) (v := .int (iI sx)) (C := RX4) (T := TX4) (N := 10) hx hb hT inX4 hown hK hP 1 rfl rfl 9 (by decide) (hT _ wd526) (fun _ h9 => h9) rfl dX4_value_294 ?_
          refine li_if_ne (tgt := 316) hx hb (by omega) dX4_value_297 (by decide) (fun c30 => ?_) (fun c30 => ?_)
          · skip
            refine lv_iconst (v := iI 0) hx hb dX4_value_316 rfl ?_
            subst hQ9
            have hP9 := hP.sub (ws' := [(mm, .inr (4, [.int (iI fl), .ref ta, .int (iI tz), .ref ka, .int (iI nn), .ref da, .ref ya, .int (iI pt14), .int (iI m1), .int (iI sx)])), (ta, .inl (cT, 4096, .inl (fun j => bI (t j)))), (ya, .inl (cY, 16400, .inl (fun j => iI (Y2 j))))]) [1, 2, 0] rfl
            have hD9 := hD.sub (ws' := [(mm, .inr (4, [.int (iI fl), .ref ta, .int (iI tz), .ref ka, .int (iI nn), .ref da, .ref ya, .int (iI pt14), .int (iI m1), .int (iI sx)])), (ta, .inl (cT, 4096, .inl (fun j => bI (t j)))), (ya, .inl (cY, 16400, .inl (fun j => iI (Y2 j))))]) [1, 2, 0] (by decide) rfl
            have hK9 := hK.sub (tys' := [(cT, .byte), (cY, .int)]) [1, 0] rfl
            exact mv_zret hx hb hr (zb_n (by omega)) hlocks (fun tS ht hW => ⟨⟨_, (Y2, pt14, m1, 0), rfl, ⟨rfl, Or.inl ⟨rfl, layV_x (len_no1 hLv13 hI (by omega) (by omega))⟩, by omega, by omega⟩, by rw [ht]; exact hP9, va_K.moved hW.alike hK9, hD9⟩, hS.F ht⟩) hS.2.2 dX4_value_317
          · skip
            refine lv_iload hx hb dX4_value_300 (lv_at hl 6 rfl) ?_
            refine lv_bipush (v := iI 32) hx hb dX4_value_302 (by decide +kernel) ?_
            refine li_iand32 hx hb (by omega) dX4_value_304 ?_
            refine li_if_eq (tgt := 316) hx hb (by omega) dX4_value_305 (by decide) (fun c31 => ?_) (fun c31 => ?_)
            · skip
              refine lv_iconst (v := iI 0) hx hb dX4_value_316 rfl ?_
              subst hQ9
              have hP9 := hP.sub (ws' := [(mm, .inr (4, [.int (iI fl), .ref ta, .int (iI tz), .ref ka, .int (iI nn), .ref da, .ref ya, .int (iI pt14), .int (iI m1), .int (iI sx)])), (ta, .inl (cT, 4096, .inl (fun j => bI (t j)))), (ya, .inl (cY, 16400, .inl (fun j => iI (Y2 j))))]) [1, 2, 0] rfl
              have hD9 := hD.sub (ws' := [(mm, .inr (4, [.int (iI fl), .ref ta, .int (iI tz), .ref ka, .int (iI nn), .ref da, .ref ya, .int (iI pt14), .int (iI m1), .int (iI sx)])), (ta, .inl (cT, 4096, .inl (fun j => bI (t j)))), (ya, .inl (cY, 16400, .inl (fun j => iI (Y2 j))))]) [1, 2, 0] (by decide) rfl
              have hK9 := hK.sub (tys' := [(cT, .byte), (cY, .int)]) [1, 0] rfl
              exact mv_zret hx hb hr (zb_n (by omega)) hlocks (fun tS ht hW => ⟨⟨_, (Y2, pt14, m1, 0), rfl, ⟨rfl, Or.inl ⟨rfl, layV_x (len_no1 hLv13 hI (by omega) (by omega))⟩, by omega, by omega⟩, by rw [ht]; exact hP9, va_K.moved hW.alike hK9, hD9⟩, hS.F ht⟩) hS.2.2 dX4_value_317
            · skip
              refine lv_aload_n hx hb dX4_value_308 rfl (lv_at hl 1 rfl) ?_
              refine va_get (D := (dC, dI)) (ci := 4) (v := .int (iI pt14)) (C := RX4) (T := TX4) (N := 10) hx hb hT inX4 hown hK hP 1 rfl rfl 7 (by decide) (hT _ wd524) (fun _ h9 => h9) rfl dX4_value_309 ?_
              refine lv_iload_n hx hb dX4_value_312 rfl (lv_at hl 2 rfl) ?_
              refine li_icmp_le (tgt := 318) hx hb (by omega) (by omega) dX4_value_313 (by decide) (fun c32 => ?_) (fun c32 => ?_)
              · skip
                refine lv_aload_n hx hb dX4_value_318 rfl (lv_at hl 1 rfl) ?_
                refine va_get (D := (dC, dI)) (ci := 4) (v := .ref ya) (C := RX4) (T := TX4) (N := 10) hx hb hT inX4 hown hK hP 1 rfl rfl 6 (by decide) (hT _ wd523) (fun _ h9 => h9) rfl dX4_value_319 ?_
                refine lv_bipush (v := iI 8) hx hb dX4_value_322 (by decide +kernel) ?_
                refine lv_iload hx hb dX4_value_324 (lv_at hl 5 rfl) ?_
                refine li_imul hx hb dX4_value_326 ?_
                refine lv_iconst (v := iI 4) hx hb dX4_value_327 rfl ?_
                refine li_iadd hx hb dX4_value_328 ?_
                refine lv_aload_n hx hb dX4_value_329 rfl (lv_at hl 1 rfl) ?_
                refine va_get (D := (dC, dI)) (ci := 4) (v := .int (iI pt14)) (C := RX4) (T := TX4) (N := 10) hx hb hT inX4 hown hK hP 1 rfl rfl 7 (by decide) (hT _ wd524) (fun _ h9 => h9) rfl dX4_value_330 ?_
                refine li_iast hx hb hK hP hD hS 0 0 rfl rfl (z := ((8 * md) + 4)) (by omega) (by omega) dX4_value_333 (fun H locs hP hD hS => ?_)
                have hP : va_P (dC, dI) vwCl [(ya, .inl (cY, 16400, .inl (fun j => iI ((vf_upd Y2 (((8 * md) + 4) : Int).toNat pt14) j)))), (mm, .inr (4, [.int (iI fl), .ref ta, .int (iI tz), .ref ka, .int (iI nn), .ref da, .ref ya, .int (iI pt14), .int (iI m1), .int (iI sx)])), (ta, .inl (cT, 4096, .inl (fun j => bI (t j))))] H := hP
                have hD : va_D A [(ya, .inl (cY, 16400, .inl (fun j => iI ((vf_upd Y2 (((8 * md) + 4) : Int).toNat pt14) j)))), (mm, .inr (4, [.int (iI fl), .ref ta, .int (iI tz), .ref ka, .int (iI nn), .ref da, .ref ya, .int (iI pt14), .int (iI m1), .int (iI sx)])), (ta, .inl (cT, 4096, .inl (fun j => bI (t j))))] := hD
                refine lv_lload hx hb dX4_value_334 (lv_at hl 0 rfl) ?_
                refine lv_ldc2 (v := lI (-1)) hx hb hown (by rw [show lI (-1) = (-1 : Int64) by decide +kernel]; exact hT _ wd587) dX4_value_336 ?_
                refine li_lcmp_ne (tgt := 352) hx hb (by omega) (by omega) dX4_value_339 dX4_value_340 (by decide) (fun c33 => ?_) (fun c33 => ?_)
                · skip
                  refine lv_lload hx hb dX4_value_352 (lv_at hl 0 rfl) ?_
                  refine lv_iload_n hx hb dX4_value_354 rfl (lv_at hl 2 rfl) ?_
                  refine lv_aload_n hx hb dX4_value_355 rfl (lv_at hl 1 rfl) ?_
                  refine va_get (D := (dC, dI)) (ci := 4) (v := .int (iI pt14)) (C := RX4) (T := TX4) (N := 10) hx hb hT inX4 hown hK hP 1 rfl rfl 7 (by decide) (hT _ wd524) (fun _ h9 => h9) rfl dX4_value_356 ?_
                  refine li_isub hx hb dX4_value_359 ?_
                  refine li_i2l hx hb (by omega) dX4_value_360 ?_
                  refine li_lcmp_le (tgt := 367) hx hb (by omega) (by omega) dX4_value_361 dX4_value_362 (by decide) (fun c34 => ?_) (fun c34 => ?_)
                  · skip
                    refine lv_aload_n hx hb dX4_value_367 rfl (lv_at hl 1 rfl) ?_
                    refine va_get (D := (dC, dI)) (ci := 4) (v := .int (iI pt14)) (C := RX4) (T := TX4) (N := 10) hx hb hT inX4 hown hK hP 1 rfl rfl 7 (by decide) (hT _ wd524) (fun _ h9 => h9) rfl dX4_value_368 ?_
                    refine lv_lload hx hb dX4_value_371 (lv_at hl 0 rfl) ?_
                    refine li_l2i hx hb dX4_value_373 ?_
                    refine li_iadd hx hb dX4_value_374 ?_
                    refine li_nm (fun z35 ez35 => ?_)
                    refine lv_istore (lv' := [(10, .int (iI z35)), (8, .long (lI q15)), (0, .ref mm), (1, .int (iI x)), (2, .int (iI pr)), (3, .int (iI dp)), (4, .int (iI md)), (5, .int (iI bb))]) hx hb dX4_value_375 hl (by decide) rfl (fun ls hl => ?_)
                    refine lv_aload_n hx hb dX4_value_377 rfl (lv_at hl 2 rfl) ?_
                    refine va_get (D := (dC, dI)) (ci := 4) (v := .ref ya) (C := RX4) (T := TX4) (N := 10) hx hb hT inX4 hown hK hP 1 rfl rfl 6 (by decide) (hT _ wd523) (fun _ h9 => h9) rfl dX4_value_378 ?_
                    refine lv_bipush (v := iI 8) hx hb dX4_value_381 (by decide +kernel) ?_
                    refine lv_iload hx hb dX4_value_383 (lv_at hl 6 rfl) ?_
                    refine li_imul hx hb dX4_value_385 ?_
                    refine lv_iconst (v := iI 5) hx hb dX4_value_386 rfl ?_
                    refine li_iadd hx hb dX4_value_387 ?_
                    refine lv_lload hx hb dX4_value_388 (lv_at hl 1 rfl) ?_
                    refine li_l2i hx hb dX4_value_390 ?_
                    refine li_iast hx hb hK hP hD hS 0 0 rfl rfl (z := ((8 * md) + 5)) (by omega) (by omega) dX4_value_391 (fun H locs hP hD hS => ?_)
                    have hP : va_P (dC, dI) vwCl [(ya, .inl (cY, 16400, .inl (fun j => iI ((vf_upd (vf_upd Y2 (((8 * md) + 4) : Int).toNat pt14) (((8 * md) + 5) : Int).toNat q15) j)))), (mm, .inr (4, [.int (iI fl), .ref ta, .int (iI tz), .ref ka, .int (iI nn), .ref da, .ref ya, .int (iI pt14), .int (iI m1), .int (iI sx)])), (ta, .inl (cT, 4096, .inl (fun j => bI (t j))))] H := hP
                    have hD : va_D A [(ya, .inl (cY, 16400, .inl (fun j => iI ((vf_upd (vf_upd Y2 (((8 * md) + 4) : Int).toNat pt14) (((8 * md) + 5) : Int).toNat q15) j)))), (mm, .inr (4, [.int (iI fl), .ref ta, .int (iI tz), .ref ka, .int (iI nn), .ref da, .ref ya, .int (iI pt14), .int (iI m1), .int (iI sx)])), (ta, .inl (cT, 4096, .inl (fun j => bI (t j))))] := hD
                    refine lv_iload hx hb dX4_value_392 (lv_at hl 7 rfl) ?_
                    refine lv_bipush (v := iI 32) hx hb dX4_value_394 (by decide +kernel) ?_
                    refine li_iand32 hx hb (by omega) dX4_value_396 ?_
                    refine li_if_ne (tgt := 406) hx hb (by omega) dX4_value_397 (by decide) (fun c36 => ?_) (fun c36 => ?_)
                    · skip
                      have hh := len_ok hLv13 hI (by omega) (by omega) (by omega) (by omega) (by omega) (hg8 p1).2
                      have ecs : bb / 32 % 2 = 1 := by omega
                      have hC0 : layV (gd L) sx (d + 1) pt x pr md Vs = UU (loopU (layV (gd L) sx d) z35 md (4096 - 0 : Int).toNat pt14 (md + 1) (entV Vs md (bb / 64) tg (bb / 32 % 2) pt pt14 q15 pr)) z35 := by
                        rw [ecs] at hh ⊢
                        exact layV_U (by omega) hh (by omega)
                      have hE9 : eqP Pg (vf_upd (vf_upd Y2 (((8 * md) + 4) : Int).toNat pt14) (((8 * md) + 5) : Int).toNat q15) (entV Vs md (bb / 64) tg (bb / 32 % 2) pt pt14 q15 pr) (md + 1) := by
                        intro j hj hp
                        by_cases e5 : j = (8 * md + 5).toNat
                        · rw [upd_at e5, e5]; exact (ent_5 (by omega) (by omega)).symm
                        · rw [upd_ne e5]
                          by_cases e4 : j = (8 * md + 4).toNat
                          · rw [upd_at e4, e4]; exact (ent_4 (by omega) (by omega)).symm
                          · rw [upd_ne e4]; exact hY2 _ _ j hj hp (by omega) (by omega)
                      have hk9 : ∀ j : Nat, (j : Int) < 8 * md → ¬ j % 8 = 7 → (vf_upd (vf_upd Y2 (((8 * md) + 4) : Int).toNat pt14) (((8 * md) + 5) : Int).toNat q15) j = Y j := fun j h1 h2 => (upd_ne (by omega)).trans ((upd_ne (by omega)).trans (hk j h1 h2))
                      have em1 : m1 = md + 1 := hp1.2.2
                      rw [em1] at hP hD
                      have hP : va_P (dC, dI) vwCl [(ya, .inl (cY, 16400, .inl (fun j => iI ((vf_upd (vf_upd Y2 (((8 * md) + 4) : Int).toNat pt14) (((8 * md) + 5) : Int).toNat q15) j)))), (mm, .inr (4, [.int (iI fl), .ref ta, .int (iI tz), .ref ka, .int (iI nn), .ref da, .ref ya, .int (iI pt14), .int (iI (md + 1)), .int (iI sx)])), (ta, .inl (cT, 4096, .inl (fun j => bI (t j))))] H := hP
                      have hD : va_D A [(ya, .inl (cY, 16400, .inl (fun j => iI ((vf_upd (vf_upd Y2 (((8 * md) + 4) : Int).toNat pt14) (((8 * md) + 5) : Int).toNat q15) j)))), (mm, .inr (4, [.int (iI fl), .ref ta, .int (iI tz), .ref ka, .int (iI nn), .ref da, .ref ya, .int (iI pt14), .int (iI (md + 1)), .int (iI sx)])), (ta, .inl (cT, 4096, .inl (fun j => bI (t j))))] := hD
                      exact LV (5000) bb z35 pt14 (md + 1) (vf_upd (vf_upd Y2 (((8 * md) + 4) : Int).toNat pt14) (((8 * md) + 5) : Int).toNat q15) (entV Vs md (bb / 64) tg (bb / 32 % 2) pt pt14 q15 pr) 0 _ _ _ _ _ (by omega) (by omega) (by omega) (hC0) (hE9) (hk9) (by omega) (hK.sub [1, 0] rfl) (hP.sub [1, 2, 0] rfl) (hD.sub [1, 2, 0] (by decide) rfl) hS (lv_sub hl [2, 3, 4, 5, 6, 7, 0] rfl)
                    · skip
                      refine lv_aload_n hx hb dX4_value_400 rfl (lv_at hl 2 rfl) ?_
                      refine lv_iload hx hb dX4_value_401 (lv_at hl 0 rfl) ?_
                      refine va_put (D := (dC, dI)) (ci := 4) (v := .int (iI z35)) (ty := .int) (C := RX4) (T := TX4) (N := 10) hx hb hT inX4 tyX4 tyX4_ok nX4 hown hK hP hD hS 1 rfl rfl 7 (by decide) (hT _ wd524) (fun _ h9 => h9) rfl (by decide +kernel) rfl rfl (Nat.le_of_ble_eq_true rfl) dX4_value_403 (fun H locs hP hD hS => ?_)
                      have hP : va_P (dC, dI) vwCl [(ya, .inl (cY, 16400, .inl (fun j => iI ((vf_upd (vf_upd Y2 (((8 * md) + 4) : Int).toNat pt14) (((8 * md) + 5) : Int).toNat q15) j)))), (mm, .inr (4, [.int (iI fl), .ref ta, .int (iI tz), .ref ka, .int (iI nn), .ref da, .ref ya, .int (iI z35), .int (iI m1), .int (iI sx)])), (ta, .inl (cT, 4096, .inl (fun j => bI (t j))))] H := hP
                      have hD : va_D A [(ya, .inl (cY, 16400, .inl (fun j => iI ((vf_upd (vf_upd Y2 (((8 * md) + 4) : Int).toNat pt14) (((8 * md) + 5) : Int).toNat q15) j)))), (mm, .inr (4, [.int (iI fl), .ref ta, .int (iI tz), .ref ka, .int (iI nn), .ref da, .ref ya, .int (iI z35), .int (iI m1), .int (iI sx)])), (ta, .inl (cT, 4096, .inl (fun j => bI (t j))))] := hD
                      have hh := len_ok hLv13 hI (by omega) (by omega) (by omega) (by omega) (by omega) (hg8 p1).2
                      have ecs : bb / 32 % 2 = 0 := by omega
                      have hC0 : layV (gd L) sx (d + 1) pt x pr md Vs = UU (loopU (layV (gd L) sx d) z35 md (4096 - 0 : Int).toNat z35 (md + 1) (entV Vs md (bb / 64) tg (bb / 32 % 2) pt pt14 q15 pr)) z35 := by
                        rw [ecs] at hh ⊢
                        exact layV_P (by omega) hh (by omega) (by omega)
                      have hE9 : eqP Pg (vf_upd (vf_upd Y2 (((8 * md) + 4) : Int).toNat pt14) (((8 * md) + 5) : Int).toNat q15) (entV Vs md (bb / 64) tg (bb / 32 % 2) pt pt14 q15 pr) (md + 1) := by
                        intro j hj hp
                        by_cases e5 : j = (8 * md + 5).toNat
                        · rw [upd_at e5, e5]; exact (ent_5 (by omega) (by omega)).symm
                        · rw [upd_ne e5]
                          by_cases e4 : j = (8 * md + 4).toNat
                          · rw [upd_at e4, e4]; exact (ent_4 (by omega) (by omega)).symm
                          · rw [upd_ne e4]; exact hY2 _ _ j hj hp (by omega) (by omega)
                      have hk9 : ∀ j : Nat, (j : Int) < 8 * md → ¬ j % 8 = 7 → (vf_upd (vf_upd Y2 (((8 * md) + 4) : Int).toNat pt14) (((8 * md) + 5) : Int).toNat q15) j = Y j := fun j h1 h2 => (upd_ne (by omega)).trans ((upd_ne (by omega)).trans (hk j h1 h2))
                      have em1 : m1 = md + 1 := hp1.2.2
                      rw [em1] at hP hD
                      have hP : va_P (dC, dI) vwCl [(ya, .inl (cY, 16400, .inl (fun j => iI ((vf_upd (vf_upd Y2 (((8 * md) + 4) : Int).toNat pt14) (((8 * md) + 5) : Int).toNat q15) j)))), (mm, .inr (4, [.int (iI fl), .ref ta, .int (iI tz), .ref ka, .int (iI nn), .ref da, .ref ya, .int (iI z35), .int (iI (md + 1)), .int (iI sx)])), (ta, .inl (cT, 4096, .inl (fun j => bI (t j))))] H := hP
                      have hD : va_D A [(ya, .inl (cY, 16400, .inl (fun j => iI ((vf_upd (vf_upd Y2 (((8 * md) + 4) : Int).toNat pt14) (((8 * md) + 5) : Int).toNat q15) j)))), (mm, .inr (4, [.int (iI fl), .ref ta, .int (iI tz), .ref ka, .int (iI nn), .ref da, .ref ya, .int (iI z35), .int (iI (md + 1)), .int (iI sx)])), (ta, .inl (cT, 4096, .inl (fun j => bI (t j))))] := hD
                      exact LV (5000) bb z35 z35 (md + 1) (vf_upd (vf_upd Y2 (((8 * md) + 4) : Int).toNat pt14) (((8 * md) + 5) : Int).toNat q15) (entV Vs md (bb / 64) tg (bb / 32 % 2) pt pt14 q15 pr) 0 _ _ _ _ _ (by omega) (by omega) (by omega) (hC0) (hE9) (hk9) (by omega) (hK.sub [1, 0] rfl) (hP.sub [1, 2, 0] rfl) (hD.sub [1, 2, 0] (by decide) rfl) hS (lv_sub hl [2, 3, 4, 5, 6, 7, 0] rfl)
                  · skip
                    refine lv_iconst (v := iI 0) hx hb dX4_value_365 rfl ?_
                    subst hQ9
                    have hP9 := hP.sub (ws' := [(mm, .inr (4, [.int (iI fl), .ref ta, .int (iI tz), .ref ka, .int (iI nn), .ref da, .ref ya, .int (iI pt14), .int (iI m1), .int (iI sx)])), (ta, .inl (cT, 4096, .inl (fun j => bI (t j)))), (ya, .inl (cY, 16400, .inl (fun j => iI ((vf_upd Y2 (((8 * md) + 4) : Int).toNat pt14) j))))]) [1, 2, 0] rfl
                    have hD9 := hD.sub (ws' := [(mm, .inr (4, [.int (iI fl), .ref ta, .int (iI tz), .ref ka, .int (iI nn), .ref da, .ref ya, .int (iI pt14), .int (iI m1), .int (iI sx)])), (ta, .inl (cT, 4096, .inl (fun j => bI (t j)))), (ya, .inl (cY, 16400, .inl (fun j => iI ((vf_upd Y2 (((8 * md) + 4) : Int).toNat pt14) j))))]) [1, 2, 0] (by decide) rfl
                    have hK9 := hK.sub (tys' := [(cT, .byte), (cY, .int)]) [1, 0] rfl
                    exact mv_zret hx hb hr (zb_n (by omega)) hlocks (fun tS ht hW => ⟨⟨_, ((vf_upd Y2 (((8 * md) + 4) : Int).toNat pt14), pt14, m1, 0), rfl, ⟨rfl, Or.inl ⟨rfl, layV_x (len_big hLv13 hI (by omega) (by omega) (by omega) (by omega))⟩, by omega, by omega⟩, by rw [ht]; exact hP9, va_K.moved hW.alike hK9, hD9⟩, hS.F ht⟩) hS.2.2 dX4_value_366
                · skip
                  refine lv_aload_n hx hb dX4_value_343 rfl (lv_at hl 1 rfl) ?_
                  refine lv_iload hx hb dX4_value_344 (lv_at hl 5 rfl) ?_
                  refine lv_iload_n hx hb dX4_value_346 rfl (lv_at hl 2 rfl) ?_
                  refine lv_iload_n hx hb dX4_value_347 rfl (lv_at hl 4 rfl) ?_
                  have ecs1 : bb / 32 % 2 = 1 := by omega
                  have hh : hdr (gd L) sx pt x = some (bb / 64, bb / 32 % 2, tg, 1, 0, pt14) := by rw [ecs1]; exact len_op hLv13 hI (by omega) ecs1 (by omega) (by omega)
                  have hE8 : eqP (fun j => Pg j ∨ (j : Int) = 8 * md + 5) (vf_upd Y2 (((8 * md) + 4) : Int).toNat pt14) (entV Vs md (bb / 64) tg (bb / 32 % 2) pt pt14 0 pr) (md + 1) := by
                    intro j hj hp
                    by_cases e4 : j = (8 * md + 4).toNat
                    · rw [upd_at e4, e4]; exact (ent_4 (by omega) (by omega)).symm
                    · rw [upd_ne e4]; exact hY2 _ _ j hj (fun h => hp (Or.inl h)) (by omega) (fun h => hp (Or.inr h))
                  have em1 : m1 = md + 1 := hp1.2.2
                  rw [em1] at hP hD
                  have hP : va_P (dC, dI) vwCl [(ya, .inl (cY, 16400, .inl (fun j => iI ((vf_upd Y2 (((8 * md) + 4) : Int).toNat pt14) j)))), (mm, .inr (4, [.int (iI fl), .ref ta, .int (iI tz), .ref ka, .int (iI nn), .ref da, .ref ya, .int (iI pt14), .int (iI (md + 1)), .int (iI sx)])), (ta, .inl (cT, 4096, .inl (fun j => bI (t j))))] H := hP
                  have hD : va_D A [(ya, .inl (cY, 16400, .inl (fun j => iI ((vf_upd Y2 (((8 * md) + 4) : Int).toNat pt14) j)))), (mm, .inr (4, [.int (iI fl), .ref ta, .int (iI tz), .ref ka, .int (iI nn), .ref da, .ref ya, .int (iI pt14), .int (iI (md + 1)), .int (iI sx)])), (ta, .inl (cT, 4096, .inl (fun j => bI (t j))))] := hD
                  have hPc := hP.sub (ws' := [(mm, .inr (4, [.int (iI fl), .ref ta, .int (iI tz), .ref ka, .int (iI nn), .ref da, .ref ya, .int (iI pt14), .int (iI (md + 1)), .int (iI sx)])), (ta, .inl (cT, 4096, .inl (fun j => bI (t j)))), (ya, .inl (cY, 16400, .inl (fun j => iI ((vf_upd Y2 (((8 * md) + 4) : Int).toNat pt14) j))))]) [1, 2, 0] rfl
                  have hDc := hD.sub (ws' := [(mm, .inr (4, [.int (iI fl), .ref ta, .int (iI tz), .ref ka, .int (iI nn), .ref da, .ref ya, .int (iI pt14), .int (iI (md + 1)), .int (iI sx)])), (ta, .inl (cT, 4096, .inl (fun j => bI (t j)))), (ya, .inl (cY, 16400, .inl (fun j => iI ((vf_upd Y2 (((8 * md) + 4) : Int).toNat pt14) j))))]) [1, 2, 0] (by decide) rfl
                  have hKc := hK.sub (tys' := [(cT, .byte), (cY, .int)]) [1, 0] rfl
                  have hFc := va_free (wc := [(mm, .inr (4, [.int (iI fl), .ref ta, .int (iI tz), .ref ka, .int (iI nn), .ref da, .ref ya, .int (iI pt14), .int (iI (md + 1)), .int (iI sx)])), (ta, .inl (cT, 4096, .inl (fun j => bI (t j)))), (ya, .inl (cY, 16400, .inl (fun j => iI ((vf_upd Y2 (((8 * md) + 4) : Int).toNat pt14) j))))]) hD hS hA [1, 2, 0] rfl
                  refine mv_call (mv_runV (As := [.int (iI md), .int (iI x), .int (iI dp)]) (rest := []) ⟨hx, hb, hml, hown, hT⟩ (hMO H.size mm fl ta tz ka nn da ya pt14 (md + 1) sx cT t L cY (vf_upd Y2 (((8 * md) + 4) : Int).toNat pt14) (entV Vs md (bb / 64) tg (bb / 32 % 2) pt pt14 0 pr) Pg md x dp pt14 (hok) (hsx) (by omega) (by omega) (hE8) (hPg) (⟨upd_at (by omega), by omega, by omega⟩) (by omega)) (cwV 3 hT (gV wd589 wd591 wd20 wd30 wd592) rfl rfl rfl (by decide +kernel) ⟨show (2 * d + 6) + 1 ≤ (2 * (d + 1) + 5) from by omega, show 8 + (4 + 11) + (60 * d + 230) ≤ (60 * (d + 1) + 200) from by omega⟩) ⟨fun a U g mk q => by obtain ⟨q0, q1, qP, qK, qD⟩ := q; exact ⟨q0, q1, qP, va_K.moved (u := U) (U := U.calling g mk a) (Vm.Alike.refl U.vm) qK, qD⟩, va_recv hKc hPc (ci := 4) (q0 := 0) rfl rfl, fun U hU hW => ⟨rfl, by rw [hU], by rw [hU]; exact hPc, va_K.moved hW.alike hKc, hDc.weaken (fun _ _ _ _ => trivial)⟩⟩ rfl rfl hl.1 rfl (lv_room (Nat.le_of_ble_eq_true rfl)) dX4_value_348 ⟨show kc + 0 + 0 ≤ 0 from by omega, show ks + 0 + 0 ≤ 0 from by omega⟩) hS (fun q _ h => hFc q h) hFc (fun v39 u k37 n38 tS H1 locs ht hvm hw hB hz1 hk1 hS => ?_)
                  obtain ⟨Y40, pt41, md42, q43⟩ := u
                  obtain ⟨hP1, hK1, hD1⟩ := hB
                  rw [ht] at hP1
                  have hK1 := va_K.moved hvm.symm hK1
                  try dsimp only at hw
                  obtain ⟨hP, hD⟩ := va_join (wr := []) (w1 := [(mm, .inr (4, [.int (iI fl), .ref ta, .int (iI tz), .ref ka, .int (iI nn), .ref da, .ref ya, .int (iI pt41), .int (iI md42), .int (iI sx)])), (ta, .inl (cT, 4096, .inl (fun j => bI (t j)))), (ya, .inl (cY, 16400, .inl (fun j => iI (Y40 j))))]) hP hD [1, 2, 0] [] rfl rfl (by decide) (by decide) hk1 hFc hP1 hD1
                  have hK := (hK.sub (tys' := []) [] rfl).app hK1
                  generalize H1 = H at hP hS ⊢
                  have hP : va_P (dC, dI) vwCl [(mm, .inr (4, [.int (iI fl), .ref ta, .int (iI tz), .ref ka, .int (iI nn), .ref da, .ref ya, .int (iI pt41), .int (iI md42), .int (iI sx)])), (ta, .inl (cT, 4096, .inl (fun j => bI (t j)))), (ya, .inl (cY, 16400, .inl (fun j => iI (Y40 j))))] H := hP
                  have hD : va_D A [(mm, .inr (4, [.int (iI fl), .ref ta, .int (iI tz), .ref ka, .int (iI nn), .ref da, .ref ya, .int (iI pt41), .int (iI md42), .int (iI sx)])), (ta, .inl (cT, 4096, .inl (fun j => bI (t j)))), (ya, .inl (cY, 16400, .inl (fun j => iI (Y40 j))))] := hD
                  have hK : va_K (dC, dI) vwCl [(cT, .byte), (cY, .int)] s := hK
                  obtain ⟨rfl, hqv39, rfl, rfl⟩ := hw
                  refine W.eq (g2 := F0 m 351 ls [.int (iI q43)]) rfl ?_
                  rcases hqv39 with ⟨z0, z1⟩ | ⟨z0, W9, b9, z1, z2, z3, z4, z5⟩
                  · skip
                    subst hQ9
                    have hP9 := hP.sub (ws' := [(mm, .inr (4, [.int (iI fl), .ref ta, .int (iI tz), .ref ka, .int (iI nn), .ref da, .ref ya, .int (iI pt41), .int (iI md42), .int (iI sx)])), (ta, .inl (cT, 4096, .inl (fun j => bI (t j)))), (ya, .inl (cY, 16400, .inl (fun j => iI (Y40 j))))]) [0, 1, 2] rfl
                    have hD9 := hD.sub (ws' := [(mm, .inr (4, [.int (iI fl), .ref ta, .int (iI tz), .ref ka, .int (iI nn), .ref da, .ref ya, .int (iI pt41), .int (iI md42), .int (iI sx)])), (ta, .inl (cT, 4096, .inl (fun j => bI (t j)))), (ya, .inl (cY, 16400, .inl (fun j => iI (Y40 j))))]) [0, 1, 2] (by decide) rfl
                    have hK9 := hK.sub (tys' := [(cT, .byte), (cY, .int)]) [0, 1] rfl
                    exact mv_zret hx hb hr (zb_n (by omega)) hlocks (fun tS ht hW => ⟨⟨_, (Y40, pt41, md42, q43), rfl, ⟨rfl, Or.inl ⟨z0, layV_o0 (by omega) hh z1⟩, by omega, by omega⟩, by rw [ht]; exact hP9, va_K.moved hW.alike hK9, hD9⟩, hS.F ht⟩) hS.2.2 dX4_value_351
                  · skip
                    have hh2 := layV_o1 (d := d) (V := Vs) (pr := pr) (show md < 2048 by omega) hh z1
                    rw [← z2] at hh2
                    have hk5 : ∀ j : Nat, (j : Int) < 8 * md → ¬ j % 8 = 7 → Y40 j = Y j := fun j h1 h2 => (z5 j h1 h2).trans ((upd_ne (by omega)).trans (hk j h1 h2))
                    subst hQ9
                    have hP9 := hP.sub (ws' := [(mm, .inr (4, [.int (iI fl), .ref ta, .int (iI tz), .ref ka, .int (iI nn), .ref da, .ref ya, .int (iI pt41), .int (iI md42), .int (iI sx)])), (ta, .inl (cT, 4096, .inl (fun j => bI (t j)))), (ya, .inl (cY, 16400, .inl (fun j => iI (Y40 j))))]) [0, 1, 2] rfl
                    have hD9 := hD.sub (ws' := [(mm, .inr (4, [.int (iI fl), .ref ta, .int (iI tz), .ref ka, .int (iI nn), .ref da, .ref ya, .int (iI pt41), .int (iI md42), .int (iI sx)])), (ta, .inl (cT, 4096, .inl (fun j => bI (t j)))), (ya, .inl (cY, 16400, .inl (fun j => iI (Y40 j))))]) [0, 1, 2] (by decide) rfl
                    have hK9 := hK.sub (tys' := [(cT, .byte), (cY, .int)]) [0, 1] rfl
                    exact mv_zret hx hb hr (zb_n (by omega)) hlocks (fun tS ht hW => ⟨⟨_, (Y40, pt41, md42, q43), rfl, ⟨rfl, Or.inr ⟨z0, _, hh2, z3, by omega, hk5⟩, by omega, by omega⟩, by rw [ht]; exact hP9, va_K.moved hW.alike hK9, hD9⟩, hS.F ht⟩) hS.2.2 dX4_value_351
              · skip
                refine lv_iconst (v := iI 0) hx hb dX4_value_316 rfl ?_
                subst hQ9
                have hP9 := hP.sub (ws' := [(mm, .inr (4, [.int (iI fl), .ref ta, .int (iI tz), .ref ka, .int (iI nn), .ref da, .ref ya, .int (iI pt14), .int (iI m1), .int (iI sx)])), (ta, .inl (cT, 4096, .inl (fun j => bI (t j)))), (ya, .inl (cY, 16400, .inl (fun j => iI (Y2 j))))]) [1, 2, 0] rfl
                have hD9 := hD.sub (ws' := [(mm, .inr (4, [.int (iI fl), .ref ta, .int (iI tz), .ref ka, .int (iI nn), .ref da, .ref ya, .int (iI pt14), .int (iI m1), .int (iI sx)])), (ta, .inl (cT, 4096, .inl (fun j => bI (t j)))), (ya, .inl (cY, 16400, .inl (fun j => iI (Y2 j))))]) [1, 2, 0] (by decide) rfl
                have hK9 := hK.sub (tys' := [(cT, .byte), (cY, .int)]) [1, 0] rfl
                exact mv_zret hx hb hr (zb_n (by omega)) hlocks (fun tS ht hW => ⟨⟨_, (Y2, pt14, m1, 0), rfl, ⟨rfl, Or.inl ⟨rfl, layV_x (len_no3 hLv13 hI (by omega) (by omega))⟩, by omega, by omega⟩, by rw [ht]; exact hP9, va_K.moved hW.alike hK9, hD9⟩, hS.F ht⟩) hS.2.2 dX4_value_317
  have J203 : ∀ (fu : Nat) (bb : Int) (tg : Int) (p1 : Int) (m1 : Int) (H : Heap) (locs : List Loc) (ls : Array Slot) (kc ks : Nat), (0 < (fu : Int)) → (bb = gd L pt ∧ pt < tz ∧ 0 ≤ bb ∧ bb < 256) → (pt < p1 ∧ p1 ≤ tz ∧ m1 = md + 1) → (idn (gd L) pt x = some (bb / 64, bb / 32 % 2, tg, p1) ∨ idn (gd L) pt x = none ∧ x < p1) → (kc = 0 ∧ ks = 0) → va_K (dC, dI) vwCl [(cT, .byte), (cY, .int)] s → va_P (dC, dI) vwCl [(mm, .inr (4, [.int (iI fl), .ref ta, .int (iI tz), .ref ka, .int (iI nn), .ref da, .ref ya, .int (iI p1), .int (iI m1), .int (iI sx)])), (ta, .inl (cT, 4096, .inl (fun j => bI (t j)))), (ya, .inl (cY, 16400, .inl (fun j => iI ((vf_upd (vf_upd (vf_upd Y (((8 * md) + 3) : Int).toNat pt) ((8 * md) : Int).toNat (bb / 64)) (((8 * md) + 1) : Int).toNat tg) j))))] H → va_D A [(mm, .inr (4, [.int (iI fl), .ref ta, .int (iI tz), .ref ka, .int (iI nn), .ref da, .ref ya, .int (iI p1), .int (iI m1), .int (iI sx)])), (ta, .inl (cT, 4096, .inl (fun j => bI (t j)))), (ya, .inl (cY, 16400, .inl (fun j => iI ((vf_upd (vf_upd (vf_upd Y (((8 * md) + 3) : Int).toNat pt) ((8 * md) : Int).toNat (bb / 64)) (((8 * md) + 1) : Int).toNat tg) j))))] → va_S A s.heap H locs → lv_has ls 11 [(0, .ref mm), (1, .int (iI x)), (2, .int (iI pr)), (3, .int (iI dp)), (4, .int (iI md)), (5, .int (iI bb))] → W p l e ({ frames := (2 * (d + 1) + 5), cells := 0, slots := 0, locals := (60 * (d + 1) + 200) }) s m ([.ref mm, .int (iI x), .int (iI pr), .int (iI dp)] : List Value).toArray below meth c H locs kc ks Q9 (F0 m 203 ls []) := by
    intro fu
    induction fu with
    | zero =>
      intro bb tg p1 m1 H locs ls kc ks hfu hbb hp1 hI hkc hK hP hD hS hl
      exfalso
      omega
    | succ fu ih =>
      intro bb tg p1 m1 H locs ls kc ks hfu hbb hp1 hI hkc hK hP hD hS hl
      refine lv_aload_n hx hb dX4_value_203 rfl (lv_at hl 0 rfl) ?_
      refine va_get (D := (dC, dI)) (ci := 4) (v := .ref ya) (C := RX4) (T := TX4) (N := 10) hx hb hT inX4 hown hK hP 0 rfl rfl 6 (by decide) (hT _ wd523) (fun _ h9 => h9) rfl dX4_value_204 ?_
      refine lv_bipush (v := iI 8) hx hb dX4_value_207 (by decide +kernel) ?_
      refine lv_iload hx hb dX4_value_209 (lv_at hl 4 rfl) ?_
      refine li_imul hx hb dX4_value_211 ?_
      refine lv_iconst (v := iI 2) hx hb dX4_value_212 rfl ?_
      refine li_iadd hx hb dX4_value_213 ?_
      refine lv_iload hx hb dX4_value_214 (lv_at hl 5 rfl) ?_
      refine lv_iconst (v := iI 5) hx hb dX4_value_216 rfl ?_
      refine li_ishrK hx hb 32 (by decide) (by omega) (by omega) dX4_value_217 ?_
      refine lv_iconst (v := iI 1) hx hb dX4_value_218 rfl ?_
      refine li_iand1 hx hb dX4_value_219 ?_
      refine li_iast hx hb hK hP hD hS 2 1 rfl rfl (z := ((8 * md) + 2)) (by omega) (by omega) dX4_value_220 (fun H locs hP hD hS => ?_)
      have hP : va_P (dC, dI) vwCl [(mm, .inr (4, [.int (iI fl), .ref ta, .int (iI tz), .ref ka, .int (iI nn), .ref da, .ref ya, .int (iI p1), .int (iI m1), .int (iI sx)])), (ta, .inl (cT, 4096, .inl (fun j => bI (t j)))), (ya, .inl (cY, 16400, .inl (fun j => iI ((vf_upd (vf_upd (vf_upd (vf_upd Y (((8 * md) + 3) : Int).toNat pt) ((8 * md) : Int).toNat (bb / 64)) (((8 * md) + 1) : Int).toNat tg) (((8 * md) + 2) : Int).toNat ((bb / 32) % 2)) j))))] H := hP
      have hD : va_D A [(mm, .inr (4, [.int (iI fl), .ref ta, .int (iI tz), .ref ka, .int (iI nn), .ref da, .ref ya, .int (iI p1), .int (iI m1), .int (iI sx)])), (ta, .inl (cT, 4096, .inl (fun j => bI (t j)))), (ya, .inl (cY, 16400, .inl (fun j => iI ((vf_upd (vf_upd (vf_upd (vf_upd Y (((8 * md) + 3) : Int).toNat pt) ((8 * md) : Int).toNat (bb / 64)) (((8 * md) + 1) : Int).toNat tg) (((8 * md) + 2) : Int).toNat ((bb / 32) % 2)) j))))] := hD
      refine lv_aload_n hx hb dX4_value_221 rfl (lv_at hl 0 rfl) ?_
      refine va_get (D := (dC, dI)) (ci := 4) (v := .ref ya) (C := RX4) (T := TX4) (N := 10) hx hb hT inX4 hown hK hP 0 rfl rfl 6 (by decide) (hT _ wd523) (fun _ h9 => h9) rfl dX4_value_222 ?_
      refine lv_bipush (v := iI 8) hx hb dX4_value_225 (by decide +kernel) ?_
      refine lv_iload hx hb dX4_value_227 (lv_at hl 4 rfl) ?_
      refine li_imul hx hb dX4_value_229 ?_
      refine lv_bipush (v := iI 6) hx hb dX4_value_230 (by decide +kernel) ?_
      refine li_iadd hx hb dX4_value_232 ?_
      refine lv_iload_n hx hb dX4_value_233 rfl (lv_at hl 2 rfl) ?_
      refine li_iast hx hb hK hP hD hS 2 1 rfl rfl (z := ((8 * md) + 6)) (by omega) (by omega) dX4_value_234 (fun H locs hP hD hS => ?_)
      have hP : va_P (dC, dI) vwCl [(mm, .inr (4, [.int (iI fl), .ref ta, .int (iI tz), .ref ka, .int (iI nn), .ref da, .ref ya, .int (iI p1), .int (iI m1), .int (iI sx)])), (ta, .inl (cT, 4096, .inl (fun j => bI (t j)))), (ya, .inl (cY, 16400, .inl (fun j => iI ((vf_upd (vf_upd (vf_upd (vf_upd (vf_upd Y (((8 * md) + 3) : Int).toNat pt) ((8 * md) : Int).toNat (bb / 64)) (((8 * md) + 1) : Int).toNat tg) (((8 * md) + 2) : Int).toNat ((bb / 32) % 2)) (((8 * md) + 6) : Int).toNat pr) j))))] H := hP
      have hD : va_D A [(mm, .inr (4, [.int (iI fl), .ref ta, .int (iI tz), .ref ka, .int (iI nn), .ref da, .ref ya, .int (iI p1), .int (iI m1), .int (iI sx)])), (ta, .inl (cT, 4096, .inl (fun j => bI (t j)))), (ya, .inl (cY, 16400, .inl (fun j => iI ((vf_upd (vf_upd (vf_upd (vf_upd (vf_upd Y (((8 * md) + 3) : Int).toNat pt) ((8 * md) : Int).toNat (bb / 64)) (((8 * md) + 1) : Int).toNat tg) (((8 * md) + 2) : Int).toNat ((bb / 32) % 2)) (((8 * md) + 6) : Int).toNat pr) j))))] := hD
      refine lv_aload_n hx hb dX4_value_235 rfl (lv_at hl 0 rfl) ?_
      refine va_get (D := (dC, dI)) (ci := 4) (v := .ref ya) (C := RX4) (T := TX4) (N := 10) hx hb hT inX4 hown hK hP 0 rfl rfl 6 (by decide) (hT _ wd523) (fun _ h9 => h9) rfl dX4_value_236 ?_
      refine lv_bipush (v := iI 8) hx hb dX4_value_239 (by decide +kernel) ?_
      refine lv_iload hx hb dX4_value_241 (lv_at hl 4 rfl) ?_
      refine li_imul hx hb dX4_value_243 ?_
      refine lv_bipush (v := iI 7) hx hb dX4_value_244 (by decide +kernel) ?_
      refine li_iadd hx hb dX4_value_246 ?_
      refine lv_iconst (v := iI 0) hx hb dX4_value_247 rfl ?_
      refine li_iast hx hb hK hP hD hS 2 1 rfl rfl (z := ((8 * md) + 7)) (by omega) (by omega) dX4_value_248 (fun H locs hP hD hS => ?_)
      have hP : va_P (dC, dI) vwCl [(mm, .inr (4, [.int (iI fl), .ref ta, .int (iI tz), .ref ka, .int (iI nn), .ref da, .ref ya, .int (iI p1), .int (iI m1), .int (iI sx)])), (ta, .inl (cT, 4096, .inl (fun j => bI (t j)))), (ya, .inl (cY, 16400, .inl (fun j => iI ((vf_upd (vf_upd (vf_upd (vf_upd (vf_upd (vf_upd Y (((8 * md) + 3) : Int).toNat pt) ((8 * md) : Int).toNat (bb / 64)) (((8 * md) + 1) : Int).toNat tg) (((8 * md) + 2) : Int).toNat ((bb / 32) % 2)) (((8 * md) + 6) : Int).toNat pr) (((8 * md) + 7) : Int).toNat 0) j))))] H := hP
      have hD : va_D A [(mm, .inr (4, [.int (iI fl), .ref ta, .int (iI tz), .ref ka, .int (iI nn), .ref da, .ref ya, .int (iI p1), .int (iI m1), .int (iI sx)])), (ta, .inl (cT, 4096, .inl (fun j => bI (t j)))), (ya, .inl (cY, 16400, .inl (fun j => iI ((vf_upd (vf_upd (vf_upd (vf_upd (vf_upd (vf_upd Y (((8 * md) + 3) : Int).toNat pt) ((8 * md) : Int).toNat (bb / 64)) (((8 * md) + 1) : Int).toNat tg) (((8 * md) + 2) : Int).toNat ((bb / 32) % 2)) (((8 * md) + 6) : Int).toNat pr) (((8 * md) + 7) : Int).toNat 0) j))))] := hD
      refine lv_iload_n hx hb dX4_value_249 rfl (lv_at hl 2 rfl) ?_
      refine li_if_lt (tgt := 269) hx hb (by omega) dX4_value_250 (by decide) (fun c44 => ?_) (fun c44 => ?_)
      · skip
        exact J269 (1) bb tg p1 m1 (vf_upd (vf_upd (vf_upd (vf_upd (vf_upd (vf_upd Y (((8 * md) + 3) : Int).toNat pt) ((8 * md) : Int).toNat (bb / 64)) (((8 * md) + 1) : Int).toNat tg) (((8 * md) + 2) : Int).toNat ((bb / 32) % 2)) (((8 * md) + 6) : Int).toNat pr) (((8 * md) + 7) : Int).toNat 0) _ _ _ _ _ (by omega) (by omega) (by omega) (hI) (ent_m hmd.1 hpr hEP hPg (fun j => by first | rw [if_pos (by omega)] | rw [if_neg (by omega)])) (ent_k hpr (fun j => by first | rw [if_pos (by omega)] | rw [if_neg (by omega)])) (by omega) (hK.sub [0, 1] rfl) (hP.sub [0, 1, 2] rfl) (hD.sub [0, 1, 2] (by decide) rfl) hS (lv_sub hl [0, 1, 2, 3, 4, 5] rfl)
      · skip
        refine lv_aload_n hx hb dX4_value_253 rfl (lv_at hl 0 rfl) ?_
        refine va_get (D := (dC, dI)) (ci := 4) (v := .ref ya) (C := RX4) (T := TX4) (N := 10) hx hb hT inX4 hown hK hP 0 rfl rfl 6 (by decide) (hT _ wd523) (fun _ h9 => h9) rfl dX4_value_254 ?_
        refine lv_bipush (v := iI 8) hx hb dX4_value_257 (by decide +kernel) ?_
        refine lv_iload_n hx hb dX4_value_259 rfl (lv_at hl 2 rfl) ?_
        refine li_imul hx hb dX4_value_260 ?_
        refine lv_bipush (v := iI 7) hx hb dX4_value_261 (by decide +kernel) ?_
        refine li_iadd hx hb dX4_value_263 ?_
        refine lv_dup2_11 hx hb dX4_value_264 rfl rfl ?_
        refine li_iald hx hb hK hP 2 1 rfl rfl (z := ((8 * pr) + 7)) (by omega) (by omega) dX4_value_265 ?_
        refine lv_iconst (v := iI 1) hx hb dX4_value_266 rfl ?_
        refine li_iadd hx hb dX4_value_267 ?_
        refine li_iast hx hb hK hP hD hS 2 1 rfl rfl (z := ((8 * pr) + 7)) (by omega) (by omega) dX4_value_268 (fun H locs hP hD hS => ?_)
        have hP : va_P (dC, dI) vwCl [(mm, .inr (4, [.int (iI fl), .ref ta, .int (iI tz), .ref ka, .int (iI nn), .ref da, .ref ya, .int (iI p1), .int (iI m1), .int (iI sx)])), (ta, .inl (cT, 4096, .inl (fun j => bI (t j)))), (ya, .inl (cY, 16400, .inl (fun j => iI ((vf_upd (vf_upd (vf_upd (vf_upd (vf_upd (vf_upd (vf_upd Y (((8 * md) + 3) : Int).toNat pt) ((8 * md) : Int).toNat (bb / 64)) (((8 * md) + 1) : Int).toNat tg) (((8 * md) + 2) : Int).toNat ((bb / 32) % 2)) (((8 * md) + 6) : Int).toNat pr) (((8 * md) + 7) : Int).toNat 0) (((8 * pr) + 7) : Int).toNat (((vf_upd (vf_upd (vf_upd (vf_upd (vf_upd (vf_upd Y (((8 * md) + 3) : Int).toNat pt) ((8 * md) : Int).toNat (bb / 64)) (((8 * md) + 1) : Int).toNat tg) (((8 * md) + 2) : Int).toNat ((bb / 32) % 2)) (((8 * md) + 6) : Int).toNat pr) (((8 * md) + 7) : Int).toNat 0) (((8 * pr) + 7) : Int).toNat) + 1)) j))))] H := hP
        have hD : va_D A [(mm, .inr (4, [.int (iI fl), .ref ta, .int (iI tz), .ref ka, .int (iI nn), .ref da, .ref ya, .int (iI p1), .int (iI m1), .int (iI sx)])), (ta, .inl (cT, 4096, .inl (fun j => bI (t j)))), (ya, .inl (cY, 16400, .inl (fun j => iI ((vf_upd (vf_upd (vf_upd (vf_upd (vf_upd (vf_upd (vf_upd Y (((8 * md) + 3) : Int).toNat pt) ((8 * md) : Int).toNat (bb / 64)) (((8 * md) + 1) : Int).toNat tg) (((8 * md) + 2) : Int).toNat ((bb / 32) % 2)) (((8 * md) + 6) : Int).toNat pr) (((8 * md) + 7) : Int).toNat 0) (((8 * pr) + 7) : Int).toNat (((vf_upd (vf_upd (vf_upd (vf_upd (vf_upd (vf_upd Y (((8 * md) + 3) : Int).toNat pt) ((8 * md) : Int).toNat (bb / 64)) (((8 * md) + 1) : Int).toNat tg) (((8 * md) + 2) : Int).toNat ((bb / 32) % 2)) (((8 * md) + 6) : Int).toNat pr) (((8 * md) + 7) : Int).toNat 0) (((8 * pr) + 7) : Int).toNat) + 1)) j))))] := hD
        exact J269 (1) bb tg p1 m1 (vf_upd (vf_upd (vf_upd (vf_upd (vf_upd (vf_upd (vf_upd Y (((8 * md) + 3) : Int).toNat pt) ((8 * md) : Int).toNat (bb / 64)) (((8 * md) + 1) : Int).toNat tg) (((8 * md) + 2) : Int).toNat ((bb / 32) % 2)) (((8 * md) + 6) : Int).toNat pr) (((8 * md) + 7) : Int).toNat 0) (((8 * pr) + 7) : Int).toNat (((vf_upd (vf_upd (vf_upd (vf_upd (vf_upd (vf_upd Y (((8 * md) + 3) : Int).toNat pt) ((8 * md) : Int).toNat (bb / 64)) (((8 * md) + 1) : Int).toNat tg) (((8 * md) + 2) : Int).toNat ((bb / 32) % 2)) (((8 * md) + 6) : Int).toNat pr) (((8 * md) + 7) : Int).toNat 0) (((8 * pr) + 7) : Int).toNat) + 1)) _ _ _ _ _ (by omega) (by omega) (by omega) (hI) (ent_m hmd.1 hpr hEP hPg (fun j => by first | rw [if_pos (by omega)] | rw [if_neg (by omega)])) (ent_k hpr (fun j => by first | rw [if_pos (by omega)] | rw [if_neg (by omega)])) (by omega) (hK.sub [0, 1] rfl) (hP.sub [0, 1, 2] rfl) (hD.sub [0, 1, 2] (by decide) rfl) hS (lv_sub hl [0, 1, 2, 3, 4, 5] rfl)
  have J160 : ∀ (fu : Nat) (bb : Int) (nm : Int) (p1 : Int) (m1 : Int) (H : Heap) (locs : List Loc) (ls : Array Slot) (kc ks : Nat), (0 < (fu : Int)) → (bb = gd L pt ∧ pt < tz ∧ 0 ≤ bb ∧ bb < 256) → (pt < p1 ∧ p1 ≤ tz ∧ m1 = md + 1) → (0 ≤ nm ∧ nm ≤ 1099511627776) → (idn (gd L) pt x = some (bb / 64, bb / 32 % 2, (if 2147483647 < nm then -1 else nm), p1) ∨ idn (gd L) pt x = none ∧ x < p1) → (kc = 0 ∧ ks = 0) → va_K (dC, dI) vwCl [(cT, .byte), (cY, .int)] s → va_P (dC, dI) vwCl [(mm, .inr (4, [.int (iI fl), .ref ta, .int (iI tz), .ref ka, .int (iI nn), .ref da, .ref ya, .int (iI p1), .int (iI m1), .int (iI sx)])), (ta, .inl (cT, 4096, .inl (fun j => bI (t j)))), (ya, .inl (cY, 16400, .inl (fun j => iI ((vf_upd Y (((8 * md) + 3) : Int).toNat pt) j))))] H → va_D A [(mm, .inr (4, [.int (iI fl), .ref ta, .int (iI tz), .ref ka, .int (iI nn), .ref da, .ref ya, .int (iI p1), .int (iI m1), .int (iI sx)])), (ta, .inl (cT, 4096, .inl (fun j => bI (t j)))), (ya, .inl (cY, 16400, .inl (fun j => iI ((vf_upd Y (((8 * md) + 3) : Int).toNat pt) j))))] → va_S A s.heap H locs → lv_has ls 11 [(0, .ref mm), (1, .int (iI x)), (2, .int (iI pr)), (3, .int (iI dp)), (4, .int (iI md)), (5, .int (iI bb)), (6, .long (lI nm))] → W p l e ({ frames := (2 * (d + 1) + 5), cells := 0, slots := 0, locals := (60 * (d + 1) + 200) }) s m ([.ref mm, .int (iI x), .int (iI pr), .int (iI dp)] : List Value).toArray below meth c H locs kc ks Q9 (F0 m 160 ls []) := by
    intro fu
    induction fu with
    | zero =>
      intro bb nm p1 m1 H locs ls kc ks hfu hbb hp1 hnm hI hkc hK hP hD hS hl
      exfalso
      omega
    | succ fu ih =>
      intro bb nm p1 m1 H locs ls kc ks hfu hbb hp1 hnm hI hkc hK hP hD hS hl
      refine lv_aload_n hx hb dX4_value_160 rfl (lv_at hl 0 rfl) ?_
      refine va_get (D := (dC, dI)) (ci := 4) (v := .ref ya) (C := RX4) (T := TX4) (N := 10) hx hb hT inX4 hown hK hP 0 rfl rfl 6 (by decide) (hT _ wd523) (fun _ h9 => h9) rfl dX4_value_161 ?_
      refine lv_bipush (v := iI 8) hx hb dX4_value_164 (by decide +kernel) ?_
      refine lv_iload hx hb dX4_value_166 (lv_at hl 4 rfl) ?_
      refine li_imul hx hb dX4_value_168 ?_
      refine lv_iload hx hb dX4_value_169 (lv_at hl 5 rfl) ?_
      refine lv_bipush (v := iI 6) hx hb dX4_value_171 (by decide +kernel) ?_
      refine li_ishrK hx hb 64 (by decide) (by omega) (by omega) dX4_value_173 ?_
      refine li_iast hx hb hK hP hD hS 2 1 rfl rfl (z := (8 * md)) (by omega) (by omega) dX4_value_174 (fun H locs hP hD hS => ?_)
      have hP : va_P (dC, dI) vwCl [(mm, .inr (4, [.int (iI fl), .ref ta, .int (iI tz), .ref ka, .int (iI nn), .ref da, .ref ya, .int (iI p1), .int (iI m1), .int (iI sx)])), (ta, .inl (cT, 4096, .inl (fun j => bI (t j)))), (ya, .inl (cY, 16400, .inl (fun j => iI ((vf_upd (vf_upd Y (((8 * md) + 3) : Int).toNat pt) ((8 * md) : Int).toNat (bb / 64)) j))))] H := hP
      have hD : va_D A [(mm, .inr (4, [.int (iI fl), .ref ta, .int (iI tz), .ref ka, .int (iI nn), .ref da, .ref ya, .int (iI p1), .int (iI m1), .int (iI sx)])), (ta, .inl (cT, 4096, .inl (fun j => bI (t j)))), (ya, .inl (cY, 16400, .inl (fun j => iI ((vf_upd (vf_upd Y (((8 * md) + 3) : Int).toNat pt) ((8 * md) : Int).toNat (bb / 64)) j))))] := hD
      refine lv_aload_n hx hb dX4_value_175 rfl (lv_at hl 0 rfl) ?_
      refine va_get (D := (dC, dI)) (ci := 4) (v := .ref ya) (C := RX4) (T := TX4) (N := 10) hx hb hT inX4 hown hK hP 0 rfl rfl 6 (by decide) (hT _ wd523) (fun _ h9 => h9) rfl dX4_value_176 ?_
      refine lv_bipush (v := iI 8) hx hb dX4_value_179 (by decide +kernel) ?_
      refine lv_iload hx hb dX4_value_181 (lv_at hl 4 rfl) ?_
      refine li_imul hx hb dX4_value_183 ?_
      refine lv_iconst (v := iI 1) hx hb dX4_value_184 rfl ?_
      refine li_iadd hx hb dX4_value_185 ?_
      refine lv_lload hx hb dX4_value_186 (lv_at hl 6 rfl) ?_
      refine lv_ldc2 (v := lI 2147483647) hx hb hown (hT _ wd581) dX4_value_188 ?_
      refine li_lcmp_le (tgt := 199) hx hb (by omega) (by omega) dX4_value_191 dX4_value_192 (by decide) (fun c45 => ?_) (fun c45 => ?_)
      · skip
        refine lv_lload hx hb dX4_value_199 (lv_at hl 6 rfl) ?_
        refine li_l2i hx hb dX4_value_201 ?_
        refine li_iast hx hb hK hP hD hS 2 1 rfl rfl (z := ((8 * md) + 1)) (by omega) (by omega) dX4_value_202 (fun H locs hP hD hS => ?_)
        have hP : va_P (dC, dI) vwCl [(mm, .inr (4, [.int (iI fl), .ref ta, .int (iI tz), .ref ka, .int (iI nn), .ref da, .ref ya, .int (iI p1), .int (iI m1), .int (iI sx)])), (ta, .inl (cT, 4096, .inl (fun j => bI (t j)))), (ya, .inl (cY, 16400, .inl (fun j => iI ((vf_upd (vf_upd (vf_upd Y (((8 * md) + 3) : Int).toNat pt) ((8 * md) : Int).toNat (bb / 64)) (((8 * md) + 1) : Int).toNat nm) j))))] H := hP
        have hD : va_D A [(mm, .inr (4, [.int (iI fl), .ref ta, .int (iI tz), .ref ka, .int (iI nn), .ref da, .ref ya, .int (iI p1), .int (iI m1), .int (iI sx)])), (ta, .inl (cT, 4096, .inl (fun j => bI (t j)))), (ya, .inl (cY, 16400, .inl (fun j => iI ((vf_upd (vf_upd (vf_upd Y (((8 * md) + 3) : Int).toNat pt) ((8 * md) : Int).toNat (bb / 64)) (((8 * md) + 1) : Int).toNat nm) j))))] := hD
        exact J203 (1) bb nm p1 m1 _ _ _ _ _ (by omega) (by omega) (by omega) (by rw [if_neg (by omega)] at hI; exact hI) (by omega) (hK.sub [0, 1] rfl) (hP.sub [0, 1, 2] rfl) (hD.sub [0, 1, 2] (by decide) rfl) hS (lv_sub hl [0, 1, 2, 3, 4, 5] rfl)
      · skip
        refine lv_iconst (v := iI (-1)) hx hb dX4_value_195 rfl ?_
        refine lv_goto (tgt := 202) hx hb dX4_value_196 (by decide) ?_
        refine li_iast hx hb hK hP hD hS 2 1 rfl rfl (z := ((8 * md) + 1)) (by omega) (by omega) dX4_value_202 (fun H locs hP hD hS => ?_)
        have hP : va_P (dC, dI) vwCl [(mm, .inr (4, [.int (iI fl), .ref ta, .int (iI tz), .ref ka, .int (iI nn), .ref da, .ref ya, .int (iI p1), .int (iI m1), .int (iI sx)])), (ta, .inl (cT, 4096, .inl (fun j => bI (t j)))), (ya, .inl (cY, 16400, .inl (fun j => iI ((vf_upd (vf_upd (vf_upd Y (((8 * md) + 3) : Int).toNat pt) ((8 * md) : Int).toNat (bb / 64)) (((8 * md) + 1) : Int).toNat (-1)) j))))] H := hP
        have hD : va_D A [(mm, .inr (4, [.int (iI fl), .ref ta, .int (iI tz), .ref ka, .int (iI nn), .ref da, .ref ya, .int (iI p1), .int (iI m1), .int (iI sx)])), (ta, .inl (cT, 4096, .inl (fun j => bI (t j)))), (ya, .inl (cY, 16400, .inl (fun j => iI ((vf_upd (vf_upd (vf_upd Y (((8 * md) + 3) : Int).toNat pt) ((8 * md) : Int).toNat (bb / 64)) (((8 * md) + 1) : Int).toNat (-1)) j))))] := hD
        exact J203 (1) bb (-1) p1 m1 _ _ _ _ _ (by omega) (by omega) (by omega) (by rw [if_pos (by omega)] at hI; exact hI) (by omega) (hK.sub [0, 1] rfl) (hP.sub [0, 1, 2] rfl) (hD.sub [0, 1, 2] (by decide) rfl) hS (lv_sub hl [0, 1, 2, 3, 4, 5] rfl)
  have LN : ∀ (fu : Nat) (bb : Int) (nm : Int) (dd : Int) (jj : Int) (p1 : Int) (m1 : Int) (H : Heap) (locs : List Loc) (ls : Array Slot) (kc ks : Nat), (tz + 1 - jj < (fu : Int)) → (bb = gd L pt ∧ pt < tz ∧ 0 ≤ bb ∧ bb < 256 ∧ bb % 32 = 31) → (pt + 1 ≤ jj ∧ jj ≤ tz ∧ p1 = jj + 1 ∧ m1 = md + 1) → ((jj < tz ∧ dd = gd L jj ∨ tz ≤ jj ∧ dd = -1) ∧ -1 ≤ dd ∧ dd < 256) → (0 ≤ nm ∧ nm ≤ 1099511627776) → (jj = pt + 1 ∧ nm = 0 ∨ pt + 1 < jj ∧ 128 < gd L (pt + 1) ∧ gd L (pt + 1) < 256) → (jj = pt + 1 → ¬ dd = 128) → (NR (gd L) x (pt + 1) jj nm) → (kc = 0 ∧ ks = 0) → va_K (dC, dI) vwCl [(cT, .byte), (cY, .int)] s → va_P (dC, dI) vwCl [(mm, .inr (4, [.int (iI fl), .ref ta, .int (iI tz), .ref ka, .int (iI nn), .ref da, .ref ya, .int (iI p1), .int (iI m1), .int (iI sx)])), (ta, .inl (cT, 4096, .inl (fun j => bI (t j)))), (ya, .inl (cY, 16400, .inl (fun j => iI ((vf_upd Y (((8 * md) + 3) : Int).toNat pt) j))))] H → va_D A [(mm, .inr (4, [.int (iI fl), .ref ta, .int (iI tz), .ref ka, .int (iI nn), .ref da, .ref ya, .int (iI p1), .int (iI m1), .int (iI sx)])), (ta, .inl (cT, 4096, .inl (fun j => bI (t j)))), (ya, .inl (cY, 16400, .inl (fun j => iI ((vf_upd Y (((8 * md) + 3) : Int).toNat pt) j))))] → va_S A s.heap H locs → lv_has ls 11 [(0, .ref mm), (1, .int (iI x)), (2, .int (iI pr)), (3, .int (iI dp)), (4, .int (iI md)), (5, .int (iI bb)), (6, .long (lI nm)), (8, .int (iI dd))] → W p l e ({ frames := (2 * (d + 1) + 5), cells := 0, slots := 0, locals := (60 * (d + 1) + 200) }) s m ([.ref mm, .int (iI x), .int (iI pr), .int (iI dp)] : List Value).toArray below meth c H locs kc ks Q9 (F0 m 89 ls []) := by
    intro fu
    induction fu with
    | zero =>
      intro bb nm dd jj p1 m1 H locs ls kc ks hfu hbb hp1 hdd hnm hfi hd8 hN hkc hK hP hD hS hl
      exfalso
      omega
    | succ fu ih =>
      intro bb nm dd jj p1 m1 H locs ls kc ks hfu hbb hp1 hdd hnm hfi hd8 hN hkc hK hP hD hS hl
      have hgj := hg8 jj
      have hge : jj = pt + 1 → gd L (pt + 1) = gd L jj := fun h => by rw [h]
      refine lv_iload hx hb dX4_value_89 (lv_at hl 7 rfl) ?_
      refine lv_bipush (v := iI 127) hx hb dX4_value_91 (by decide +kernel) ?_
      refine li_icmp_le (tgt := 125) hx hb (by omega) (by omega) dX4_value_93 (by decide) (fun c46 => ?_) (fun c46 => ?_)
      · skip
        refine lv_iload hx hb dX4_value_125 (lv_at hl 7 rfl) ?_
        refine li_if_ge (tgt := 132) hx hb (by omega) dX4_value_127 (by decide) (fun c47 => ?_) (fun c47 => ?_)
        · skip
          refine lv_lload hx hb dX4_value_132 (lv_at hl 6 rfl) ?_
          refine lv_bipush (v := iI 7) hx hb dX4_value_134 (by decide +kernel) ?_
          refine li_lshl7 hx hb dX4_value_136 ?_
          refine lv_iload hx hb dX4_value_137 (lv_at hl 7 rfl) ?_
          refine li_i2l hx hb (by omega) dX4_value_139 ?_
          refine li_lor7 hx hb (by omega) dX4_value_140 ?_
          refine lv_ldc2 (v := lI 1099511627776) hx hb hown (hT _ wd577) dX4_value_141 ?_
          refine li_mminl hx hb (hml.trans hl.1.symm) hown (hT _ wd578) (hT _ wd579) (hT _ wd35) (hT _ wd580) (by show 1 ≤ (2 * (d + 1) + 5); omega) (by show 0 + 15 ≤ (60 * (d + 1) + 200); omega) (by show kc ≤ 0; omega) (by show ks ≤ 0; omega) (by omega) (by omega) dX4_value_144 ?_
          refine li_nml (fun z48 ez48 => ?_)
          refine lv_lstore (lv' := [(6, .long (lI z48)), (0, .ref mm), (1, .int (iI x)), (2, .int (iI pr)), (3, .int (iI dp)), (4, .int (iI md)), (5, .int (iI bb)), (8, .int (iI dd))]) hx hb dX4_value_147 hl (by decide) rfl (fun ls hl => ?_)
          refine lv_lload hx hb dX4_value_149 (lv_at hl 0 rfl) ?_
          refine lv_ldc2 (v := lI 31) hx hb hown (hT _ wd576) dX4_value_151 ?_
          refine li_lcmp_ge (tgt := 160) hx hb (by omega) (by omega) dX4_value_154 dX4_value_155 (by decide) (fun c49 => ?_) (fun c49 => ?_)
          · skip
            exact J160 (1) bb z48 p1 m1 _ _ _ _ _ (by omega) (by omega) (by omega) (by omega) (by rw [hbb.1]; have h9 := (NR_end (n2 := z48) hN (by omega) (by omega) (by omega) (by omega) hfi).2 (by omega); rw [show p1 = jj + 1 by omega]; exact h9) (by omega) (hK.sub [0, 1] rfl) (hP.sub [0, 1, 2] rfl) (hD.sub [0, 1, 2] (by decide) rfl) hS (lv_sub hl [1, 2, 3, 4, 5, 6, 0] rfl)
          · skip
            refine lv_iconst (v := iI 0) hx hb dX4_value_158 rfl ?_
            subst hQ9
            have hP9 := hP.sub (ws' := [(mm, .inr (4, [.int (iI fl), .ref ta, .int (iI tz), .ref ka, .int (iI nn), .ref da, .ref ya, .int (iI p1), .int (iI m1), .int (iI sx)])), (ta, .inl (cT, 4096, .inl (fun j => bI (t j)))), (ya, .inl (cY, 16400, .inl (fun j => iI ((vf_upd Y (((8 * md) + 3) : Int).toNat pt) j))))]) [0, 1, 2] rfl
            have hD9 := hD.sub (ws' := [(mm, .inr (4, [.int (iI fl), .ref ta, .int (iI tz), .ref ka, .int (iI nn), .ref da, .ref ya, .int (iI p1), .int (iI m1), .int (iI sx)])), (ta, .inl (cT, 4096, .inl (fun j => bI (t j)))), (ya, .inl (cY, 16400, .inl (fun j => iI ((vf_upd Y (((8 * md) + 3) : Int).toNat pt) j))))]) [0, 1, 2] (by decide) rfl
            have hK9 := hK.sub (tys' := [(cT, .byte), (cY, .int)]) [0, 1] rfl
            exact mv_zret hx hb hr (zb_n (by omega)) hlocks (fun tS ht hW => ⟨⟨_, ((vf_upd Y (((8 * md) + 3) : Int).toNat pt), p1, m1, 0), rfl, ⟨rfl, Or.inl ⟨rfl, layV_x (hdr_0 ((NR_end (n2 := z48) hN (by omega) (by omega) (by omega) (by omega) hfi).1 (by omega)))⟩, by omega, by omega⟩, by rw [ht]; exact hP9, va_K.moved hW.alike hK9, hD9⟩, hS.F ht⟩) hS.2.2 dX4_value_159
        · skip
          refine lv_iconst (v := iI 0) hx hb dX4_value_130 rfl ?_
          subst hQ9
          have hP9 := hP.sub (ws' := [(mm, .inr (4, [.int (iI fl), .ref ta, .int (iI tz), .ref ka, .int (iI nn), .ref da, .ref ya, .int (iI p1), .int (iI m1), .int (iI sx)])), (ta, .inl (cT, 4096, .inl (fun j => bI (t j)))), (ya, .inl (cY, 16400, .inl (fun j => iI ((vf_upd Y (((8 * md) + 3) : Int).toNat pt) j))))]) [0, 1, 2] rfl
          have hD9 := hD.sub (ws' := [(mm, .inr (4, [.int (iI fl), .ref ta, .int (iI tz), .ref ka, .int (iI nn), .ref da, .ref ya, .int (iI p1), .int (iI m1), .int (iI sx)])), (ta, .inl (cT, 4096, .inl (fun j => bI (t j)))), (ya, .inl (cY, 16400, .inl (fun j => iI ((vf_upd Y (((8 * md) + 3) : Int).toNat pt) j))))]) [0, 1, 2] (by decide) rfl
          have hK9 := hK.sub (tys' := [(cT, .byte), (cY, .int)]) [0, 1] rfl
          exact mv_zret hx hb hr (zb_n (by omega)) hlocks (fun tS ht hW => ⟨⟨_, ((vf_upd Y (((8 * md) + 3) : Int).toNat pt), p1, m1, 0), rfl, ⟨rfl, Or.inl ⟨rfl, layV_x (hdr_0 (NR_none hN (by omega) (by omega)))⟩, by omega, by omega⟩, by rw [ht]; exact hP9, va_K.moved hW.alike hK9, hD9⟩, hS.F ht⟩) hS.2.2 dX4_value_131
      · skip
        refine lv_lload hx hb dX4_value_96 (lv_at hl 6 rfl) ?_
        refine lv_bipush (v := iI 7) hx hb dX4_value_98 (by decide +kernel) ?_
        refine li_lshl7 hx hb dX4_value_100 ?_
        refine lv_iload hx hb dX4_value_101 (lv_at hl 7 rfl) ?_
        refine lv_bipush (v := iI 127) hx hb dX4_value_103 (by decide +kernel) ?_
        refine li_iand127 hx hb dX4_value_105 ?_
        refine li_i2l hx hb (by omega) dX4_value_106 ?_
        refine li_lor7 hx hb (by omega) dX4_value_107 ?_
        refine lv_ldc2 (v := lI 1099511627776) hx hb hown (hT _ wd577) dX4_value_108 ?_
        refine li_mminl hx hb (hml.trans hl.1.symm) hown (hT _ wd578) (hT _ wd579) (hT _ wd35) (hT _ wd580) (by show 1 ≤ (2 * (d + 1) + 5); omega) (by show 0 + 15 ≤ (60 * (d + 1) + 200); omega) (by show kc ≤ 0; omega) (by show ks ≤ 0; omega) (by omega) (by omega) dX4_value_111 ?_
        refine li_nml (fun z50 ez50 => ?_)
        refine lv_lstore (lv' := [(6, .long (lI z50)), (0, .ref mm), (1, .int (iI x)), (2, .int (iI pr)), (3, .int (iI dp)), (4, .int (iI md)), (5, .int (iI bb)), (8, .int (iI dd))]) hx hb dX4_value_114 hl (by decide) rfl (fun ls hl => ?_)
        refine lv_aload_n hx hb dX4_value_116 rfl (lv_at hl 1 rfl) ?_
        have hPc := hP.sub (ws' := [(mm, .inr (4, [.int (iI fl), .ref ta, .int (iI tz), .ref ka, .int (iI nn), .ref da, .ref ya, .int (iI p1), .int (iI m1), .int (iI sx)])), (ta, .inl (cT, 4096, .inl (fun j => bI (t j))))]) [0, 1] rfl
        have hDc := hD.sub (ws' := [(mm, .inr (4, [.int (iI fl), .ref ta, .int (iI tz), .ref ka, .int (iI nn), .ref da, .ref ya, .int (iI p1), .int (iI m1), .int (iI sx)])), (ta, .inl (cT, 4096, .inl (fun j => bI (t j))))]) [0, 1] (by decide) rfl
        have hKc := hK.sub (tys' := [(cT, .byte)]) [0] rfl
        have hFc := va_free (wc := [(mm, .inr (4, [.int (iI fl), .ref ta, .int (iI tz), .ref ka, .int (iI nn), .ref da, .ref ya, .int (iI p1), .int (iI m1), .int (iI sx)])), (ta, .inl (cT, 4096, .inl (fun j => bI (t j))))]) hD hS hA [0, 1] rfl
        refine mv_call (mv_runV (As := []) (rest := []) ⟨hx, hb, hml, hown, hT⟩ (c_M_next l dC dI H.size mm fl ta tz ka nn da ya p1 m1 sx cT t L (hok) (by omega)) (cwV 0 hT (gV wd572 wd574 wd18 wd30 wd575) rfl rfl rfl (by decide +kernel) ⟨show 0 + 1 ≤ (2 * (d + 1) + 5) from by omega, show 8 + (2 + 11) + 0 ≤ (60 * (d + 1) + 200) from by omega⟩) ⟨fun a U g mk q => by obtain ⟨q0, q1, qP, qK, qD⟩ := q; exact ⟨q0, q1, qP, va_K.moved (u := U) (U := U.calling g mk a) (Vm.Alike.refl U.vm) qK, qD⟩, va_recv hKc hPc (ci := 4) (q0 := 0) rfl rfl, fun U hU hW => ⟨rfl, by rw [hU], by rw [hU]; exact hPc, va_K.moved hW.alike hKc, hDc.weaken (fun _ _ _ _ => trivial)⟩⟩ rfl rfl hl.1 rfl (lv_room (Nat.le_of_ble_eq_true rfl)) dX4_value_117 ⟨show kc + 0 ≤ 0 from by omega, show ks + 0 ≤ 0 from by omega⟩) hS (fun q _ h => hFc q h) hFc (fun v53 u k51 n52 tS H1 locs ht hvm hw hB hz1 hk1 hS => ?_)
        obtain ⟨pt54, q55⟩ := u
        obtain ⟨hP1, hK1, hD1⟩ := hB
        rw [ht] at hP1
        have hK1 := va_K.moved hvm.symm hK1
        try dsimp only at hw
        obtain ⟨hP, hD⟩ := va_join (wr := [(ya, .inl (cY, 16400, .inl (fun j => iI ((vf_upd Y (((8 * md) + 3) : Int).toNat pt) j))))]) (w1 := [(mm, .inr (4, [.int (iI fl), .ref ta, .int (iI tz), .ref ka, .int (iI nn), .ref da, .ref ya, .int (iI pt54), .int (iI m1), .int (iI sx)])), (ta, .inl (cT, 4096, .inl (fun j => bI (t j))))]) hP hD [0, 1] [2] rfl rfl (by decide) (by decide) hk1 hFc hP1 hD1
        have hK := (hK.sub (tys' := [(cY, .int)]) [1] rfl).app hK1
        generalize H1 = H at hP hS ⊢
        have hP : va_P (dC, dI) vwCl [(ya, .inl (cY, 16400, .inl (fun j => iI ((vf_upd Y (((8 * md) + 3) : Int).toNat pt) j)))), (mm, .inr (4, [.int (iI fl), .ref ta, .int (iI tz), .ref ka, .int (iI nn), .ref da, .ref ya, .int (iI pt54), .int (iI m1), .int (iI sx)])), (ta, .inl (cT, 4096, .inl (fun j => bI (t j))))] H := hP
        have hD : va_D A [(ya, .inl (cY, 16400, .inl (fun j => iI ((vf_upd Y (((8 * md) + 3) : Int).toNat pt) j)))), (mm, .inr (4, [.int (iI fl), .ref ta, .int (iI tz), .ref ka, .int (iI nn), .ref da, .ref ya, .int (iI pt54), .int (iI m1), .int (iI sx)])), (ta, .inl (cT, 4096, .inl (fun j => bI (t j))))] := hD
        have hK : va_K (dC, dI) vwCl [(cY, .int), (cT, .byte)] s := hK
        obtain ⟨rfl, hpv53, hqv53, hrv53, rfl, rfl⟩ := hw
        refine W.eq (g2 := F0 m 120 ls [.int (iI q55)]) rfl ?_
        refine lv_istore (lv' := [(8, .int (iI q55)), (6, .long (lI z50)), (0, .ref mm), (1, .int (iI x)), (2, .int (iI pr)), (3, .int (iI dp)), (4, .int (iI md)), (5, .int (iI bb))]) hx hb dX4_value_120 hl (by decide) rfl (fun ls hl => ?_)
        refine lv_goto (tgt := 89) hx hb dX4_value_122 (by decide) ?_
        have hg0 : jj = pt + 1 → gd L (pt + 1) = gd L jj := fun h => by rw [h]
        have hgp1 : gd L (jj + 1) = gd L p1 := by rw [show p1 = jj + 1 by omega]
        exact ih bb z50 q55 (jj + 1) pt54 m1 _ _ _ _ _ (by omega) (by omega) (by omega) (by omega) (by omega) (Or.inr ⟨by omega, by omega, (hg8 _).2⟩) (fun h => absurd h (by omega)) (NR_go hN (by omega) (by omega) (by omega) rfl) (by omega) (hK.sub [1, 0] rfl) (hP.sub [1, 2, 0] rfl) (hD.sub [1, 2, 0] (by decide) rfl) hS (lv_sub hl [2, 3, 4, 5, 6, 7, 1, 0] rfl)
  refine lv_iload_n hx hb dX4_value_0 rfl (lv_at hl 3 rfl) ?_
  refine lv_bipush (v := iI 40) hx hb dX4_value_1 (by decide +kernel) ?_
  refine li_icmp_le (tgt := 8) hx hb (by omega) (by omega) dX4_value_3 (by decide) (fun c56 => ?_) (fun c56 => absurd c56 (by omega))
  refine lv_aload_n hx hb dX4_value_8 rfl (lv_at hl 0 rfl) ?_
  refine va_get (D := (dC, dI)) (ci := 4) (v := .int (iI md)) (C := RX4) (T := TX4) (N := 10) hx hb hT inX4 hown hK hP 0 rfl rfl 8 (by decide) (hT _ wd525) (fun _ h9 => h9) rfl dX4_value_9 ?_
  refine lv_istore (lv' := [(4, .int (iI md)), (0, .ref mm), (1, .int (iI x)), (2, .int (iI pr)), (3, .int (iI dp))]) hx hb dX4_value_12 hl (by decide) rfl (fun ls hl => ?_)
  refine lv_aload_n hx hb dX4_value_14 rfl (lv_at hl 1 rfl) ?_
  refine lv_dup hx hb dX4_value_15 rfl ?_
  refine va_get (D := (dC, dI)) (ci := 4) (v := .int (iI md)) (C := RX4) (T := TX4) (N := 10) hx hb hT inX4 hown hK hP 0 rfl rfl 8 (by decide) (hT _ wd525) (fun _ h9 => h9) rfl dX4_value_16 ?_
  refine lv_iconst (v := iI 1) hx hb dX4_value_19 rfl ?_
  refine li_iadd hx hb dX4_value_20 ?_
  refine li_nm (fun z57 ez57 => ?_)
  refine va_put (D := (dC, dI)) (ci := 4) (v := .int (iI z57)) (ty := .int) (C := RX4) (T := TX4) (N := 10) hx hb hT inX4 tyX4 tyX4_ok nX4 hown hK hP hD hS 0 rfl rfl 8 (by decide) (hT _ wd525) (fun _ h9 => h9) rfl (by decide +kernel) rfl rfl (Nat.le_of_ble_eq_true rfl) dX4_value_21 (fun H locs hP hD hS => ?_)
  have hP : va_P (dC, dI) vwCl [(mm, .inr (4, [.int (iI fl), .ref ta, .int (iI tz), .ref ka, .int (iI nn), .ref da, .ref ya, .int (iI pt), .int (iI z57), .int (iI sx)])), (ta, .inl (cT, 4096, .inl (fun j => bI (t j)))), (ya, .inl (cY, 16400, .inl (fun j => iI (Y j))))] H := hP
  have hD : va_D A [(mm, .inr (4, [.int (iI fl), .ref ta, .int (iI tz), .ref ka, .int (iI nn), .ref da, .ref ya, .int (iI pt), .int (iI z57), .int (iI sx)])), (ta, .inl (cT, 4096, .inl (fun j => bI (t j)))), (ya, .inl (cY, 16400, .inl (fun j => iI (Y j))))] := hD
  refine lv_aload_n hx hb dX4_value_24 rfl (lv_at hl 1 rfl) ?_
  refine va_get (D := (dC, dI)) (ci := 4) (v := .ref ya) (C := RX4) (T := TX4) (N := 10) hx hb hT inX4 hown hK hP 0 rfl rfl 6 (by decide) (hT _ wd523) (fun _ h9 => h9) rfl dX4_value_25 ?_
  refine lv_bipush (v := iI 8) hx hb dX4_value_28 (by decide +kernel) ?_
  refine lv_iload hx hb dX4_value_30 (lv_at hl 0 rfl) ?_
  refine li_imul hx hb dX4_value_32 ?_
  refine lv_iconst (v := iI 3) hx hb dX4_value_33 rfl ?_
  refine li_iadd hx hb dX4_value_34 ?_
  refine lv_aload_n hx hb dX4_value_35 rfl (lv_at hl 1 rfl) ?_
  refine va_get (D := (dC, dI)) (ci := 4) (v := .int (iI pt)) (C := RX4) (T := TX4) (N := 10) hx hb hT inX4 hown hK hP 0 rfl rfl 7 (by decide) (hT _ wd524) (fun _ h9 => h9) rfl dX4_value_36 ?_
  refine li_iast hx hb hK hP hD hS 2 1 rfl rfl (z := ((8 * md) + 3)) (by omega) (by omega) dX4_value_39 (fun H locs hP hD hS => ?_)
  have hP : va_P (dC, dI) vwCl [(mm, .inr (4, [.int (iI fl), .ref ta, .int (iI tz), .ref ka, .int (iI nn), .ref da, .ref ya, .int (iI pt), .int (iI z57), .int (iI sx)])), (ta, .inl (cT, 4096, .inl (fun j => bI (t j)))), (ya, .inl (cY, 16400, .inl (fun j => iI ((vf_upd Y (((8 * md) + 3) : Int).toNat pt) j))))] H := hP
  have hD : va_D A [(mm, .inr (4, [.int (iI fl), .ref ta, .int (iI tz), .ref ka, .int (iI nn), .ref da, .ref ya, .int (iI pt), .int (iI z57), .int (iI sx)])), (ta, .inl (cT, 4096, .inl (fun j => bI (t j)))), (ya, .inl (cY, 16400, .inl (fun j => iI ((vf_upd Y (((8 * md) + 3) : Int).toNat pt) j))))] := hD
  refine lv_aload_n hx hb dX4_value_40 rfl (lv_at hl 1 rfl) ?_
  have hPc := hP.sub (ws' := [(mm, .inr (4, [.int (iI fl), .ref ta, .int (iI tz), .ref ka, .int (iI nn), .ref da, .ref ya, .int (iI pt), .int (iI z57), .int (iI sx)])), (ta, .inl (cT, 4096, .inl (fun j => bI (t j))))]) [0, 1] rfl
  have hDc := hD.sub (ws' := [(mm, .inr (4, [.int (iI fl), .ref ta, .int (iI tz), .ref ka, .int (iI nn), .ref da, .ref ya, .int (iI pt), .int (iI z57), .int (iI sx)])), (ta, .inl (cT, 4096, .inl (fun j => bI (t j))))]) [0, 1] (by decide) rfl
  have hKc := hK.sub (tys' := [(cT, .byte)]) [0] rfl
  have hFc := va_free (wc := [(mm, .inr (4, [.int (iI fl), .ref ta, .int (iI tz), .ref ka, .int (iI nn), .ref da, .ref ya, .int (iI pt), .int (iI z57), .int (iI sx)])), (ta, .inl (cT, 4096, .inl (fun j => bI (t j))))]) hD hS hA [0, 1] rfl
  refine mv_call (mv_runV (As := []) (rest := []) ⟨hx, hb, hml, hown, hT⟩ (c_M_next l dC dI H.size mm fl ta tz ka nn da ya pt z57 sx cT t L (hok) (by omega)) (cwV 0 hT (gV wd572 wd574 wd18 wd30 wd575) rfl rfl rfl (by decide +kernel) ⟨show 0 + 1 ≤ (2 * (d + 1) + 5) from by omega, show 8 + (2 + 11) + 0 ≤ (60 * (d + 1) + 200) from by omega⟩) ⟨fun a U g mk q => by obtain ⟨q0, q1, qP, qK, qD⟩ := q; exact ⟨q0, q1, qP, va_K.moved (u := U) (U := U.calling g mk a) (Vm.Alike.refl U.vm) qK, qD⟩, va_recv hKc hPc (ci := 4) (q0 := 0) rfl rfl, fun U hU hW => ⟨rfl, by rw [hU], by rw [hU]; exact hPc, va_K.moved hW.alike hKc, hDc.weaken (fun _ _ _ _ => trivial)⟩⟩ rfl rfl hl.1 rfl (lv_room (Nat.le_of_ble_eq_true rfl)) dX4_value_41 ⟨show 0 + 0 ≤ 0 from by omega, show 0 + 0 ≤ 0 from by omega⟩) hS (fun q _ h => hFc q h) hFc (fun v60 u k58 n59 tS H1 locs ht hvm hw hB hz1 hk1 hS => ?_)
  obtain ⟨pt61, q62⟩ := u
  obtain ⟨hP1, hK1, hD1⟩ := hB
  rw [ht] at hP1
  have hK1 := va_K.moved hvm.symm hK1
  try dsimp only at hw
  obtain ⟨hP, hD⟩ := va_join (wr := [(ya, .inl (cY, 16400, .inl (fun j => iI ((vf_upd Y (((8 * md) + 3) : Int).toNat pt) j))))]) (w1 := [(mm, .inr (4, [.int (iI fl), .ref ta, .int (iI tz), .ref ka, .int (iI nn), .ref da, .ref ya, .int (iI pt61), .int (iI z57), .int (iI sx)])), (ta, .inl (cT, 4096, .inl (fun j => bI (t j))))]) hP hD [0, 1] [2] rfl rfl (by decide) (by decide) hk1 hFc hP1 hD1
  have hK := (hK.sub (tys' := [(cY, .int)]) [1] rfl).app hK1
  generalize H1 = H at hP hS ⊢
  have hP : va_P (dC, dI) vwCl [(ya, .inl (cY, 16400, .inl (fun j => iI ((vf_upd Y (((8 * md) + 3) : Int).toNat pt) j)))), (mm, .inr (4, [.int (iI fl), .ref ta, .int (iI tz), .ref ka, .int (iI nn), .ref da, .ref ya, .int (iI pt61), .int (iI z57), .int (iI sx)])), (ta, .inl (cT, 4096, .inl (fun j => bI (t j))))] H := hP
  have hD : va_D A [(ya, .inl (cY, 16400, .inl (fun j => iI ((vf_upd Y (((8 * md) + 3) : Int).toNat pt) j)))), (mm, .inr (4, [.int (iI fl), .ref ta, .int (iI tz), .ref ka, .int (iI nn), .ref da, .ref ya, .int (iI pt61), .int (iI z57), .int (iI sx)])), (ta, .inl (cT, 4096, .inl (fun j => bI (t j))))] := hD
  have hK : va_K (dC, dI) vwCl [(cY, .int), (cT, .byte)] s := hK
  obtain ⟨rfl, hpv60, hqv60, hrv60, rfl, rfl⟩ := hw
  refine W.eq (g2 := F0 m 44 ls [.int (iI q62)]) rfl ?_
  refine lv_istore (lv' := [(5, .int (iI q62)), (4, .int (iI md)), (0, .ref mm), (1, .int (iI x)), (2, .int (iI pr)), (3, .int (iI dp))]) hx hb dX4_value_44 hl (by decide) rfl (fun ls hl => ?_)
  refine lv_iload hx hb dX4_value_46 (lv_at hl 0 rfl) ?_
  refine li_if_ge (tgt := 53) hx hb (by omega) dX4_value_48 (by decide) (fun c63 => ?_) (fun c63 => ?_)
  · skip
    refine lv_iload hx hb dX4_value_53 (lv_at hl 0 rfl) ?_
    refine lv_bipush (v := iI 31) hx hb dX4_value_55 (by decide +kernel) ?_
    refine li_iand31 hx hb dX4_value_57 ?_
    refine li_i2l hx hb (by omega) dX4_value_58 ?_
    refine li_nml (fun z64 ez64 => ?_)
    refine lv_lstore (lv' := [(6, .long (lI z64)), (5, .int (iI q62)), (4, .int (iI md)), (0, .ref mm), (1, .int (iI x)), (2, .int (iI pr)), (3, .int (iI dp))]) hx hb dX4_value_59 hl (by decide) rfl (fun ls hl => ?_)
    refine lv_lload hx hb dX4_value_61 (lv_at hl 0 rfl) ?_
    refine lv_ldc2 (v := lI 31) hx hb hown (hT _ wd576) dX4_value_63 ?_
    refine li_lcmp_ne (tgt := 160) hx hb (by omega) (by omega) dX4_value_66 dX4_value_67 (by decide) (fun c65 => ?_) (fun c65 => ?_)
    · skip
      exact J160 (1) q62 z64 pt61 z57 _ _ _ _ _ (by omega) (by omega) (by omega) (by omega) (by by_cases hxx : x ≤ pt; exact Or.inr ⟨idn_0 hxx, by omega⟩; exact Or.inl (by rw [show pt61 = pt + 1 by omega]; exact idn_s (by omega) (by omega) (by omega) (by omega) (by rw [if_neg (by omega)]; omega))) (by omega) (hK.sub [1, 0] rfl) (hP.sub [1, 2, 0] rfl) (hD.sub [1, 2, 0] (by decide) rfl) hS (lv_sub hl [3, 4, 5, 6, 2, 1, 0] rfl)
    · skip
      refine lv_lconst (v := lI 0) hx hb dX4_value_70 (by decide +kernel) ?_
      refine lv_lstore (lv' := [(6, .long (lI 0)), (5, .int (iI q62)), (4, .int (iI md)), (0, .ref mm), (1, .int (iI x)), (2, .int (iI pr)), (3, .int (iI dp))]) hx hb dX4_value_71 hl (by decide) rfl (fun ls hl => ?_)
      refine lv_aload_n hx hb dX4_value_73 rfl (lv_at hl 3 rfl) ?_
      have hPc := hP.sub (ws' := [(mm, .inr (4, [.int (iI fl), .ref ta, .int (iI tz), .ref ka, .int (iI nn), .ref da, .ref ya, .int (iI pt61), .int (iI z57), .int (iI sx)])), (ta, .inl (cT, 4096, .inl (fun j => bI (t j))))]) [1, 2] rfl
      have hDc := hD.sub (ws' := [(mm, .inr (4, [.int (iI fl), .ref ta, .int (iI tz), .ref ka, .int (iI nn), .ref da, .ref ya, .int (iI pt61), .int (iI z57), .int (iI sx)])), (ta, .inl (cT, 4096, .inl (fun j => bI (t j))))]) [1, 2] (by decide) rfl
      have hKc := hK.sub (tys' := [(cT, .byte)]) [1] rfl
      have hFc := va_free (wc := [(mm, .inr (4, [.int (iI fl), .ref ta, .int (iI tz), .ref ka, .int (iI nn), .ref da, .ref ya, .int (iI pt61), .int (iI z57), .int (iI sx)])), (ta, .inl (cT, 4096, .inl (fun j => bI (t j))))]) hD hS hA [1, 2] rfl
      refine mv_call (mv_runV (As := []) (rest := []) ⟨hx, hb, hml, hown, hT⟩ (c_M_next l dC dI H.size mm fl ta tz ka nn da ya pt61 z57 sx cT t L (hok) (by omega)) (cwV 0 hT (gV wd572 wd574 wd18 wd30 wd575) rfl rfl rfl (by decide +kernel) ⟨show 0 + 1 ≤ (2 * (d + 1) + 5) from by omega, show 8 + (2 + 11) + 0 ≤ (60 * (d + 1) + 200) from by omega⟩) ⟨fun a U g mk q => by obtain ⟨q0, q1, qP, qK, qD⟩ := q; exact ⟨q0, q1, qP, va_K.moved (u := U) (U := U.calling g mk a) (Vm.Alike.refl U.vm) qK, qD⟩, va_recv hKc hPc (ci := 4) (q0 := 0) rfl rfl, fun U hU hW => ⟨rfl, by rw [hU], by rw [hU]; exact hPc, va_K.moved hW.alike hKc, hDc.weaken (fun _ _ _ _ => trivial)⟩⟩ rfl rfl hl.1 rfl (lv_room (Nat.le_of_ble_eq_true rfl)) dX4_value_74 ⟨show 0 + 0 + 0 ≤ 0 from by omega, show 0 + 0 + 0 ≤ 0 from by omega⟩) hS (fun q _ h => hFc q h) hFc (fun v68 u k66 n67 tS H1 locs ht hvm hw hB hz1 hk1 hS => ?_)
      obtain ⟨pt69, q70⟩ := u
      obtain ⟨hP1, hK1, hD1⟩ := hB
      rw [ht] at hP1
      have hK1 := va_K.moved hvm.symm hK1
      try dsimp only at hw
      obtain ⟨hP, hD⟩ := va_join (wr := [(ya, .inl (cY, 16400, .inl (fun j => iI ((vf_upd Y (((8 * md) + 3) : Int).toNat pt) j))))]) (w1 := [(mm, .inr (4, [.int (iI fl), .ref ta, .int (iI tz), .ref ka, .int (iI nn), .ref da, .ref ya, .int (iI pt69), .int (iI z57), .int (iI sx)])), (ta, .inl (cT, 4096, .inl (fun j => bI (t j))))]) hP hD [1, 2] [0] rfl rfl (by decide) (by decide) hk1 hFc hP1 hD1
      have hK := (hK.sub (tys' := [(cY, .int)]) [0] rfl).app hK1
      generalize H1 = H at hP hS ⊢
      have hP : va_P (dC, dI) vwCl [(ya, .inl (cY, 16400, .inl (fun j => iI ((vf_upd Y (((8 * md) + 3) : Int).toNat pt) j)))), (mm, .inr (4, [.int (iI fl), .ref ta, .int (iI tz), .ref ka, .int (iI nn), .ref da, .ref ya, .int (iI pt69), .int (iI z57), .int (iI sx)])), (ta, .inl (cT, 4096, .inl (fun j => bI (t j))))] H := hP
      have hD : va_D A [(ya, .inl (cY, 16400, .inl (fun j => iI ((vf_upd Y (((8 * md) + 3) : Int).toNat pt) j)))), (mm, .inr (4, [.int (iI fl), .ref ta, .int (iI tz), .ref ka, .int (iI nn), .ref da, .ref ya, .int (iI pt69), .int (iI z57), .int (iI sx)])), (ta, .inl (cT, 4096, .inl (fun j => bI (t j))))] := hD
      have hK : va_K (dC, dI) vwCl [(cY, .int), (cT, .byte)] s := hK
      obtain ⟨rfl, hpv68, hqv68, hrv68, rfl, rfl⟩ := hw
      refine W.eq (g2 := F0 m 77 ls [.int (iI q70)]) rfl ?_
      refine lv_istore (lv' := [(8, .int (iI q70)), (6, .long (lI 0)), (5, .int (iI q62)), (4, .int (iI md)), (0, .ref mm), (1, .int (iI x)), (2, .int (iI pr)), (3, .int (iI dp))]) hx hb dX4_value_77 hl (by decide) rfl (fun ls hl => ?_)
      refine lv_iload hx hb dX4_value_79 (lv_at hl 0 rfl) ?_
      refine lv_sipush (v := iI 128) hx hb dX4_value_81 (by decide +kernel) ?_
      refine li_icmp_ne (tgt := 89) hx hb (by omega) (by omega) dX4_value_84 (by decide) (fun c71 => ?_) (fun c71 => ?_)
      · skip
        have hgx : gd L (pt + 1) = gd L pt61 := by rw [show pt61 = pt + 1 by omega]
        exact LN (5000) q62 0 q70 (pt + 1) pt69 z57 _ _ _ _ _ (by omega) (by omega) (by omega) (by omega) (by omega) (Or.inl ⟨rfl, rfl⟩) (fun _ => by omega) (NR_0 (gd L) x (pt + 1)) (by omega) (hK.sub [1, 0] rfl) (hP.sub [1, 2, 0] rfl) (hD.sub [1, 2, 0] (by decide) rfl) hS (lv_sub hl [4, 5, 6, 7, 3, 2, 1, 0] rfl)
      · skip
        refine lv_iconst (v := iI 0) hx hb dX4_value_87 rfl ?_
        have hg1 : gd L (pt + 1) % 128 = 0 := by rw [show pt + 1 = pt61 by omega]; omega
        subst hQ9
        have hP9 := hP.sub (ws' := [(mm, .inr (4, [.int (iI fl), .ref ta, .int (iI tz), .ref ka, .int (iI nn), .ref da, .ref ya, .int (iI pt69), .int (iI z57), .int (iI sx)])), (ta, .inl (cT, 4096, .inl (fun j => bI (t j)))), (ya, .inl (cY, 16400, .inl (fun j => iI ((vf_upd Y (((8 * md) + 3) : Int).toNat pt) j))))]) [1, 2, 0] rfl
        have hD9 := hD.sub (ws' := [(mm, .inr (4, [.int (iI fl), .ref ta, .int (iI tz), .ref ka, .int (iI nn), .ref da, .ref ya, .int (iI pt69), .int (iI z57), .int (iI sx)])), (ta, .inl (cT, 4096, .inl (fun j => bI (t j)))), (ya, .inl (cY, 16400, .inl (fun j => iI ((vf_upd Y (((8 * md) + 3) : Int).toNat pt) j))))]) [1, 2, 0] (by decide) rfl
        have hK9 := hK.sub (tys' := [(cT, .byte), (cY, .int)]) [1, 0] rfl
        exact mv_zret hx hb hr (zb_n (by omega)) hlocks (fun tS ht hW => ⟨⟨_, ((vf_upd Y (((8 * md) + 3) : Int).toNat pt), pt69, z57, 0), rfl, ⟨rfl, Or.inl ⟨rfl, layV_x (hdr_0 (idn_128 (by omega) hg1))⟩, by omega, by omega⟩, by rw [ht]; exact hP9, va_K.moved hW.alike hK9, hD9⟩, hS.F ht⟩) hS.2.2 dX4_value_88
  · skip
    refine lv_iconst (v := iI 0) hx hb dX4_value_51 rfl ?_
    subst hQ9
    have hP9 := hP.sub (ws' := [(mm, .inr (4, [.int (iI fl), .ref ta, .int (iI tz), .ref ka, .int (iI nn), .ref da, .ref ya, .int (iI pt61), .int (iI z57), .int (iI sx)])), (ta, .inl (cT, 4096, .inl (fun j => bI (t j)))), (ya, .inl (cY, 16400, .inl (fun j => iI ((vf_upd Y (((8 * md) + 3) : Int).toNat pt) j))))]) [1, 2, 0] rfl
    have hD9 := hD.sub (ws' := [(mm, .inr (4, [.int (iI fl), .ref ta, .int (iI tz), .ref ka, .int (iI nn), .ref da, .ref ya, .int (iI pt61), .int (iI z57), .int (iI sx)])), (ta, .inl (cT, 4096, .inl (fun j => bI (t j)))), (ya, .inl (cY, 16400, .inl (fun j => iI ((vf_upd Y (((8 * md) + 3) : Int).toNat pt) j))))]) [1, 2, 0] (by decide) rfl
    have hK9 := hK.sub (tys' := [(cT, .byte), (cY, .int)]) [1, 0] rfl
    exact mv_zret hx hb hr (zb_n (by omega)) hlocks (fun tS ht hW => ⟨⟨_, ((vf_upd Y (((8 * md) + 3) : Int).toNat pt), pt61, z57, 0), rfl, ⟨rfl, Or.inl ⟨rfl, layV_x (hdr_0 (idn_0 (by omega)))⟩, by omega, by omega⟩, by rw [ht]; exact hP9, va_K.moved hW.alike hK9, hD9⟩, hS.F ht⟩) hS.2.2 dX4_value_52
theorem MV_all (l : Launch) (dC : Nat → ClassId) (dI : Nat → Nat → Nat) : ∀ d : Nat, MV l dC dI d
  | 0 => MV_0 l dC dI
  | d + 1 => MV_s l dC dI d (MV_all l dC dI d) (MO_of l dC dI d (MV_all l dC dI d))
