set_option maxHeartbeats 4000000 in
set_option maxRecDepth 100000 in
theorem c_M_read (l : Launch) (dC : Nat → ClassId) (dI : Nat → Nat → Nat) (sz : Nat) (mm : Nat) (fl : Int) (ta : Nat) (tz : Int) (ka : Nat) (nn : Int) (da : Nat) (ya : Nat) (pt : Int) (md : Int) (sx : Int) (cT : ClassId) (t : Nat → Int) (L : List Int) (cK : ClassId) (kt : Nat → Int) (cD : ClassId) (Vt : Nat → Int) (cY : ClassId) (Y : Nat → Int) (sy : Int) (hok : okB 4096 t tz L) (hsy : sy = 0 ∨ sy = 1) (hk8 : ∀ j, 0 ≤ kt j ∧ kt j < 256) : mv_Met l yX4_read wsX4_read ({ frames := 90, cells := 0, slots := 0, locals := 2700 }) (va_Pc [.ref mm, .int (iI sy)] (fun U => U.heap.size = sz ∧ va_P (dC, dI) vwCl [(mm, .inr (4, [.int (iI fl), .ref ta, .int (iI tz), .ref ka, .int (iI nn), .ref da, .ref ya, .int (iI pt), .int (iI md), .int (iI sx)])), (ta, .inl (cT, 4096, .inl (fun j => bI (t j)))), (ka, .inl (cK, 4096, .inl (fun j => bI (kt j)))), (da, .inl (cD, 16400, .inl (fun j => iI (Vt j)))), (ya, .inl (cY, 16400, .inl (fun j => iI (Y j))))] U.heap ∧ va_K (dC, dI) vwCl [(cT, .byte), (cK, .byte), (cD, .int), (cY, .int)] U ∧ va_D (fun _ => True) [(mm, .inr (4, [.int (iI fl), .ref ta, .int (iI tz), .ref ka, .int (iI nn), .ref da, .ref ya, .int (iI pt), .int (iI md), .int (iI sx)])), (ta, .inl (cT, 4096, .inl (fun j => bI (t j)))), (ka, .inl (cK, 4096, .inl (fun j => bI (kt j)))), (da, .inl (cD, 16400, .inl (fun j => iI (Vt j)))), (ya, .inl (cY, 16400, .inl (fun j => iI (Y j))))])) (mv_Q (fun (v : Option Value) (u : Int × Int × Int × Int × (Nat → Int) × (Nat → Int) × (Nat → Int) × Int) (k n : Nat) => match u with | (fl', nn', pt', md', kt', Vt', Y', q') => v = some (.int (iI q')) ∧ ((fl' = 0 ∧ ∃ W : Nat → Int, rdS L sy = some (nn', W) ∧ eqN Vt' W nn' ∧ okB 4096 kt' tz L ∧ q' = nn') ∨ (fl' = 1 ∧ rdS L sy = none ∧ nn' = nn ∧ kt' = kt ∧ Vt' = Vt)) ∧ k = 0 ∧ n = 0) (fun (u : Int × Int × Int × Int × (Nat → Int) × (Nat → Int) × (Nat → Int) × Int) (tS : State) => match u with | (fl', nn', pt', md', kt', Vt', Y', q') => va_P (dC, dI) vwCl [(mm, .inr (4, [.int (iI fl'), .ref ta, .int (iI tz), .ref ka, .int (iI nn'), .ref da, .ref ya, .int (iI pt'), .int (iI md'), .int (iI sy)])), (ta, .inl (cT, 4096, .inl (fun j => bI (t j)))), (ka, .inl (cK, 4096, .inl (fun j => bI (kt' j)))), (da, .inl (cD, 16400, .inl (fun j => iI (Vt' j)))), (ya, .inl (cY, 16400, .inl (fun j => iI (Y' j))))] tS.heap ∧ va_K (dC, dI) vwCl [(cT, .byte), (cK, .byte), (cD, .int), (cY, .int)] tS ∧ va_D (va_A [(mm, .inr (4, [.int (iI fl), .ref ta, .int (iI tz), .ref ka, .int (iI nn), .ref da, .ref ya, .int (iI pt), .int (iI md), .int (iI sx)])), (ta, .inl (cT, 4096, .inl (fun j => bI (t j)))), (ka, .inl (cK, 4096, .inl (fun j => bI (kt j)))), (da, .inl (cD, 16400, .inl (fun j => iI (Vt j)))), (ya, .inl (cY, 16400, .inl (fun j => iI (Y j))))] sz) [(mm, .inr (4, [.int (iI fl'), .ref ta, .int (iI tz), .ref ka, .int (iI nn'), .ref da, .ref ya, .int (iI pt'), .int (iI md'), .int (iI sy)])), (ta, .inl (cT, 4096, .inl (fun j => bI (t j)))), (ka, .inl (cK, 4096, .inl (fun j => bI (kt' j)))), (da, .inl (cD, 16400, .inl (fun j => iI (Vt' j)))), (ya, .inl (cY, 16400, .inl (fun j => iI (Y' j))))]) (va_A [(mm, .inr (4, [.int (iI fl), .ref ta, .int (iI tz), .ref ka, .int (iI nn), .ref da, .ref ya, .int (iI pt), .int (iI md), .int (iI sx)])), (ta, .inl (cT, 4096, .inl (fun j => bI (t j)))), (ka, .inl (cK, 4096, .inl (fun j => bI (kt j)))), (da, .inl (cD, 16400, .inl (fun j => iI (Vt j)))), (ya, .inl (cY, 16400, .inl (fun j => iI (Y j))))] sz)) (va_A [(mm, .inr (4, [.int (iI fl), .ref ta, .int (iI tz), .ref ka, .int (iI nn), .ref da, .ref ya, .int (iI pt), .int (iI md), .int (iI sx)])), (ta, .inl (cT, 4096, .inl (fun j => bI (t j)))), (ka, .inl (cK, 4096, .inl (fun j => bI (kt j)))), (da, .inl (cD, 16400, .inl (fun j => iI (Vt j)))), (ya, .inl (cY, 16400, .inl (fun j => iI (Y j))))] sz) := by
  refine mv_ofW (cc := cX4_read) (maxL := 3) (ret := (some .int)) (by decide) rfl ?_
  intro p e s m args below meth c s₁ B hml hv
  obtain ⟨rfl, hsz, hP, hK, hD0⟩ := hv
  have hx := B.exec
  have hb := B.bytes
  have hr := B.returns
  have hT : ∀ w ∈ wT, w.before _ s = true := fun w h => atoms_spec (ws := wsX4_read) B.pre w (List.mem_cons_of_mem _ h)
  have hown : s.vm.findClass RX4 = some m.cls := findClass_of_methodNamed B.named
  have hlocks := B.notSynchronized
  subst hsz
  have hD := hD0.self (sz := s.heap.size)
  generalize hAe : va_A [(mm, .inr (4, [.int (iI fl), .ref ta, .int (iI tz), .ref ka, .int (iI nn), .ref da, .ref ya, .int (iI pt), .int (iI md), .int (iI sx)])), (ta, .inl (cT, 4096, .inl (fun j => bI (t j)))), (ka, .inl (cK, 4096, .inl (fun j => bI (kt j)))), (da, .inl (cD, 16400, .inl (fun j => iI (Vt j)))), (ya, .inl (cY, 16400, .inl (fun j => iI (Y j))))] s.heap.size = A at hD ⊢
  have hA : ∀ q : Nat, s.heap.size ≤ q → A q := fun q h => by rw [← hAe]; exact Or.inr h
  have hS : va_S A s.heap s.heap [] := va_S.rf
  have hP : va_P (dC, dI) vwCl [(mm, .inr (4, [.int (iI fl), .ref ta, .int (iI tz), .ref ka, .int (iI nn), .ref da, .ref ya, .int (iI pt), .int (iI md), .int (iI sx)])), (ta, .inl (cT, 4096, .inl (fun j => bI (t j)))), (ka, .inl (cK, 4096, .inl (fun j => bI (kt j)))), (da, .inl (cD, 16400, .inl (fun j => iI (Vt j)))), (ya, .inl (cY, 16400, .inl (fun j => iI (Y j))))] s.heap := hP
  have hl := lv_entry ([.ref mm, .int (iI sy)]) (n := 3) (Nat.le_of_ble_eq_true rfl)
  rw [lg_entry_eq]
  generalize (lg_sl ([.ref mm, .int (iI sy)]) ++ List.replicate (3 - (lg_sl ([.ref mm, .int (iI sy)])).length) Slot.unset).toArray = ls at hl ⊢
  have hl : lv_has ls 3 [(0, .ref mm), (1, .int (iI sy))] := hl
  obtain ⟨hw1, hw2, hw3, hw4, hw5, hw6⟩ := id hok
  have hg8 := gd_rng hok
  refine mv_nameQ (fun Q9 hQ9 => ?_)
  have LK : ∀ (fu : Nat) (jj : Int) (N : Int) (p1 : Int) (Y1 : Nat → Int) (W9 : Nat → Int) (k1 : Nat → Int) (V1 : Nat → Int) (H : Heap) (locs : List Loc) (ls : Array Slot) (kc ks : Nat), (tz - jj < (fu : Int)) → (0 ≤ jj ∧ jj ≤ tz) → (0 ≤ N ∧ N ≤ 2048 ∧ p1 = tz) → (rdS L sy = some (N, W9)) → (∀ j : Nat, (j : Int) < 8 * N → Y1 j = W9 j) → (∀ j : Nat, (j : Int) < 8 * N → V1 j = W9 j) → (∀ j, 0 ≤ k1 j ∧ k1 j < 256) → (∀ j : Nat, (j : Int) < jj → k1 j = t j) → (kc = 0 ∧ ks = 0) → va_K (dC, dI) vwCl [(cT, .byte), (cK, .byte), (cD, .int), (cY, .int)] s → va_P (dC, dI) vwCl [(mm, .inr (4, [.int (iI 0), .ref ta, .int (iI tz), .ref ka, .int (iI N), .ref da, .ref ya, .int (iI p1), .int (iI N), .int (iI sy)])), (ta, .inl (cT, 4096, .inl (fun j => bI (t j)))), (ka, .inl (cK, 4096, .inl (fun j => bI (k1 j)))), (da, .inl (cD, 16400, .inl (fun j => iI (V1 j)))), (ya, .inl (cY, 16400, .inl (fun j => iI (Y1 j))))] H → va_D A [(mm, .inr (4, [.int (iI 0), .ref ta, .int (iI tz), .ref ka, .int (iI N), .ref da, .ref ya, .int (iI p1), .int (iI N), .int (iI sy)])), (ta, .inl (cT, 4096, .inl (fun j => bI (t j)))), (ka, .inl (cK, 4096, .inl (fun j => bI (k1 j)))), (da, .inl (cD, 16400, .inl (fun j => iI (V1 j)))), (ya, .inl (cY, 16400, .inl (fun j => iI (Y1 j))))] → va_S A s.heap H locs → lv_has ls 3 [(0, .ref mm), (1, .int (iI sy)), (2, .int (iI jj))] → W p l e ({ frames := 90, cells := 0, slots := 0, locals := 2700 }) s m ([.ref mm, .int (iI sy)] : List Value).toArray below meth c H locs kc ks Q9 (F0 m 91 ls []) := by
    intro fu
    induction fu with
    | zero =>
      intro jj N p1 Y1 W9 k1 V1 H locs ls kc ks hfu hj hN hWr hYW hV1 hk1 hkc1 hkc hK hP hD hS hl
      exfalso
      omega
    | succ fu ih =>
      intro jj N p1 Y1 W9 k1 V1 H locs ls kc ks hfu hj hN hWr hYW hV1 hk1 hkc1 hkc hK hP hD hS hl
      refine lv_iload_n hx hb dX4_read_91 rfl (lv_at hl 2 rfl) ?_
      refine lv_aload_n hx hb dX4_read_92 rfl (lv_at hl 0 rfl) ?_
      refine va_get (D := (dC, dI)) (ci := 4) (v := .int (iI tz)) (C := RX4) (T := TX4) (N := 10) hx hb hT inX4 hown hK hP 0 rfl rfl 2 (by decide) (hT _ wd519) (fun _ h9 => h9) rfl dX4_read_93 ?_
      refine li_icmp_ge (tgt := 117) hx hb (by omega) (by omega) dX4_read_96 (by decide) (fun c1 => ?_) (fun c1 => ?_)
      · skip
        refine lv_aload_n hx hb dX4_read_117 rfl (lv_at hl 0 rfl) ?_
        refine va_get (D := (dC, dI)) (ci := 4) (v := .int (iI N)) (C := RX4) (T := TX4) (N := 10) hx hb hT inX4 hown hK hP 0 rfl rfl 4 (by decide) (hT _ wd521) (fun _ h9 => h9) rfl dX4_read_118 ?_
        have hkk : okB 4096 k1 tz L := ⟨hw1, hw2, hw3, hw4, hk1, fun j hj => (hkc1 j (by omega)).trans (hw6 j hj)⟩
        subst hQ9
        have hP9 := hP.sub (ws' := [(mm, .inr (4, [.int (iI 0), .ref ta, .int (iI tz), .ref ka, .int (iI N), .ref da, .ref ya, .int (iI p1), .int (iI N), .int (iI sy)])), (ta, .inl (cT, 4096, .inl (fun j => bI (t j)))), (ka, .inl (cK, 4096, .inl (fun j => bI (k1 j)))), (da, .inl (cD, 16400, .inl (fun j => iI (V1 j)))), (ya, .inl (cY, 16400, .inl (fun j => iI (Y1 j))))]) [0, 1, 2, 3, 4] rfl
        have hD9 := hD.sub (ws' := [(mm, .inr (4, [.int (iI 0), .ref ta, .int (iI tz), .ref ka, .int (iI N), .ref da, .ref ya, .int (iI p1), .int (iI N), .int (iI sy)])), (ta, .inl (cT, 4096, .inl (fun j => bI (t j)))), (ka, .inl (cK, 4096, .inl (fun j => bI (k1 j)))), (da, .inl (cD, 16400, .inl (fun j => iI (V1 j)))), (ya, .inl (cY, 16400, .inl (fun j => iI (Y1 j))))]) [0, 1, 2, 3, 4] (by decide) rfl
        have hK9 := hK.sub (tys' := [(cT, .byte), (cK, .byte), (cD, .int), (cY, .int)]) [0, 1, 2, 3] rfl
        exact mv_iret hx hb hr hlocks (fun tS ht hW => ⟨⟨_, (0, N, p1, N, k1, V1, Y1, N), rfl, ⟨rfl, Or.inl ⟨rfl, W9, hWr, hV1, hkk, rfl⟩, by omega, by omega⟩, by rw [ht]; exact hP9, va_K.moved hW.alike hK9, hD9⟩, hS.F ht⟩) hS.2.2 dX4_read_121
      · skip
        refine lv_aload_n hx hb dX4_read_99 rfl (lv_at hl 0 rfl) ?_
        refine va_get (D := (dC, dI)) (ci := 4) (v := .ref ka) (C := RX4) (T := TX4) (N := 10) hx hb hT inX4 hown hK hP 0 rfl rfl 3 (by decide) (hT _ wd520) (fun _ h9 => h9) rfl dX4_read_100 ?_
        refine lv_iload_n hx hb dX4_read_103 rfl (lv_at hl 2 rfl) ?_
        refine lv_aload_n hx hb dX4_read_104 rfl (lv_at hl 0 rfl) ?_
        refine va_get (D := (dC, dI)) (ci := 4) (v := .ref ta) (C := RX4) (T := TX4) (N := 10) hx hb hT inX4 hown hK hP 0 rfl rfl 1 (by decide) (hT _ wd518) (fun _ h9 => h9) rfl dX4_read_105 ?_
        refine lv_iload_n hx hb dX4_read_108 rfl (lv_at hl 2 rfl) ?_
        refine li_bald hx hb hK hP 1 0 rfl rfl (z := jj) (by omega) (by omega) dX4_read_109 ?_
        refine li_bast hx hb hK hP hD hS 2 1 rfl rfl (z := jj) (by omega) (by omega) dX4_read_110 (fun H locs hP hD hS => ?_)
        have hP : va_P (dC, dI) vwCl [(mm, .inr (4, [.int (iI 0), .ref ta, .int (iI tz), .ref ka, .int (iI N), .ref da, .ref ya, .int (iI p1), .int (iI N), .int (iI sy)])), (ta, .inl (cT, 4096, .inl (fun j => bI (t j)))), (ka, .inl (cK, 4096, .inl (fun j => bI ((vf_upd k1 (jj : Int).toNat (t (jj : Int).toNat)) j)))), (da, .inl (cD, 16400, .inl (fun j => iI (V1 j)))), (ya, .inl (cY, 16400, .inl (fun j => iI (Y1 j))))] H := hP
        have hD : va_D A [(mm, .inr (4, [.int (iI 0), .ref ta, .int (iI tz), .ref ka, .int (iI N), .ref da, .ref ya, .int (iI p1), .int (iI N), .int (iI sy)])), (ta, .inl (cT, 4096, .inl (fun j => bI (t j)))), (ka, .inl (cK, 4096, .inl (fun j => bI ((vf_upd k1 (jj : Int).toNat (t (jj : Int).toNat)) j)))), (da, .inl (cD, 16400, .inl (fun j => iI (V1 j)))), (ya, .inl (cY, 16400, .inl (fun j => iI (Y1 j))))] := hD
        obtain ⟨z2, ez2⟩ : ∃ y : Int, y = jj + 1 := ⟨_, rfl⟩
        refine lv_iinc (v := iI z2) (lv' := [(2, .int (iI z2)), (0, .ref mm), (1, .int (iI sy))]) hx hb dX4_read_111 hl (k := 2) rfl (by rw [ez2]; exact iI_add _ _) (by decide) rfl (fun ls hl => ?_)
        refine lv_goto (tgt := 91) hx hb dX4_read_114 (by decide) ?_
        exact ih z2 N p1 Y1 W9 (vf_upd k1 (jj : Int).toNat (t (jj : Int).toNat)) V1 _ _ _ _ _ (by omega) (by omega) (by omega) (hWr) (hYW) (hV1) (fun j => by unfold vf_upd; split; exact hw5 _; exact hk1 j) (fun j hj => by unfold vf_upd; by_cases e9 : j = (jj : Int).toNat; rw [if_pos e9, e9]; rw [if_neg e9]; exact hkc1 j (by omega)) (by omega) (hK.sub [0, 1, 2, 3] rfl) (hP.sub [0, 1, 2, 3, 4] rfl) (hD.sub [0, 1, 2, 3, 4] (by decide) rfl) hS (lv_sub hl [1, 2, 0] rfl)
  have LT : ∀ (fu : Nat) (jj : Int) (N : Int) (p1 : Int) (Y1 : Nat → Int) (W9 : Nat → Int) (V1 : Nat → Int) (H : Heap) (locs : List Loc) (ls : Array Slot) (kc ks : Nat), (8 * N - jj < (fu : Int)) → (0 ≤ jj ∧ jj ≤ 8 * N) → (0 ≤ N ∧ N ≤ 2048 ∧ p1 = tz) → (rdS L sy = some (N, W9)) → (∀ j : Nat, (j : Int) < 8 * N → Y1 j = W9 j) → (∀ j : Nat, (j : Int) < jj → V1 j = W9 j) → (kc = 0 ∧ ks = 0) → va_K (dC, dI) vwCl [(cT, .byte), (cK, .byte), (cD, .int), (cY, .int)] s → va_P (dC, dI) vwCl [(mm, .inr (4, [.int (iI 0), .ref ta, .int (iI tz), .ref ka, .int (iI N), .ref da, .ref ya, .int (iI p1), .int (iI N), .int (iI sy)])), (ta, .inl (cT, 4096, .inl (fun j => bI (t j)))), (ka, .inl (cK, 4096, .inl (fun j => bI (kt j)))), (da, .inl (cD, 16400, .inl (fun j => iI (V1 j)))), (ya, .inl (cY, 16400, .inl (fun j => iI (Y1 j))))] H → va_D A [(mm, .inr (4, [.int (iI 0), .ref ta, .int (iI tz), .ref ka, .int (iI N), .ref da, .ref ya, .int (iI p1), .int (iI N), .int (iI sy)])), (ta, .inl (cT, 4096, .inl (fun j => bI (t j)))), (ka, .inl (cK, 4096, .inl (fun j => bI (kt j)))), (da, .inl (cD, 16400, .inl (fun j => iI (V1 j)))), (ya, .inl (cY, 16400, .inl (fun j => iI (Y1 j))))] → va_S A s.heap H locs → lv_has ls 3 [(0, .ref mm), (1, .int (iI sy)), (2, .int (iI jj))] → W p l e ({ frames := 90, cells := 0, slots := 0, locals := 2700 }) s m ([.ref mm, .int (iI sy)] : List Value).toArray below meth c H locs kc ks Q9 (F0 m 60 ls []) := by
    intro fu
    induction fu with
    | zero =>
      intro jj N p1 Y1 W9 V1 H locs ls kc ks hfu hj hN hWr hYW hV1 hkc hK hP hD hS hl
      exfalso
      omega
    | succ fu ih =>
      intro jj N p1 Y1 W9 V1 H locs ls kc ks hfu hj hN hWr hYW hV1 hkc hK hP hD hS hl
      refine lv_iload_n hx hb dX4_read_60 rfl (lv_at hl 2 rfl) ?_
      refine lv_bipush (v := iI 8) hx hb dX4_read_61 (by decide +kernel) ?_
      refine lv_aload_n hx hb dX4_read_63 rfl (lv_at hl 0 rfl) ?_
      refine va_get (D := (dC, dI)) (ci := 4) (v := .int (iI N)) (C := RX4) (T := TX4) (N := 10) hx hb hT inX4 hown hK hP 0 rfl rfl 4 (by decide) (hT _ wd521) (fun _ h9 => h9) rfl dX4_read_64 ?_
      refine li_imul hx hb dX4_read_67 ?_
      refine li_icmp_ge (tgt := 89) hx hb (by omega) (by omega) dX4_read_68 (by decide) (fun c3 => ?_) (fun c3 => ?_)
      · skip
        refine lv_iconst (v := iI 0) hx hb dX4_read_89 rfl ?_
        refine lv_istore_n (lv' := [(2, .int (iI 0)), (0, .ref mm), (1, .int (iI sy))]) hx hb dX4_read_90 rfl hl (by decide) rfl (fun ls hl => ?_)
        exact LK (5000) 0 N p1 Y1 W9 kt V1 _ _ _ _ _ (by omega) (by omega) (by omega) (hWr) (hYW) (fun j hj => hV1 j (by omega)) (hk8) (fun j hj => absurd hj (by omega)) (by omega) (hK.sub [0, 1, 2, 3] rfl) (hP.sub [0, 1, 2, 3, 4] rfl) (hD.sub [0, 1, 2, 3, 4] (by decide) rfl) hS (lv_sub hl [1, 2, 0] rfl)
      · skip
        refine lv_aload_n hx hb dX4_read_71 rfl (lv_at hl 0 rfl) ?_
        refine va_get (D := (dC, dI)) (ci := 4) (v := .ref da) (C := RX4) (T := TX4) (N := 10) hx hb hT inX4 hown hK hP 0 rfl rfl 5 (by decide) (hT _ wd522) (fun _ h9 => h9) rfl dX4_read_72 ?_
        refine lv_iload_n hx hb dX4_read_75 rfl (lv_at hl 2 rfl) ?_
        refine lv_aload_n hx hb dX4_read_76 rfl (lv_at hl 0 rfl) ?_
        refine va_get (D := (dC, dI)) (ci := 4) (v := .ref ya) (C := RX4) (T := TX4) (N := 10) hx hb hT inX4 hown hK hP 0 rfl rfl 6 (by decide) (hT _ wd523) (fun _ h9 => h9) rfl dX4_read_77 ?_
        refine lv_iload_n hx hb dX4_read_80 rfl (lv_at hl 2 rfl) ?_
        refine li_iald hx hb hK hP 4 3 rfl rfl (z := jj) (by omega) (by omega) dX4_read_81 ?_
        refine li_iast hx hb hK hP hD hS 3 2 rfl rfl (z := jj) (by omega) (by omega) dX4_read_82 (fun H locs hP hD hS => ?_)
        have hP : va_P (dC, dI) vwCl [(mm, .inr (4, [.int (iI 0), .ref ta, .int (iI tz), .ref ka, .int (iI N), .ref da, .ref ya, .int (iI p1), .int (iI N), .int (iI sy)])), (ta, .inl (cT, 4096, .inl (fun j => bI (t j)))), (ka, .inl (cK, 4096, .inl (fun j => bI (kt j)))), (da, .inl (cD, 16400, .inl (fun j => iI ((vf_upd V1 (jj : Int).toNat (Y1 (jj : Int).toNat)) j)))), (ya, .inl (cY, 16400, .inl (fun j => iI (Y1 j))))] H := hP
        have hD : va_D A [(mm, .inr (4, [.int (iI 0), .ref ta, .int (iI tz), .ref ka, .int (iI N), .ref da, .ref ya, .int (iI p1), .int (iI N), .int (iI sy)])), (ta, .inl (cT, 4096, .inl (fun j => bI (t j)))), (ka, .inl (cK, 4096, .inl (fun j => bI (kt j)))), (da, .inl (cD, 16400, .inl (fun j => iI ((vf_upd V1 (jj : Int).toNat (Y1 (jj : Int).toNat)) j)))), (ya, .inl (cY, 16400, .inl (fun j => iI (Y1 j))))] := hD
        obtain ⟨z4, ez4⟩ : ∃ y : Int, y = jj + 1 := ⟨_, rfl⟩
        refine lv_iinc (v := iI z4) (lv' := [(2, .int (iI z4)), (0, .ref mm), (1, .int (iI sy))]) hx hb dX4_read_83 hl (k := 2) rfl (by rw [ez4]; exact iI_add _ _) (by decide) rfl (fun ls hl => ?_)
        refine lv_goto (tgt := 60) hx hb dX4_read_86 (by decide) ?_
        exact ih z4 N p1 Y1 W9 (vf_upd V1 (jj : Int).toNat (Y1 (jj : Int).toNat)) _ _ _ _ _ (by omega) (by omega) (by omega) (hWr) (hYW) (fun j hj => by unfold vf_upd; by_cases e9 : j = (jj : Int).toNat; rw [if_pos e9, e9]; exact hYW _ (by omega); rw [if_neg e9]; exact hV1 j (by omega)) (by omega) (hK.sub [0, 1, 2, 3] rfl) (hP.sub [0, 1, 2, 3, 4] rfl) (hD.sub [0, 1, 2, 3, 4] (by decide) rfl) hS (lv_sub hl [1, 2, 0] rfl)
  refine lv_aload_n hx hb dX4_read_0 rfl (lv_at hl 0 rfl) ?_
  refine lv_iconst (v := iI 0) hx hb dX4_read_1 rfl ?_
  refine va_put (D := (dC, dI)) (ci := 4) (v := .int (iI 0)) (ty := .int) (C := RX4) (T := TX4) (N := 10) hx hb hT inX4 tyX4 tyX4_ok nX4 hown hK hP hD hS 0 rfl rfl 0 (by decide) (hT _ wd517) (fun _ h9 => h9) rfl (by decide +kernel) rfl rfl (Nat.le_of_ble_eq_true rfl) dX4_read_2 (fun H locs hP hD hS => ?_)
  have hP : va_P (dC, dI) vwCl [(mm, .inr (4, [.int (iI 0), .ref ta, .int (iI tz), .ref ka, .int (iI nn), .ref da, .ref ya, .int (iI pt), .int (iI md), .int (iI sx)])), (ta, .inl (cT, 4096, .inl (fun j => bI (t j)))), (ka, .inl (cK, 4096, .inl (fun j => bI (kt j)))), (da, .inl (cD, 16400, .inl (fun j => iI (Vt j)))), (ya, .inl (cY, 16400, .inl (fun j => iI (Y j))))] H := hP
  have hD : va_D A [(mm, .inr (4, [.int (iI 0), .ref ta, .int (iI tz), .ref ka, .int (iI nn), .ref da, .ref ya, .int (iI pt), .int (iI md), .int (iI sx)])), (ta, .inl (cT, 4096, .inl (fun j => bI (t j)))), (ka, .inl (cK, 4096, .inl (fun j => bI (kt j)))), (da, .inl (cD, 16400, .inl (fun j => iI (Vt j)))), (ya, .inl (cY, 16400, .inl (fun j => iI (Y j))))] := hD
  refine lv_aload_n hx hb dX4_read_5 rfl (lv_at hl 0 rfl) ?_
  refine lv_iload_n hx hb dX4_read_6 rfl (lv_at hl 1 rfl) ?_
  refine va_put (D := (dC, dI)) (ci := 4) (v := .int (iI sy)) (ty := .boolean) (C := RX4) (T := TX4) (N := 10) hx hb hT inX4 tyX4 tyX4_ok nX4 hown hK hP hD hS 0 rfl rfl 9 (by decide) (hT _ wd526) (fun _ h9 => h9) rfl (by decide +kernel) (zb_n (by omega)) (zb_f (by omega)) (Nat.le_of_ble_eq_true rfl) dX4_read_7 (fun H locs hP hD hS => ?_)
  have hP : va_P (dC, dI) vwCl [(mm, .inr (4, [.int (iI 0), .ref ta, .int (iI tz), .ref ka, .int (iI nn), .ref da, .ref ya, .int (iI pt), .int (iI md), .int (iI sy)])), (ta, .inl (cT, 4096, .inl (fun j => bI (t j)))), (ka, .inl (cK, 4096, .inl (fun j => bI (kt j)))), (da, .inl (cD, 16400, .inl (fun j => iI (Vt j)))), (ya, .inl (cY, 16400, .inl (fun j => iI (Y j))))] H := hP
  have hD : va_D A [(mm, .inr (4, [.int (iI 0), .ref ta, .int (iI tz), .ref ka, .int (iI nn), .ref da, .ref ya, .int (iI pt), .int (iI md), .int (iI sy)])), (ta, .inl (cT, 4096, .inl (fun j => bI (t j)))), (ka, .inl (cK, 4096, .inl (fun j => bI (kt j)))), (da, .inl (cD, 16400, .inl (fun j => iI (Vt j)))), (ya, .inl (cY, 16400, .inl (fun j => iI (Y j))))] := hD
  refine lv_aload_n hx hb dX4_read_10 rfl (lv_at hl 0 rfl) ?_
  refine lv_iconst (v := iI 0) hx hb dX4_read_11 rfl ?_
  refine va_put (D := (dC, dI)) (ci := 4) (v := .int (iI 0)) (ty := .int) (C := RX4) (T := TX4) (N := 10) hx hb hT inX4 tyX4 tyX4_ok nX4 hown hK hP hD hS 0 rfl rfl 7 (by decide) (hT _ wd524) (fun _ h9 => h9) rfl (by decide +kernel) rfl rfl (Nat.le_of_ble_eq_true rfl) dX4_read_12 (fun H locs hP hD hS => ?_)
  have hP : va_P (dC, dI) vwCl [(mm, .inr (4, [.int (iI 0), .ref ta, .int (iI tz), .ref ka, .int (iI nn), .ref da, .ref ya, .int (iI 0), .int (iI md), .int (iI sy)])), (ta, .inl (cT, 4096, .inl (fun j => bI (t j)))), (ka, .inl (cK, 4096, .inl (fun j => bI (kt j)))), (da, .inl (cD, 16400, .inl (fun j => iI (Vt j)))), (ya, .inl (cY, 16400, .inl (fun j => iI (Y j))))] H := hP
  have hD : va_D A [(mm, .inr (4, [.int (iI 0), .ref ta, .int (iI tz), .ref ka, .int (iI nn), .ref da, .ref ya, .int (iI 0), .int (iI md), .int (iI sy)])), (ta, .inl (cT, 4096, .inl (fun j => bI (t j)))), (ka, .inl (cK, 4096, .inl (fun j => bI (kt j)))), (da, .inl (cD, 16400, .inl (fun j => iI (Vt j)))), (ya, .inl (cY, 16400, .inl (fun j => iI (Y j))))] := hD
  refine lv_aload_n hx hb dX4_read_15 rfl (lv_at hl 0 rfl) ?_
  refine lv_iconst (v := iI 0) hx hb dX4_read_16 rfl ?_
  refine va_put (D := (dC, dI)) (ci := 4) (v := .int (iI 0)) (ty := .int) (C := RX4) (T := TX4) (N := 10) hx hb hT inX4 tyX4 tyX4_ok nX4 hown hK hP hD hS 0 rfl rfl 8 (by decide) (hT _ wd525) (fun _ h9 => h9) rfl (by decide +kernel) rfl rfl (Nat.le_of_ble_eq_true rfl) dX4_read_17 (fun H locs hP hD hS => ?_)
  have hP : va_P (dC, dI) vwCl [(mm, .inr (4, [.int (iI 0), .ref ta, .int (iI tz), .ref ka, .int (iI nn), .ref da, .ref ya, .int (iI 0), .int (iI 0), .int (iI sy)])), (ta, .inl (cT, 4096, .inl (fun j => bI (t j)))), (ka, .inl (cK, 4096, .inl (fun j => bI (kt j)))), (da, .inl (cD, 16400, .inl (fun j => iI (Vt j)))), (ya, .inl (cY, 16400, .inl (fun j => iI (Y j))))] H := hP
  have hD : va_D A [(mm, .inr (4, [.int (iI 0), .ref ta, .int (iI tz), .ref ka, .int (iI nn), .ref da, .ref ya, .int (iI 0), .int (iI 0), .int (iI sy)])), (ta, .inl (cT, 4096, .inl (fun j => bI (t j)))), (ka, .inl (cK, 4096, .inl (fun j => bI (kt j)))), (da, .inl (cD, 16400, .inl (fun j => iI (Vt j)))), (ya, .inl (cY, 16400, .inl (fun j => iI (Y j))))] := hD
  refine lv_aload_n hx hb dX4_read_20 rfl (lv_at hl 0 rfl) ?_
  refine lv_aload_n hx hb dX4_read_21 rfl (lv_at hl 0 rfl) ?_
  refine va_get (D := (dC, dI)) (ci := 4) (v := .int (iI tz)) (C := RX4) (T := TX4) (N := 10) hx hb hT inX4 hown hK hP 0 rfl rfl 2 (by decide) (hT _ wd519) (fun _ h9 => h9) rfl dX4_read_22 ?_
  refine lv_iconst (v := iI (-1)) hx hb dX4_read_25 rfl ?_
  refine lv_iconst (v := iI 1) hx hb dX4_read_26 rfl ?_
  have hPc := hP.sub (ws' := [(mm, .inr (4, [.int (iI 0), .ref ta, .int (iI tz), .ref ka, .int (iI nn), .ref da, .ref ya, .int (iI 0), .int (iI 0), .int (iI sy)])), (ta, .inl (cT, 4096, .inl (fun j => bI (t j)))), (ya, .inl (cY, 16400, .inl (fun j => iI (Y j))))]) [0, 1, 4] rfl
  have hDc := hD.sub (ws' := [(mm, .inr (4, [.int (iI 0), .ref ta, .int (iI tz), .ref ka, .int (iI nn), .ref da, .ref ya, .int (iI 0), .int (iI 0), .int (iI sy)])), (ta, .inl (cT, 4096, .inl (fun j => bI (t j)))), (ya, .inl (cY, 16400, .inl (fun j => iI (Y j))))]) [0, 1, 4] (by decide) rfl
  have hKc := hK.sub (tys' := [(cT, .byte), (cY, .int)]) [0, 3] rfl
  have hFc := va_free (wc := [(mm, .inr (4, [.int (iI 0), .ref ta, .int (iI tz), .ref ka, .int (iI nn), .ref da, .ref ya, .int (iI 0), .int (iI 0), .int (iI sy)])), (ta, .inl (cT, 4096, .inl (fun j => bI (t j)))), (ya, .inl (cY, 16400, .inl (fun j => iI (Y j))))]) hD hS hA [0, 1, 4] rfl
  refine mv_call (mv_runV (As := [.int (iI tz), .int (iI (-1)), .int (iI 1)]) (rest := []) ⟨hx, hb, hml, hown, hT⟩ ((MV_all l dC dI 40) H.size mm 0 ta tz ka nn da ya 0 0 sy cT t L cY Y (fun _ => (0 : Int)) (fun _ => False) tz (-1) 1 (hok) (hsy) (by omega) (by omega) (by omega) (fun j hj => absurd hj (by omega)) (fun _ h => h.elim) (by omega)) (cwV 3 hT (gV wd568 wd570 wd17 wd30 wd571) rfl rfl rfl (by decide +kernel) ⟨show (2 * 40 + 5) + 1 ≤ 90 from by omega, show 8 + (11 + 11) + (60 * 40 + 200) ≤ 2700 from by omega⟩) ⟨fun a U g mk q => by obtain ⟨q0, q1, qP, qK, qD⟩ := q; exact ⟨q0, q1, qP, va_K.moved (u := U) (U := U.calling g mk a) (Vm.Alike.refl U.vm) qK, qD⟩, va_recv hKc hPc (ci := 4) (q0 := 0) rfl rfl, fun U hU hW => ⟨rfl, by rw [hU], by rw [hU]; exact hPc, va_K.moved hW.alike hKc, hDc.weaken (fun _ _ _ _ => trivial)⟩⟩ rfl rfl hl.1 rfl (lv_room (Nat.le_of_ble_eq_true rfl)) dX4_read_27 ⟨show 0 + 0 ≤ 0 from by omega, show 0 + 0 ≤ 0 from by omega⟩) hS (fun q _ h => hFc q h) hFc (fun v7 u k5 n6 tS H1 locs ht hvm hw hB hz1 hk1 hS => ?_)
  obtain ⟨Y8, pt9, md10, q11⟩ := u
  obtain ⟨hP1, hK1, hD1⟩ := hB
  rw [ht] at hP1
  have hK1 := va_K.moved hvm.symm hK1
  try dsimp only at hw
  obtain ⟨hP, hD⟩ := va_join (wr := [(ka, .inl (cK, 4096, .inl (fun j => bI (kt j)))), (da, .inl (cD, 16400, .inl (fun j => iI (Vt j))))]) (w1 := [(mm, .inr (4, [.int (iI 0), .ref ta, .int (iI tz), .ref ka, .int (iI nn), .ref da, .ref ya, .int (iI pt9), .int (iI md10), .int (iI sy)])), (ta, .inl (cT, 4096, .inl (fun j => bI (t j)))), (ya, .inl (cY, 16400, .inl (fun j => iI (Y8 j))))]) hP hD [0, 1, 4] [2, 3] rfl rfl (by decide) (by decide) hk1 hFc hP1 hD1
  have hK := (hK.sub (tys' := [(cK, .byte), (cD, .int)]) [1, 2] rfl).app hK1
  generalize H1 = H at hP hS ⊢
  have hP : va_P (dC, dI) vwCl [(ka, .inl (cK, 4096, .inl (fun j => bI (kt j)))), (da, .inl (cD, 16400, .inl (fun j => iI (Vt j)))), (mm, .inr (4, [.int (iI 0), .ref ta, .int (iI tz), .ref ka, .int (iI nn), .ref da, .ref ya, .int (iI pt9), .int (iI md10), .int (iI sy)])), (ta, .inl (cT, 4096, .inl (fun j => bI (t j)))), (ya, .inl (cY, 16400, .inl (fun j => iI (Y8 j))))] H := hP
  have hD : va_D A [(ka, .inl (cK, 4096, .inl (fun j => bI (kt j)))), (da, .inl (cD, 16400, .inl (fun j => iI (Vt j)))), (mm, .inr (4, [.int (iI 0), .ref ta, .int (iI tz), .ref ka, .int (iI nn), .ref da, .ref ya, .int (iI pt9), .int (iI md10), .int (iI sy)])), (ta, .inl (cT, 4096, .inl (fun j => bI (t j)))), (ya, .inl (cY, 16400, .inl (fun j => iI (Y8 j))))] := hD
  have hK : va_K (dC, dI) vwCl [(cK, .byte), (cD, .int), (cT, .byte), (cY, .int)] s := hK
  obtain ⟨rfl, hqv7, rfl, rfl⟩ := hw
  refine W.eq (g2 := F0 m 30 ls [.int (iI q11)]) rfl ?_
  refine li_if_eq (tgt := 44) hx hb (by omega) dX4_read_30 (by decide) (fun c12 => ?_) (fun c12 => ?_)
  · skip
    refine lv_aload_n hx hb dX4_read_44 rfl (lv_at hl 0 rfl) ?_
    refine lv_iconst (v := iI 1) hx hb dX4_read_45 rfl ?_
    have hPc := hP.sub (ws' := [(mm, .inr (4, [.int (iI 0), .ref ta, .int (iI tz), .ref ka, .int (iI nn), .ref da, .ref ya, .int (iI pt9), .int (iI md10), .int (iI sy)]))]) [2] rfl
    have hDc := hD.sub (ws' := [(mm, .inr (4, [.int (iI 0), .ref ta, .int (iI tz), .ref ka, .int (iI nn), .ref da, .ref ya, .int (iI pt9), .int (iI md10), .int (iI sy)]))]) [2] (by decide) rfl
    have hKc := hK.sub (tys' := []) [] rfl
    have hFc := va_free (wc := [(mm, .inr (4, [.int (iI 0), .ref ta, .int (iI tz), .ref ka, .int (iI nn), .ref da, .ref ya, .int (iI pt9), .int (iI md10), .int (iI sy)]))]) hD hS hA [2] rfl
    refine mv_call (mv_runV (As := [.int (iI 1)]) (rest := []) ⟨hx, hb, hml, hown, hT⟩ (c_M_fail l dC dI H.size mm 0 ta tz ka nn da ya pt9 md10 sy 1 ) (cwV 1 hT (gV wd556 wd558 wd16 wd30 wd559) rfl rfl rfl (by decide +kernel) ⟨show 0 + 1 ≤ 90 from by omega, show 8 + (2 + 11) + 0 ≤ 2700 from by omega⟩) ⟨fun a U g mk q => by obtain ⟨q0, q1, qP, qK, qD⟩ := q; exact ⟨q0, q1, qP, va_K.moved (u := U) (U := U.calling g mk a) (Vm.Alike.refl U.vm) qK, qD⟩, va_recv hKc hPc (ci := 4) (q0 := 0) rfl rfl, fun U hU hW => ⟨rfl, by rw [hU], by rw [hU]; exact hPc, va_K.moved hW.alike hKc, hDc.weaken (fun _ _ _ _ => trivial)⟩⟩ rfl rfl hl.1 rfl (lv_room (Nat.le_of_ble_eq_true rfl)) dX4_read_46 ⟨show 0 + 0 + 0 ≤ 0 from by omega, show 0 + 0 + 0 ≤ 0 from by omega⟩) hS (fun q _ h => hFc q h) hFc (fun v15 u k13 n14 tS H1 locs ht hvm hw hB hz1 hk1 hS => ?_)
    obtain ⟨hP1, hK1, hD1⟩ := hB
    rw [ht] at hP1
    have hK1 := va_K.moved hvm.symm hK1
    try dsimp only at hw
    obtain ⟨hP, hD⟩ := va_join (wr := [(ka, .inl (cK, 4096, .inl (fun j => bI (kt j)))), (da, .inl (cD, 16400, .inl (fun j => iI (Vt j)))), (ta, .inl (cT, 4096, .inl (fun j => bI (t j)))), (ya, .inl (cY, 16400, .inl (fun j => iI (Y8 j))))]) (w1 := [(mm, .inr (4, [.int (iI 1), .ref ta, .int (iI tz), .ref ka, .int (iI nn), .ref da, .ref ya, .int (iI pt9), .int (iI md10), .int (iI sy)]))]) hP hD [2] [0, 1, 3, 4] rfl rfl (by decide) (by decide) hk1 hFc hP1 hD1
    have hK := (hK.sub (tys' := [(cK, .byte), (cD, .int), (cT, .byte), (cY, .int)]) [0, 1, 2, 3] rfl).app hK1
    generalize H1 = H at hP hS ⊢
    have hP : va_P (dC, dI) vwCl [(ka, .inl (cK, 4096, .inl (fun j => bI (kt j)))), (da, .inl (cD, 16400, .inl (fun j => iI (Vt j)))), (ta, .inl (cT, 4096, .inl (fun j => bI (t j)))), (ya, .inl (cY, 16400, .inl (fun j => iI (Y8 j)))), (mm, .inr (4, [.int (iI 1), .ref ta, .int (iI tz), .ref ka, .int (iI nn), .ref da, .ref ya, .int (iI pt9), .int (iI md10), .int (iI sy)]))] H := hP
    have hD : va_D A [(ka, .inl (cK, 4096, .inl (fun j => bI (kt j)))), (da, .inl (cD, 16400, .inl (fun j => iI (Vt j)))), (ta, .inl (cT, 4096, .inl (fun j => bI (t j)))), (ya, .inl (cY, 16400, .inl (fun j => iI (Y8 j)))), (mm, .inr (4, [.int (iI 1), .ref ta, .int (iI tz), .ref ka, .int (iI nn), .ref da, .ref ya, .int (iI pt9), .int (iI md10), .int (iI sy)]))] := hD
    have hK : va_K (dC, dI) vwCl [(cK, .byte), (cD, .int), (cT, .byte), (cY, .int)] s := hK
    obtain ⟨rfl, rfl, rfl⟩ := hw
    refine W.eq (g2 := F0 m 49 ls [.int (iI 0)]) rfl ?_
    rcases hqv7 with ⟨y0, y1⟩ | ⟨y0, W9, y1, y2, y3, y4⟩
    · skip
      subst hQ9
      have hP9 := hP.sub (ws' := [(mm, .inr (4, [.int (iI 1), .ref ta, .int (iI tz), .ref ka, .int (iI nn), .ref da, .ref ya, .int (iI pt9), .int (iI md10), .int (iI sy)])), (ta, .inl (cT, 4096, .inl (fun j => bI (t j)))), (ka, .inl (cK, 4096, .inl (fun j => bI (kt j)))), (da, .inl (cD, 16400, .inl (fun j => iI (Vt j)))), (ya, .inl (cY, 16400, .inl (fun j => iI (Y8 j))))]) [4, 2, 0, 1, 3] rfl
      have hD9 := hD.sub (ws' := [(mm, .inr (4, [.int (iI 1), .ref ta, .int (iI tz), .ref ka, .int (iI nn), .ref da, .ref ya, .int (iI pt9), .int (iI md10), .int (iI sy)])), (ta, .inl (cT, 4096, .inl (fun j => bI (t j)))), (ka, .inl (cK, 4096, .inl (fun j => bI (kt j)))), (da, .inl (cD, 16400, .inl (fun j => iI (Vt j)))), (ya, .inl (cY, 16400, .inl (fun j => iI (Y8 j))))]) [4, 2, 0, 1, 3] (by decide) rfl
      have hK9 := hK.sub (tys' := [(cT, .byte), (cK, .byte), (cD, .int), (cY, .int)]) [2, 0, 1, 3] rfl
      exact mv_iret hx hb hr hlocks (fun tS ht hW => ⟨⟨_, (1, nn, pt9, md10, kt, Vt, Y8, 0), rfl, ⟨rfl, Or.inr ⟨rfl, rdS_n hok y1 rfl, rfl, rfl, rfl⟩, by omega, by omega⟩, by rw [ht]; exact hP9, va_K.moved hW.alike hK9, hD9⟩, hS.F ht⟩) hS.2.2 dX4_read_49
    · skip
      subst hQ9
      have hP9 := hP.sub (ws' := [(mm, .inr (4, [.int (iI 1), .ref ta, .int (iI tz), .ref ka, .int (iI nn), .ref da, .ref ya, .int (iI pt9), .int (iI md10), .int (iI sy)])), (ta, .inl (cT, 4096, .inl (fun j => bI (t j)))), (ka, .inl (cK, 4096, .inl (fun j => bI (kt j)))), (da, .inl (cD, 16400, .inl (fun j => iI (Vt j)))), (ya, .inl (cY, 16400, .inl (fun j => iI (Y8 j))))]) [4, 2, 0, 1, 3] rfl
      have hD9 := hD.sub (ws' := [(mm, .inr (4, [.int (iI 1), .ref ta, .int (iI tz), .ref ka, .int (iI nn), .ref da, .ref ya, .int (iI pt9), .int (iI md10), .int (iI sy)])), (ta, .inl (cT, 4096, .inl (fun j => bI (t j)))), (ka, .inl (cK, 4096, .inl (fun j => bI (kt j)))), (da, .inl (cD, 16400, .inl (fun j => iI (Vt j)))), (ya, .inl (cY, 16400, .inl (fun j => iI (Y8 j))))]) [4, 2, 0, 1, 3] (by decide) rfl
      have hK9 := hK.sub (tys' := [(cT, .byte), (cK, .byte), (cD, .int), (cY, .int)]) [2, 0, 1, 3] rfl
      exact mv_iret hx hb hr hlocks (fun tS ht hW => ⟨⟨_, (1, nn, pt9, md10, kt, Vt, Y8, 0), rfl, ⟨rfl, Or.inr ⟨rfl, rdS_x hok y1 rfl (by omega), rfl, rfl, rfl⟩, by omega, by omega⟩, by rw [ht]; exact hP9, va_K.moved hW.alike hK9, hD9⟩, hS.F ht⟩) hS.2.2 dX4_read_49
  · skip
    refine lv_aload_n hx hb dX4_read_33 rfl (lv_at hl 0 rfl) ?_
    refine va_get (D := (dC, dI)) (ci := 4) (v := .int (iI pt9)) (C := RX4) (T := TX4) (N := 10) hx hb hT inX4 hown hK hP 2 rfl rfl 7 (by decide) (hT _ wd524) (fun _ h9 => h9) rfl dX4_read_34 ?_
    refine lv_aload_n hx hb dX4_read_37 rfl (lv_at hl 0 rfl) ?_
    refine va_get (D := (dC, dI)) (ci := 4) (v := .int (iI tz)) (C := RX4) (T := TX4) (N := 10) hx hb hT inX4 hown hK hP 2 rfl rfl 2 (by decide) (hT _ wd519) (fun _ h9 => h9) rfl dX4_read_38 ?_
    refine li_icmp_eq (tgt := 50) hx hb (by omega) (by omega) dX4_read_41 (by decide) (fun c16 => ?_) (fun c16 => ?_)
    · skip
      refine lv_aload_n hx hb dX4_read_50 rfl (lv_at hl 0 rfl) ?_
      refine lv_aload_n hx hb dX4_read_51 rfl (lv_at hl 0 rfl) ?_
      refine va_get (D := (dC, dI)) (ci := 4) (v := .int (iI md10)) (C := RX4) (T := TX4) (N := 10) hx hb hT inX4 hown hK hP 2 rfl rfl 8 (by decide) (hT _ wd525) (fun _ h9 => h9) rfl dX4_read_52 ?_
      refine va_put (D := (dC, dI)) (ci := 4) (v := .int (iI md10)) (ty := .int) (C := RX4) (T := TX4) (N := 10) hx hb hT inX4 tyX4 tyX4_ok nX4 hown hK hP hD hS 2 rfl rfl 4 (by decide) (hT _ wd521) (fun _ h9 => h9) rfl (by decide +kernel) rfl rfl (Nat.le_of_ble_eq_true rfl) dX4_read_55 (fun H locs hP hD hS => ?_)
      have hP : va_P (dC, dI) vwCl [(ka, .inl (cK, 4096, .inl (fun j => bI (kt j)))), (da, .inl (cD, 16400, .inl (fun j => iI (Vt j)))), (mm, .inr (4, [.int (iI 0), .ref ta, .int (iI tz), .ref ka, .int (iI md10), .ref da, .ref ya, .int (iI pt9), .int (iI md10), .int (iI sy)])), (ta, .inl (cT, 4096, .inl (fun j => bI (t j)))), (ya, .inl (cY, 16400, .inl (fun j => iI (Y8 j))))] H := hP
      have hD : va_D A [(ka, .inl (cK, 4096, .inl (fun j => bI (kt j)))), (da, .inl (cD, 16400, .inl (fun j => iI (Vt j)))), (mm, .inr (4, [.int (iI 0), .ref ta, .int (iI tz), .ref ka, .int (iI md10), .ref da, .ref ya, .int (iI pt9), .int (iI md10), .int (iI sy)])), (ta, .inl (cT, 4096, .inl (fun j => bI (t j)))), (ya, .inl (cY, 16400, .inl (fun j => iI (Y8 j))))] := hD
      refine lv_iconst (v := iI 0) hx hb dX4_read_58 rfl ?_
      refine lv_istore_n (lv' := [(2, .int (iI 0)), (0, .ref mm), (1, .int (iI sy))]) hx hb dX4_read_59 rfl hl (by decide) rfl (fun ls hl => ?_)
      obtain ⟨y0, W9, y1, y2, y3, y4⟩ := hqv7.resolve_left (fun h => absurd h.1 (by omega))
      exact LT (20000) 0 md10 pt9 Y8 W9 Vt _ _ _ _ _ (by omega) (by omega) (by omega) (rdS_y hok y1 rfl (by omega)) (fun j hj => y2 j hj (fun h => h)) (fun j hj => absurd hj (by omega)) (by omega) (hK.sub [2, 0, 1, 3] rfl) (hP.sub [2, 3, 0, 1, 4] rfl) (hD.sub [2, 3, 0, 1, 4] (by decide) rfl) hS (lv_sub hl [1, 2, 0] rfl)
    · skip
      refine lv_aload_n hx hb dX4_read_44 rfl (lv_at hl 0 rfl) ?_
      refine lv_iconst (v := iI 1) hx hb dX4_read_45 rfl ?_
      have hPc := hP.sub (ws' := [(mm, .inr (4, [.int (iI 0), .ref ta, .int (iI tz), .ref ka, .int (iI nn), .ref da, .ref ya, .int (iI pt9), .int (iI md10), .int (iI sy)]))]) [2] rfl
      have hDc := hD.sub (ws' := [(mm, .inr (4, [.int (iI 0), .ref ta, .int (iI tz), .ref ka, .int (iI nn), .ref da, .ref ya, .int (iI pt9), .int (iI md10), .int (iI sy)]))]) [2] (by decide) rfl
      have hKc := hK.sub (tys' := []) [] rfl
      have hFc := va_free (wc := [(mm, .inr (4, [.int (iI 0), .ref ta, .int (iI tz), .ref ka, .int (iI nn), .ref da, .ref ya, .int (iI pt9), .int (iI md10), .int (iI sy)]))]) hD hS hA [2] rfl
      refine mv_call (mv_runV (As := [.int (iI 1)]) (rest := []) ⟨hx, hb, hml, hown, hT⟩ (c_M_fail l dC dI H.size mm 0 ta tz ka nn da ya pt9 md10 sy 1 ) (cwV 1 hT (gV wd556 wd558 wd16 wd30 wd559) rfl rfl rfl (by decide +kernel) ⟨show 0 + 1 ≤ 90 from by omega, show 8 + (2 + 11) + 0 ≤ 2700 from by omega⟩) ⟨fun a U g mk q => by obtain ⟨q0, q1, qP, qK, qD⟩ := q; exact ⟨q0, q1, qP, va_K.moved (u := U) (U := U.calling g mk a) (Vm.Alike.refl U.vm) qK, qD⟩, va_recv hKc hPc (ci := 4) (q0 := 0) rfl rfl, fun U hU hW => ⟨rfl, by rw [hU], by rw [hU]; exact hPc, va_K.moved hW.alike hKc, hDc.weaken (fun _ _ _ _ => trivial)⟩⟩ rfl rfl hl.1 rfl (lv_room (Nat.le_of_ble_eq_true rfl)) dX4_read_46 ⟨show 0 + 0 + 0 ≤ 0 from by omega, show 0 + 0 + 0 ≤ 0 from by omega⟩) hS (fun q _ h => hFc q h) hFc (fun v19 u k17 n18 tS H1 locs ht hvm hw hB hz1 hk1 hS => ?_)
      obtain ⟨hP1, hK1, hD1⟩ := hB
      rw [ht] at hP1
      have hK1 := va_K.moved hvm.symm hK1
      try dsimp only at hw
      obtain ⟨hP, hD⟩ := va_join (wr := [(ka, .inl (cK, 4096, .inl (fun j => bI (kt j)))), (da, .inl (cD, 16400, .inl (fun j => iI (Vt j)))), (ta, .inl (cT, 4096, .inl (fun j => bI (t j)))), (ya, .inl (cY, 16400, .inl (fun j => iI (Y8 j))))]) (w1 := [(mm, .inr (4, [.int (iI 1), .ref ta, .int (iI tz), .ref ka, .int (iI nn), .ref da, .ref ya, .int (iI pt9), .int (iI md10), .int (iI sy)]))]) hP hD [2] [0, 1, 3, 4] rfl rfl (by decide) (by decide) hk1 hFc hP1 hD1
      have hK := (hK.sub (tys' := [(cK, .byte), (cD, .int), (cT, .byte), (cY, .int)]) [0, 1, 2, 3] rfl).app hK1
      generalize H1 = H at hP hS ⊢
      have hP : va_P (dC, dI) vwCl [(ka, .inl (cK, 4096, .inl (fun j => bI (kt j)))), (da, .inl (cD, 16400, .inl (fun j => iI (Vt j)))), (ta, .inl (cT, 4096, .inl (fun j => bI (t j)))), (ya, .inl (cY, 16400, .inl (fun j => iI (Y8 j)))), (mm, .inr (4, [.int (iI 1), .ref ta, .int (iI tz), .ref ka, .int (iI nn), .ref da, .ref ya, .int (iI pt9), .int (iI md10), .int (iI sy)]))] H := hP
      have hD : va_D A [(ka, .inl (cK, 4096, .inl (fun j => bI (kt j)))), (da, .inl (cD, 16400, .inl (fun j => iI (Vt j)))), (ta, .inl (cT, 4096, .inl (fun j => bI (t j)))), (ya, .inl (cY, 16400, .inl (fun j => iI (Y8 j)))), (mm, .inr (4, [.int (iI 1), .ref ta, .int (iI tz), .ref ka, .int (iI nn), .ref da, .ref ya, .int (iI pt9), .int (iI md10), .int (iI sy)]))] := hD
      have hK : va_K (dC, dI) vwCl [(cK, .byte), (cD, .int), (cT, .byte), (cY, .int)] s := hK
      obtain ⟨rfl, rfl, rfl⟩ := hw
      refine W.eq (g2 := F0 m 49 ls [.int (iI 0)]) rfl ?_
      rcases hqv7 with ⟨y0, y1⟩ | ⟨y0, W9, y1, y2, y3, y4⟩
      · skip
        subst hQ9
        have hP9 := hP.sub (ws' := [(mm, .inr (4, [.int (iI 1), .ref ta, .int (iI tz), .ref ka, .int (iI nn), .ref da, .ref ya, .int (iI pt9), .int (iI md10), .int (iI sy)])), (ta, .inl (cT, 4096, .inl (fun j => bI (t j)))), (ka, .inl (cK, 4096, .inl (fun j => bI (kt j)))), (da, .inl (cD, 16400, .inl (fun j => iI (Vt j)))), (ya, .inl (cY, 16400, .inl (fun j => iI (Y8 j))))]) [4, 2, 0, 1, 3] rfl
        have hD9 := hD.sub (ws' := [(mm, .inr (4, [.int (iI 1), .ref ta, .int (iI tz), .ref ka, .int (iI nn), .ref da, .ref ya, .int (iI pt9), .int (iI md10), .int (iI sy)])), (ta, .inl (cT, 4096, .inl (fun j => bI (t j)))), (ka, .inl (cK, 4096, .inl (fun j => bI (kt j)))), (da, .inl (cD, 16400, .inl (fun j => iI (Vt j)))), (ya, .inl (cY, 16400, .inl (fun j => iI (Y8 j))))]) [4, 2, 0, 1, 3] (by decide) rfl
        have hK9 := hK.sub (tys' := [(cT, .byte), (cK, .byte), (cD, .int), (cY, .int)]) [2, 0, 1, 3] rfl
        exact mv_iret hx hb hr hlocks (fun tS ht hW => ⟨⟨_, (1, nn, pt9, md10, kt, Vt, Y8, 0), rfl, ⟨rfl, Or.inr ⟨rfl, rdS_n hok y1 rfl, rfl, rfl, rfl⟩, by omega, by omega⟩, by rw [ht]; exact hP9, va_K.moved hW.alike hK9, hD9⟩, hS.F ht⟩) hS.2.2 dX4_read_49
      · skip
        subst hQ9
        have hP9 := hP.sub (ws' := [(mm, .inr (4, [.int (iI 1), .ref ta, .int (iI tz), .ref ka, .int (iI nn), .ref da, .ref ya, .int (iI pt9), .int (iI md10), .int (iI sy)])), (ta, .inl (cT, 4096, .inl (fun j => bI (t j)))), (ka, .inl (cK, 4096, .inl (fun j => bI (kt j)))), (da, .inl (cD, 16400, .inl (fun j => iI (Vt j)))), (ya, .inl (cY, 16400, .inl (fun j => iI (Y8 j))))]) [4, 2, 0, 1, 3] rfl
        have hD9 := hD.sub (ws' := [(mm, .inr (4, [.int (iI 1), .ref ta, .int (iI tz), .ref ka, .int (iI nn), .ref da, .ref ya, .int (iI pt9), .int (iI md10), .int (iI sy)])), (ta, .inl (cT, 4096, .inl (fun j => bI (t j)))), (ka, .inl (cK, 4096, .inl (fun j => bI (kt j)))), (da, .inl (cD, 16400, .inl (fun j => iI (Vt j)))), (ya, .inl (cY, 16400, .inl (fun j => iI (Y8 j))))]) [4, 2, 0, 1, 3] (by decide) rfl
        have hK9 := hK.sub (tys' := [(cT, .byte), (cK, .byte), (cD, .int), (cY, .int)]) [2, 0, 1, 3] rfl
        exact mv_iret hx hb hr hlocks (fun tS ht hW => ⟨⟨_, (1, nn, pt9, md10, kt, Vt, Y8, 0), rfl, ⟨rfl, Or.inr ⟨rfl, rdS_x hok y1 rfl (by omega), rfl, rfl, rfl⟩, by omega, by omega⟩, by rw [ht]; exact hP9, va_K.moved hW.alike hK9, hD9⟩, hS.F ht⟩) hS.2.2 dX4_read_49
