set_option maxHeartbeats 4000000 in
set_option maxRecDepth 100000 in
theorem c_M_number (l : Launch) (dC : Nat → ClassId) (dI : Nat → Nat → Nat) (sz : Nat) (mm : Nat) (fl : Int) (ta : Nat) (tz : Int) (ka : Nat) (nn : Int) (da : Nat) (ya : Nat) (pt : Int) (md : Int) (sx : Int) (cD : ClassId) (Vt : Nat → Int) (V : Nat → Int) (M : Nat) (cK : ClassId) (kt : Nat → Int) (kz : Int) (L : List Int) (a : Int) (hoN : okN M V nn) (hE : eqN Vt V nn) (hkb : okB 4096 kt kz L) (hgN : gdN nn V kz) (ha : -2147483648 ≤ a ∧ a < 2147483648) : mv_Met l yX4_number wsX4_number ({ frames := 2, cells := 0, slots := 0, locals := 60 }) (va_Pc [.ref mm, .int (iI a)] (fun U => U.heap.size = sz ∧ va_P (dC, dI) vwCl [(mm, .inr (4, [.int (iI fl), .ref ta, .int (iI tz), .ref ka, .int (iI nn), .ref da, .ref ya, .int (iI pt), .int (iI md), .int (iI sx)])), (ka, .inl (cK, 4096, .inl (fun j => bI (kt j)))), (da, .inl (cD, 16400, .inl (fun j => iI (Vt j))))] U.heap ∧ va_K (dC, dI) vwCl [(cK, .byte), (cD, .int)] U ∧ va_D (fun _ => True) [(mm, .inr (4, [.int (iI fl), .ref ta, .int (iI tz), .ref ka, .int (iI nn), .ref da, .ref ya, .int (iI pt), .int (iI md), .int (iI sx)])), (ka, .inl (cK, 4096, .inl (fun j => bI (kt j)))), (da, .inl (cD, 16400, .inl (fun j => iI (Vt j))))])) (mv_Q (fun (v : Option Value) (u : Int × Int) (k n : Nat) => match u with | (fl', q') => v = some (.long (lI q')) ∧ ((fl' = 0 ∧ (0 ≤ a ∧ a < nn ∧ ¬ V (a * 8 + 2).toNat = 1 ∧ hnum L V a ∧ q' = sgn L V a)) ∨ (fl' = 1 ∧ (a < 0 ∨ nn ≤ a)) ∨ (fl' = 2 ∧ (0 ≤ a ∧ a < nn ∧ V (a * 8 + 2).toNat = 1)) ∨ (fl' = 3 ∧ (0 ≤ a ∧ a < nn ∧ ¬ V (a * 8 + 2).toNat = 1 ∧ ¬ hnum L V a))) ∧ k = 0 ∧ n = 0) (fun (u : Int × Int) (tS : State) => match u with | (fl', q') => va_P (dC, dI) vwCl [(mm, .inr (4, [.int (iI fl'), .ref ta, .int (iI tz), .ref ka, .int (iI nn), .ref da, .ref ya, .int (iI pt), .int (iI md), .int (iI sx)])), (ka, .inl (cK, 4096, .inl (fun j => bI (kt j)))), (da, .inl (cD, 16400, .inl (fun j => iI (Vt j))))] tS.heap ∧ va_K (dC, dI) vwCl [(cK, .byte), (cD, .int)] tS ∧ va_D (va_A [(mm, .inr (4, [.int (iI fl), .ref ta, .int (iI tz), .ref ka, .int (iI nn), .ref da, .ref ya, .int (iI pt), .int (iI md), .int (iI sx)])), (ka, .inl (cK, 4096, .inl (fun j => bI (kt j)))), (da, .inl (cD, 16400, .inl (fun j => iI (Vt j))))] sz) [(mm, .inr (4, [.int (iI fl'), .ref ta, .int (iI tz), .ref ka, .int (iI nn), .ref da, .ref ya, .int (iI pt), .int (iI md), .int (iI sx)])), (ka, .inl (cK, 4096, .inl (fun j => bI (kt j)))), (da, .inl (cD, 16400, .inl (fun j => iI (Vt j))))]) (va_A [(mm, .inr (4, [.int (iI fl), .ref ta, .int (iI tz), .ref ka, .int (iI nn), .ref da, .ref ya, .int (iI pt), .int (iI md), .int (iI sx)])), (ka, .inl (cK, 4096, .inl (fun j => bI (kt j)))), (da, .inl (cD, 16400, .inl (fun j => iI (Vt j))))] sz)) (va_A [(mm, .inr (4, [.int (iI fl), .ref ta, .int (iI tz), .ref ka, .int (iI nn), .ref da, .ref ya, .int (iI pt), .int (iI md), .int (iI sx)])), (ka, .inl (cK, 4096, .inl (fun j => bI (kt j)))), (da, .inl (cD, 16400, .inl (fun j => iI (Vt j))))] sz) := by
  refine mv_ofW (cc := cX4_number) (maxL := 7) (ret := (some .long)) (by decide) rfl ?_
  intro p e s m args below meth c s₁ B hml hv
  obtain ⟨rfl, hsz, hP, hK, hD0⟩ := hv
  have hx := B.exec
  have hb := B.bytes
  have hr := B.returns
  have hT : ∀ w ∈ wT, w.before _ s = true := fun w h => atoms_spec (ws := wsX4_number) B.pre w (List.mem_cons_of_mem _ h)
  have hown : s.vm.findClass RX4 = some m.cls := findClass_of_methodNamed B.named
  have hlocks := B.notSynchronized
  subst hsz
  have hD := hD0.self (sz := s.heap.size)
  generalize hAe : va_A [(mm, .inr (4, [.int (iI fl), .ref ta, .int (iI tz), .ref ka, .int (iI nn), .ref da, .ref ya, .int (iI pt), .int (iI md), .int (iI sx)])), (ka, .inl (cK, 4096, .inl (fun j => bI (kt j)))), (da, .inl (cD, 16400, .inl (fun j => iI (Vt j))))] s.heap.size = A at hD ⊢
  have hA : ∀ q : Nat, s.heap.size ≤ q → A q := fun q h => by rw [← hAe]; exact Or.inr h
  have hS : va_S A s.heap s.heap [] := va_S.rf
  have hP : va_P (dC, dI) vwCl [(mm, .inr (4, [.int (iI fl), .ref ta, .int (iI tz), .ref ka, .int (iI nn), .ref da, .ref ya, .int (iI pt), .int (iI md), .int (iI sx)])), (ka, .inl (cK, 4096, .inl (fun j => bI (kt j)))), (da, .inl (cD, 16400, .inl (fun j => iI (Vt j))))] s.heap := hP
  have hl := lv_entry ([.ref mm, .int (iI a)]) (n := 7) (Nat.le_of_ble_eq_true rfl)
  rw [lg_entry_eq]
  generalize (lg_sl ([.ref mm, .int (iI a)]) ++ List.replicate (7 - (lg_sl ([.ref mm, .int (iI a)])).length) Slot.unset).toArray = ls at hl ⊢
  have hl : lv_has ls 7 [(0, .ref mm), (1, .int (iI a))] := hl
  obtain ⟨hn1, hn2, hn3, hn4, hn5, hn6, hn7⟩ := id hoN
  obtain ⟨hw1, hw2, hw3, hw4, hw5, hw6⟩ := id hkb
  refine mv_nameQ (fun Q9 hQ9 => ?_)
  have LP : ∀ (fu : Nat) (y : Int) (jj : Int) (f4 : Int) (g : Int) (H : Heap) (locs : List Loc) (ls : Array Slot) (kc ks : Nat), (g - jj < (fu : Int)) → (1 ≤ jj ∧ jj ≤ g) → (g = V (a * 8 + 5).toNat ∧ 1 ≤ g ∧ g ≤ 8) → (f4 = V (a * 8 + 4).toNat) → (0 ≤ a ∧ a < nn ∧ ¬ V (a * 8 + 2).toNat = 1) → (hnum L V a) → (sgn L V a = sfold (cat L V a) (g - jj).toNat jj y) → (kc = 0 ∧ ks = 0) → va_K (dC, dI) vwCl [(cK, .byte), (cD, .int)] s → va_P (dC, dI) vwCl [(mm, .inr (4, [.int (iI 0), .ref ta, .int (iI tz), .ref ka, .int (iI nn), .ref da, .ref ya, .int (iI pt), .int (iI md), .int (iI sx)])), (ka, .inl (cK, 4096, .inl (fun j => bI (kt j)))), (da, .inl (cD, 16400, .inl (fun j => iI (Vt j))))] H → va_D A [(mm, .inr (4, [.int (iI 0), .ref ta, .int (iI tz), .ref ka, .int (iI nn), .ref da, .ref ya, .int (iI pt), .int (iI md), .int (iI sx)])), (ka, .inl (cK, 4096, .inl (fun j => bI (kt j)))), (da, .inl (cD, 16400, .inl (fun j => iI (Vt j))))] → va_S A s.heap H locs → lv_has ls 7 [(0, .ref mm), (1, .int (iI a)), (2, .int (iI f4)), (3, .int (iI g)), (4, .long (lI y)), (6, .int (iI jj))] → W p l e ({ frames := 2, cells := 0, slots := 0, locals := 60 }) s m ([.ref mm, .int (iI a)] : List Value).toArray below meth c H locs kc ks Q9 (F0 m 149 ls []) := by
    intro fu
    induction fu with
    | zero =>
      intro y jj f4 g H locs ls kc ks hfu hj hg hf4 ha9 hnm hn hkc hK hP hD hS hl
      exfalso
      omega
    | succ fu ih =>
      intro y jj f4 g H locs ls kc ks hfu hj hg hf4 ha9 hnm hn hkc hK hP hD hS hl
      have hga := hgN a (by omega) (by omega)
      have hcj := cat_rng hkb V a jj
      have hkj : jj < g → kt (f4 + jj : Int).toNat = cat L V a jj := fun h => kcat hkb hf4 (by omega) (by omega) (by omega)
      refine lv_iload hx hb dX4_number_149 (lv_at hl 5 rfl) ?_
      refine lv_iload_n hx hb dX4_number_151 rfl (lv_at hl 3 rfl) ?_
      refine li_icmp_ge (tgt := 183) hx hb (by omega) (by omega) dX4_number_152 (by decide) (fun c1 => ?_) (fun c1 => ?_)
      · skip
        refine lv_lload hx hb dX4_number_183 (lv_at hl 4 rfl) ?_
        subst hQ9
        have hP9 := hP.sub (ws' := [(mm, .inr (4, [.int (iI 0), .ref ta, .int (iI tz), .ref ka, .int (iI nn), .ref da, .ref ya, .int (iI pt), .int (iI md), .int (iI sx)])), (ka, .inl (cK, 4096, .inl (fun j => bI (kt j)))), (da, .inl (cD, 16400, .inl (fun j => iI (Vt j))))]) [0, 1, 2] rfl
        have hD9 := hD.sub (ws' := [(mm, .inr (4, [.int (iI 0), .ref ta, .int (iI tz), .ref ka, .int (iI nn), .ref da, .ref ya, .int (iI pt), .int (iI md), .int (iI sx)])), (ka, .inl (cK, 4096, .inl (fun j => bI (kt j)))), (da, .inl (cD, 16400, .inl (fun j => iI (Vt j))))]) [0, 1, 2] (by decide) rfl
        have hK9 := hK.sub (tys' := [(cK, .byte), (cD, .int)]) [0, 1] rfl
        exact mv_lret hx hb hr hlocks (fun tS ht hW => ⟨⟨_, (0, y), rfl, ⟨rfl, Or.inl ⟨rfl, ⟨by omega, by omega, by omega, hnm, by rw [hn]; exact (sfold_e (by omega)).symm⟩⟩, by omega, by omega⟩, by rw [ht]; exact hP9, va_K.moved hW.alike hK9, hD9⟩, hS.F ht⟩) hS.2.2 dX4_number_185
      · skip
        refine lv_lload hx hb dX4_number_155 (lv_at hl 4 rfl) ?_
        refine lv_bipush (v := iI 8) hx hb dX4_number_157 (by decide +kernel) ?_
        refine li_lshl8 hx hb dX4_number_159 ?_
        refine lv_aload_n hx hb dX4_number_160 rfl (lv_at hl 0 rfl) ?_
        refine va_get (D := (dC, dI)) (ci := 4) (v := .ref ka) (C := RX4) (T := TX4) (N := 10) hx hb hT inX4 hown hK hP 0 rfl rfl 3 (by decide) (hT _ wd520) (fun _ h9 => h9) rfl dX4_number_161 ?_
        refine lv_iload_n hx hb dX4_number_164 rfl (lv_at hl 2 rfl) ?_
        refine lv_iload hx hb dX4_number_165 (lv_at hl 5 rfl) ?_
        refine li_iadd hx hb dX4_number_167 ?_
        refine li_bald hx hb hK hP 1 0 rfl rfl (z := (f4 + jj)) (by omega) (by omega) dX4_number_168 ?_
        refine lv_sipush (v := iI 255) hx hb dX4_number_169 (by decide +kernel) ?_
        refine li_bandb hx hb dX4_number_172 ?_
        refine li_i2l hx hb (by omega) dX4_number_173 ?_
        refine li_lor8 hx hb (by omega) dX4_number_174 ?_
        refine li_nml (fun z2 ez2 => ?_)
        refine lv_lstore (lv' := [(4, .long (lI z2)), (0, .ref mm), (1, .int (iI a)), (2, .int (iI f4)), (3, .int (iI g)), (6, .int (iI jj))]) hx hb dX4_number_175 hl (by decide) rfl (fun ls hl => ?_)
        obtain ⟨z3, ez3⟩ : ∃ y : Int, y = jj + 1 := ⟨_, rfl⟩
        refine lv_iinc (v := iI z3) (lv' := [(6, .int (iI z3)), (4, .long (lI z2)), (0, .ref mm), (1, .int (iI a)), (2, .int (iI f4)), (3, .int (iI g))]) hx hb dX4_number_177 hl (k := 5) rfl (by rw [ez3]; exact iI_add _ _) (by decide) rfl (fun ls hl => ?_)
        refine lv_goto (tgt := 149) hx hb dX4_number_180 (by decide) ?_
        have z3_eq : z3 = jj + 1 := by omega
        exact ih z2 z3 f4 g _ _ _ _ _ (by omega) (by omega) (by omega) (by omega) (by omega) (hnm) (by rw [hn, z3_eq]; exact sfold_s (by omega) (by omega)) (by omega) (hK.sub [0, 1] rfl) (hP.sub [0, 1, 2] rfl) (hD.sub [0, 1, 2] (by decide) rfl) hS (lv_sub hl [2, 3, 4, 5, 1, 0] rfl)
  refine lv_aload_n hx hb dX4_number_0 rfl (lv_at hl 0 rfl) ?_
  refine lv_iconst (v := iI 0) hx hb dX4_number_1 rfl ?_
  refine va_put (D := (dC, dI)) (ci := 4) (v := .int (iI 0)) (ty := .int) (C := RX4) (T := TX4) (N := 10) hx hb hT inX4 tyX4 tyX4_ok nX4 hown hK hP hD hS 0 rfl rfl 0 (by decide) (hT _ wd517) (fun _ h9 => h9) rfl (by decide +kernel) rfl rfl (Nat.le_of_ble_eq_true rfl) dX4_number_2 (fun H locs hP hD hS => ?_)
  have hP : va_P (dC, dI) vwCl [(mm, .inr (4, [.int (iI 0), .ref ta, .int (iI tz), .ref ka, .int (iI nn), .ref da, .ref ya, .int (iI pt), .int (iI md), .int (iI sx)])), (ka, .inl (cK, 4096, .inl (fun j => bI (kt j)))), (da, .inl (cD, 16400, .inl (fun j => iI (Vt j))))] H := hP
  have hD : va_D A [(mm, .inr (4, [.int (iI 0), .ref ta, .int (iI tz), .ref ka, .int (iI nn), .ref da, .ref ya, .int (iI pt), .int (iI md), .int (iI sx)])), (ka, .inl (cK, 4096, .inl (fun j => bI (kt j)))), (da, .inl (cD, 16400, .inl (fun j => iI (Vt j))))] := hD
  refine lv_aload_n hx hb dX4_number_5 rfl (lv_at hl 0 rfl) ?_
  refine lv_iload_n hx hb dX4_number_6 rfl (lv_at hl 1 rfl) ?_
  have hPc := hP.sub (ws' := [(mm, .inr (4, [.int (iI 0), .ref ta, .int (iI tz), .ref ka, .int (iI nn), .ref da, .ref ya, .int (iI pt), .int (iI md), .int (iI sx)]))]) [0] rfl
  have hDc := hD.sub (ws' := [(mm, .inr (4, [.int (iI 0), .ref ta, .int (iI tz), .ref ka, .int (iI nn), .ref da, .ref ya, .int (iI pt), .int (iI md), .int (iI sx)]))]) [0] (by decide) rfl
  have hKc := hK.sub (tys' := []) [] rfl
  have hFc := va_free (wc := [(mm, .inr (4, [.int (iI 0), .ref ta, .int (iI tz), .ref ka, .int (iI nn), .ref da, .ref ya, .int (iI pt), .int (iI md), .int (iI sx)]))]) hD hS hA [0] rfl
  refine mv_call (mv_runV (As := [.int (iI a)]) (rest := []) ⟨hx, hb, hml, hown, hT⟩ (c_M_out l dC dI H.size mm 0 ta tz ka nn da ya pt md sx a (by omega) (by omega)) (cwV 1 hT (gV wd597 wd599 wd21 wd30 wd600) rfl rfl rfl (by decide +kernel) ⟨show 0 + 1 ≤ 2 from by omega, show 8 + (2 + 11) + 0 ≤ 60 from by omega⟩) ⟨fun a U g mk q => by obtain ⟨q0, q1, qP, qK, qD⟩ := q; exact ⟨q0, q1, qP, va_K.moved (u := U) (U := U.calling g mk a) (Vm.Alike.refl U.vm) qK, qD⟩, va_recv hKc hPc (ci := 4) (q0 := 0) rfl rfl, fun U hU hW => ⟨rfl, by rw [hU], by rw [hU]; exact hPc, va_K.moved hW.alike hKc, hDc.weaken (fun _ _ _ _ => trivial)⟩⟩ rfl rfl hl.1 rfl (lv_room (Nat.le_of_ble_eq_true rfl)) dX4_number_7 ⟨show 0 + 0 ≤ 0 from by omega, show 0 + 0 ≤ 0 from by omega⟩) hS (fun q _ h => hFc q h) hFc (fun v6 u k4 n5 tS H1 locs ht hvm hw hB hz1 hk1 hS => ?_)
  obtain ⟨q7, rfl⟩ : ∃ y, y = u := ⟨_, rfl⟩
  obtain ⟨hP1, hK1, hD1⟩ := hB
  rw [ht] at hP1
  have hK1 := va_K.moved hvm.symm hK1
  try dsimp only at hw
  obtain ⟨hP, hD⟩ := va_join (wr := [(ka, .inl (cK, 4096, .inl (fun j => bI (kt j)))), (da, .inl (cD, 16400, .inl (fun j => iI (Vt j))))]) (w1 := [(mm, .inr (4, [.int (iI 0), .ref ta, .int (iI tz), .ref ka, .int (iI nn), .ref da, .ref ya, .int (iI pt), .int (iI md), .int (iI sx)]))]) hP hD [0] [1, 2] rfl rfl (by decide) (by decide) hk1 hFc hP1 hD1
  have hK := (hK.sub (tys' := [(cK, .byte), (cD, .int)]) [0, 1] rfl).app hK1
  generalize H1 = H at hP hS ⊢
  have hP : va_P (dC, dI) vwCl [(ka, .inl (cK, 4096, .inl (fun j => bI (kt j)))), (da, .inl (cD, 16400, .inl (fun j => iI (Vt j)))), (mm, .inr (4, [.int (iI 0), .ref ta, .int (iI tz), .ref ka, .int (iI nn), .ref da, .ref ya, .int (iI pt), .int (iI md), .int (iI sx)]))] H := hP
  have hD : va_D A [(ka, .inl (cK, 4096, .inl (fun j => bI (kt j)))), (da, .inl (cD, 16400, .inl (fun j => iI (Vt j)))), (mm, .inr (4, [.int (iI 0), .ref ta, .int (iI tz), .ref ka, .int (iI nn), .ref da, .ref ya, .int (iI pt), .int (iI md), .int (iI sx)]))] := hD
  have hK : va_K (dC, dI) vwCl [(cK, .byte), (cD, .int)] s := hK
  obtain ⟨rfl, hqv6, rfl, rfl⟩ := hw
  refine W.eq (g2 := F0 m 10 ls [.int (iI q7)]) rfl ?_
  refine li_if_eq (tgt := 20) hx hb (by omega) dX4_number_10 (by decide) (fun c8 => ?_) (fun c8 => ?_)
  · skip
    have hEa2 : Vt (((8 * a) + 2) : Int).toNat = V (a * 8 + 2).toNat := by rw [show (8 * a) + 2 = a * 8 + 2 by omega]; exact hE _ (by omega)
    have hEa4 : Vt (((8 * a) + 4) : Int).toNat = V (a * 8 + 4).toNat := by rw [show (8 * a) + 4 = a * 8 + 4 by omega]; exact hE _ (by omega)
    have hEa5 : Vt (((8 * a) + 5) : Int).toNat = V (a * 8 + 5).toNat := by rw [show (8 * a) + 5 = a * 8 + 5 by omega]; exact hE _ (by omega)
    have hVa2 := hn6 (a * 8 + 2).toNat
    have hVa4 := hn6 (a * 8 + 4).toNat
    have hVa5 := hn6 (a * 8 + 5).toNat
    have hga := hgN a (by omega) (by omega)
    refine lv_aload_n hx hb dX4_number_20 rfl (lv_at hl 0 rfl) ?_
    refine va_get (D := (dC, dI)) (ci := 4) (v := .ref da) (C := RX4) (T := TX4) (N := 10) hx hb hT inX4 hown hK hP 2 rfl rfl 5 (by decide) (hT _ wd522) (fun _ h9 => h9) rfl dX4_number_21 ?_
    refine lv_bipush (v := iI 8) hx hb dX4_number_24 (by decide +kernel) ?_
    refine lv_iload_n hx hb dX4_number_26 rfl (lv_at hl 1 rfl) ?_
    refine li_imul hx hb dX4_number_27 ?_
    refine lv_iconst (v := iI 2) hx hb dX4_number_28 rfl ?_
    refine li_iadd hx hb dX4_number_29 ?_
    refine li_iald hx hb hK hP 1 1 rfl rfl (z := ((8 * a) + 2)) (by omega) (by omega) dX4_number_30 ?_
    refine lv_iconst (v := iI 1) hx hb dX4_number_31 rfl ?_
    refine li_icmp_ne (tgt := 42) hx hb (by omega) (by omega) dX4_number_32 (by decide) (fun c9 => ?_) (fun c9 => ?_)
    · skip
      refine lv_aload_n hx hb dX4_number_42 rfl (lv_at hl 0 rfl) ?_
      refine va_get (D := (dC, dI)) (ci := 4) (v := .ref da) (C := RX4) (T := TX4) (N := 10) hx hb hT inX4 hown hK hP 2 rfl rfl 5 (by decide) (hT _ wd522) (fun _ h9 => h9) rfl dX4_number_43 ?_
      refine lv_bipush (v := iI 8) hx hb dX4_number_46 (by decide +kernel) ?_
      refine lv_iload_n hx hb dX4_number_48 rfl (lv_at hl 1 rfl) ?_
      refine li_imul hx hb dX4_number_49 ?_
      refine lv_iconst (v := iI 4) hx hb dX4_number_50 rfl ?_
      refine li_iadd hx hb dX4_number_51 ?_
      refine li_iald hx hb hK hP 1 1 rfl rfl (z := ((8 * a) + 4)) (by omega) (by omega) dX4_number_52 ?_
      refine li_nm (fun z10 ez10 => ?_)
      refine lv_istore_n (lv' := [(2, .int (iI z10)), (0, .ref mm), (1, .int (iI a))]) hx hb dX4_number_53 rfl hl (by decide) rfl (fun ls hl => ?_)
      refine lv_aload_n hx hb dX4_number_54 rfl (lv_at hl 1 rfl) ?_
      refine va_get (D := (dC, dI)) (ci := 4) (v := .ref da) (C := RX4) (T := TX4) (N := 10) hx hb hT inX4 hown hK hP 2 rfl rfl 5 (by decide) (hT _ wd522) (fun _ h9 => h9) rfl dX4_number_55 ?_
      refine lv_bipush (v := iI 8) hx hb dX4_number_58 (by decide +kernel) ?_
      refine lv_iload_n hx hb dX4_number_60 rfl (lv_at hl 2 rfl) ?_
      refine li_imul hx hb dX4_number_61 ?_
      refine lv_iconst (v := iI 5) hx hb dX4_number_62 rfl ?_
      refine li_iadd hx hb dX4_number_63 ?_
      refine li_iald hx hb hK hP 1 1 rfl rfl (z := ((8 * a) + 5)) (by omega) (by omega) dX4_number_64 ?_
      refine li_nm (fun z11 ez11 => ?_)
      refine lv_istore_n (lv' := [(3, .int (iI z11)), (2, .int (iI z10)), (0, .ref mm), (1, .int (iI a))]) hx hb dX4_number_65 rfl hl (by decide) rfl (fun ls hl => ?_)
      refine lv_iload_n hx hb dX4_number_66 rfl (lv_at hl 0 rfl) ?_
      refine lv_iconst (v := iI 1) hx hb dX4_number_67 rfl ?_
      refine li_icmp_lt (tgt := 77) hx hb (by omega) (by omega) dX4_number_68 (by decide) (fun c12 => ?_) (fun c12 => ?_)
      · skip
        refine lv_aload_n hx hb dX4_number_77 rfl (lv_at hl 2 rfl) ?_
        refine lv_iconst (v := iI 3) hx hb dX4_number_78 rfl ?_
        have hPc := hP.sub (ws' := [(mm, .inr (4, [.int (iI 0), .ref ta, .int (iI tz), .ref ka, .int (iI nn), .ref da, .ref ya, .int (iI pt), .int (iI md), .int (iI sx)]))]) [2] rfl
        have hDc := hD.sub (ws' := [(mm, .inr (4, [.int (iI 0), .ref ta, .int (iI tz), .ref ka, .int (iI nn), .ref da, .ref ya, .int (iI pt), .int (iI md), .int (iI sx)]))]) [2] (by decide) rfl
        have hKc := hK.sub (tys' := []) [] rfl
        have hFc := va_free (wc := [(mm, .inr (4, [.int (iI 0), .ref ta, .int (iI tz), .ref ka, .int (iI nn), .ref da, .ref ya, .int (iI pt), .int (iI md), .int (iI sx)]))]) hD hS hA [2] rfl
        refine mv_call (mv_runV (As := [.int (iI 3)]) (rest := []) ⟨hx, hb, hml, hown, hT⟩ (c_M_fail l dC dI H.size mm 0 ta tz ka nn da ya pt md sx 3 ) (cwV 1 hT (gV wd556 wd558 wd16 wd30 wd559) rfl rfl rfl (by decide +kernel) ⟨show 0 + 1 ≤ 2 from by omega, show 8 + (2 + 11) + 0 ≤ 60 from by omega⟩) ⟨fun a U g mk q => by obtain ⟨q0, q1, qP, qK, qD⟩ := q; exact ⟨q0, q1, qP, va_K.moved (u := U) (U := U.calling g mk a) (Vm.Alike.refl U.vm) qK, qD⟩, va_recv hKc hPc (ci := 4) (q0 := 0) rfl rfl, fun U hU hW => ⟨rfl, by rw [hU], by rw [hU]; exact hPc, va_K.moved hW.alike hKc, hDc.weaken (fun _ _ _ _ => trivial)⟩⟩ rfl rfl hl.1 rfl (lv_room (Nat.le_of_ble_eq_true rfl)) dX4_number_79 ⟨show 0 + 0 + 0 ≤ 0 from by omega, show 0 + 0 + 0 ≤ 0 from by omega⟩) hS (fun q _ h => hFc q h) hFc (fun v15 u k13 n14 tS H1 locs ht hvm hw hB hz1 hk1 hS => ?_)
        obtain ⟨hP1, hK1, hD1⟩ := hB
        rw [ht] at hP1
        have hK1 := va_K.moved hvm.symm hK1
        try dsimp only at hw
        obtain ⟨hP, hD⟩ := va_join (wr := [(ka, .inl (cK, 4096, .inl (fun j => bI (kt j)))), (da, .inl (cD, 16400, .inl (fun j => iI (Vt j))))]) (w1 := [(mm, .inr (4, [.int (iI 3), .ref ta, .int (iI tz), .ref ka, .int (iI nn), .ref da, .ref ya, .int (iI pt), .int (iI md), .int (iI sx)]))]) hP hD [2] [0, 1] rfl rfl (by decide) (by decide) hk1 hFc hP1 hD1
        have hK := (hK.sub (tys' := [(cK, .byte), (cD, .int)]) [0, 1] rfl).app hK1
        generalize H1 = H at hP hS ⊢
        have hP : va_P (dC, dI) vwCl [(ka, .inl (cK, 4096, .inl (fun j => bI (kt j)))), (da, .inl (cD, 16400, .inl (fun j => iI (Vt j)))), (mm, .inr (4, [.int (iI 3), .ref ta, .int (iI tz), .ref ka, .int (iI nn), .ref da, .ref ya, .int (iI pt), .int (iI md), .int (iI sx)]))] H := hP
        have hD : va_D A [(ka, .inl (cK, 4096, .inl (fun j => bI (kt j)))), (da, .inl (cD, 16400, .inl (fun j => iI (Vt j)))), (mm, .inr (4, [.int (iI 3), .ref ta, .int (iI tz), .ref ka, .int (iI nn), .ref da, .ref ya, .int (iI pt), .int (iI md), .int (iI sx)]))] := hD
        have hK : va_K (dC, dI) vwCl [(cK, .byte), (cD, .int)] s := hK
        obtain ⟨rfl, rfl, rfl⟩ := hw
        refine W.eq (g2 := F0 m 82 ls [.int (iI 0)]) rfl ?_
        refine li_i2l hx hb (by omega) dX4_number_82 ?_
        subst hQ9
        have hP9 := hP.sub (ws' := [(mm, .inr (4, [.int (iI 3), .ref ta, .int (iI tz), .ref ka, .int (iI nn), .ref da, .ref ya, .int (iI pt), .int (iI md), .int (iI sx)])), (ka, .inl (cK, 4096, .inl (fun j => bI (kt j)))), (da, .inl (cD, 16400, .inl (fun j => iI (Vt j))))]) [2, 0, 1] rfl
        have hD9 := hD.sub (ws' := [(mm, .inr (4, [.int (iI 3), .ref ta, .int (iI tz), .ref ka, .int (iI nn), .ref da, .ref ya, .int (iI pt), .int (iI md), .int (iI sx)])), (ka, .inl (cK, 4096, .inl (fun j => bI (kt j)))), (da, .inl (cD, 16400, .inl (fun j => iI (Vt j))))]) [2, 0, 1] (by decide) rfl
        have hK9 := hK.sub (tys' := [(cK, .byte), (cD, .int)]) [0, 1] rfl
        exact mv_lret hx hb hr hlocks (fun tS ht hW => ⟨⟨_, (3, 0), rfl, ⟨rfl, Or.inr (Or.inr (Or.inr (⟨rfl, ⟨by omega, by omega, by omega, by unfold hnum; omega⟩⟩))), by omega, by omega⟩, by rw [ht]; exact hP9, va_K.moved hW.alike hK9, hD9⟩, hS.F ht⟩) hS.2.2 dX4_number_83
      · skip
        refine lv_iload_n hx hb dX4_number_71 rfl (lv_at hl 0 rfl) ?_
        refine lv_bipush (v := iI 8) hx hb dX4_number_72 (by decide +kernel) ?_
        refine li_icmp_le (tgt := 84) hx hb (by omega) (by omega) dX4_number_74 (by decide) (fun c16 => ?_) (fun c16 => ?_)
        · skip
          have hc0 := cat_rng hkb V a 0
          have hc1 := cat_rng hkb V a 1
          have hk0 : kt (z10 : Int).toNat = cat L V a 0 := by rw [show z10 = z10 + 0 by omega]; exact kcat hkb (by omega) (by omega) (by omega) (by omega)
          have hk1 : 2 ≤ z11 → kt (z10 + 1 : Int).toNat = cat L V a 1 := fun h => kcat hkb (by omega) (by omega) (by omega) (by omega)
          refine lv_iload_n hx hb dX4_number_84 rfl (lv_at hl 0 rfl) ?_
          refine lv_iconst (v := iI 1) hx hb dX4_number_85 rfl ?_
          refine li_icmp_le (tgt := 137) hx hb (by omega) (by omega) dX4_number_86 (by decide) (fun c17 => ?_) (fun c17 => ?_)
          · skip
            refine lv_aload_n hx hb dX4_number_137 rfl (lv_at hl 2 rfl) ?_
            refine va_get (D := (dC, dI)) (ci := 4) (v := .ref ka) (C := RX4) (T := TX4) (N := 10) hx hb hT inX4 hown hK hP 2 rfl rfl 3 (by decide) (hT _ wd520) (fun _ h9 => h9) rfl dX4_number_138 ?_
            refine lv_iload_n hx hb dX4_number_141 rfl (lv_at hl 1 rfl) ?_
            refine li_bald hx hb hK hP 0 0 rfl rfl (z := z10) (by omega) (by omega) dX4_number_142 ?_
            refine li_bnm (hw5 _) (fun z18 ez18 => ?_)
            refine li_i2l hx hb (by omega) dX4_number_143 ?_
            refine lv_lstore (lv' := [(4, .long (lI z18)), (3, .int (iI z11)), (2, .int (iI z10)), (0, .ref mm), (1, .int (iI a))]) hx hb dX4_number_144 hl (by decide) rfl (fun ls hl => ?_)
            refine lv_iconst (v := iI 1) hx hb dX4_number_146 rfl ?_
            refine lv_istore (lv' := [(6, .int (iI 1)), (4, .long (lI z18)), (3, .int (iI z11)), (2, .int (iI z10)), (0, .ref mm), (1, .int (iI a))]) hx hb dX4_number_147 hl (by decide) rfl (fun ls hl => ?_)
            exact LP (10) z18 1 z10 z11 _ _ _ _ _ (by omega) (by omega) (by omega) (by omega) (by omega) (by unfold hnum; omega) (sgn_1 (by omega) (by omega) (by omega) hc0 (by omega)) (by omega) (hK.sub [0, 1] rfl) (hP.sub [2, 0, 1] rfl) (hD.sub [2, 0, 1] (by decide) rfl) hS (lv_sub hl [4, 5, 3, 2, 1, 0] rfl)
          · skip
            refine lv_aload_n hx hb dX4_number_89 rfl (lv_at hl 2 rfl) ?_
            refine va_get (D := (dC, dI)) (ci := 4) (v := .ref ka) (C := RX4) (T := TX4) (N := 10) hx hb hT inX4 hown hK hP 2 rfl rfl 3 (by decide) (hT _ wd520) (fun _ h9 => h9) rfl dX4_number_90 ?_
            refine lv_iload_n hx hb dX4_number_93 rfl (lv_at hl 1 rfl) ?_
            refine li_bald hx hb hK hP 0 0 rfl rfl (z := z10) (by omega) (by omega) dX4_number_94 ?_
            refine li_bnm (hw5 _) (fun z19 ez19 => ?_)
            refine li_if_ne (tgt := 109) hx hb (by omega) dX4_number_95 (by decide) (fun c20 => ?_) (fun c20 => ?_)
            · skip
              refine lv_aload_n hx hb dX4_number_109 rfl (lv_at hl 2 rfl) ?_
              refine va_get (D := (dC, dI)) (ci := 4) (v := .ref ka) (C := RX4) (T := TX4) (N := 10) hx hb hT inX4 hown hK hP 2 rfl rfl 3 (by decide) (hT _ wd520) (fun _ h9 => h9) rfl dX4_number_110 ?_
              refine lv_iload_n hx hb dX4_number_113 rfl (lv_at hl 1 rfl) ?_
              refine li_bald hx hb hK hP 0 0 rfl rfl (z := z10) (by omega) (by omega) dX4_number_114 ?_
              refine li_bnm (hw5 _) (fun z21 ez21 => ?_)
              refine lv_iconst (v := iI (-1)) hx hb dX4_number_115 rfl ?_
              refine li_icmp_ne (tgt := 137) hx hb (by omega) (by omega) dX4_number_116 (by decide) (fun c22 => ?_) (fun c22 => ?_)
              · skip
                refine lv_aload_n hx hb dX4_number_137 rfl (lv_at hl 2 rfl) ?_
                refine va_get (D := (dC, dI)) (ci := 4) (v := .ref ka) (C := RX4) (T := TX4) (N := 10) hx hb hT inX4 hown hK hP 2 rfl rfl 3 (by decide) (hT _ wd520) (fun _ h9 => h9) rfl dX4_number_138 ?_
                refine lv_iload_n hx hb dX4_number_141 rfl (lv_at hl 1 rfl) ?_
                refine li_bald hx hb hK hP 0 0 rfl rfl (z := z10) (by omega) (by omega) dX4_number_142 ?_
                refine li_bnm (hw5 _) (fun z23 ez23 => ?_)
                refine li_i2l hx hb (by omega) dX4_number_143 ?_
                refine lv_lstore (lv' := [(4, .long (lI z23)), (3, .int (iI z11)), (2, .int (iI z10)), (0, .ref mm), (1, .int (iI a))]) hx hb dX4_number_144 hl (by decide) rfl (fun ls hl => ?_)
                refine lv_iconst (v := iI 1) hx hb dX4_number_146 rfl ?_
                refine lv_istore (lv' := [(6, .int (iI 1)), (4, .long (lI z23)), (3, .int (iI z11)), (2, .int (iI z10)), (0, .ref mm), (1, .int (iI a))]) hx hb dX4_number_147 hl (by decide) rfl (fun ls hl => ?_)
                exact LP (10) z23 1 z10 z11 _ _ _ _ _ (by omega) (by omega) (by omega) (by omega) (by omega) (by unfold hnum; omega) (sgn_1 (by omega) (by omega) (by omega) hc0 (by omega)) (by omega) (hK.sub [0, 1] rfl) (hP.sub [2, 0, 1] rfl) (hD.sub [2, 0, 1] (by decide) rfl) hS (lv_sub hl [4, 5, 3, 2, 1, 0] rfl)
              · skip
                refine lv_aload_n hx hb dX4_number_119 rfl (lv_at hl 2 rfl) ?_
                refine va_get (D := (dC, dI)) (ci := 4) (v := .ref ka) (C := RX4) (T := TX4) (N := 10) hx hb hT inX4 hown hK hP 2 rfl rfl 3 (by decide) (hT _ wd520) (fun _ h9 => h9) rfl dX4_number_120 ?_
                refine lv_iload_n hx hb dX4_number_123 rfl (lv_at hl 1 rfl) ?_
                refine lv_iconst (v := iI 1) hx hb dX4_number_124 rfl ?_
                refine li_iadd hx hb dX4_number_125 ?_
                refine li_bald hx hb hK hP 0 0 rfl rfl (z := (z10 + 1)) (by omega) (by omega) dX4_number_126 ?_
                refine li_bnm (hw5 _) (fun z24 ez24 => ?_)
                refine li_if_ge (tgt := 137) hx hb (by omega) dX4_number_127 (by decide) (fun c25 => ?_) (fun c25 => ?_)
                · skip
                  refine lv_aload_n hx hb dX4_number_137 rfl (lv_at hl 2 rfl) ?_
                  refine va_get (D := (dC, dI)) (ci := 4) (v := .ref ka) (C := RX4) (T := TX4) (N := 10) hx hb hT inX4 hown hK hP 2 rfl rfl 3 (by decide) (hT _ wd520) (fun _ h9 => h9) rfl dX4_number_138 ?_
                  refine lv_iload_n hx hb dX4_number_141 rfl (lv_at hl 1 rfl) ?_
                  refine li_bald hx hb hK hP 0 0 rfl rfl (z := z10) (by omega) (by omega) dX4_number_142 ?_
                  refine li_bnm (hw5 _) (fun z26 ez26 => ?_)
                  refine li_i2l hx hb (by omega) dX4_number_143 ?_
                  refine lv_lstore (lv' := [(4, .long (lI z26)), (3, .int (iI z11)), (2, .int (iI z10)), (0, .ref mm), (1, .int (iI a))]) hx hb dX4_number_144 hl (by decide) rfl (fun ls hl => ?_)
                  refine lv_iconst (v := iI 1) hx hb dX4_number_146 rfl ?_
                  refine lv_istore (lv' := [(6, .int (iI 1)), (4, .long (lI z26)), (3, .int (iI z11)), (2, .int (iI z10)), (0, .ref mm), (1, .int (iI a))]) hx hb dX4_number_147 hl (by decide) rfl (fun ls hl => ?_)
                  exact LP (10) z26 1 z10 z11 _ _ _ _ _ (by omega) (by omega) (by omega) (by omega) (by omega) (by unfold hnum; omega) (sgn_1 (by omega) (by omega) (by omega) hc0 (by omega)) (by omega) (hK.sub [0, 1] rfl) (hP.sub [2, 0, 1] rfl) (hD.sub [2, 0, 1] (by decide) rfl) hS (lv_sub hl [4, 5, 3, 2, 1, 0] rfl)
                · skip
                  refine lv_aload_n hx hb dX4_number_130 rfl (lv_at hl 2 rfl) ?_
                  refine lv_iconst (v := iI 3) hx hb dX4_number_131 rfl ?_
                  have hPc := hP.sub (ws' := [(mm, .inr (4, [.int (iI 0), .ref ta, .int (iI tz), .ref ka, .int (iI nn), .ref da, .ref ya, .int (iI pt), .int (iI md), .int (iI sx)]))]) [2] rfl
                  have hDc := hD.sub (ws' := [(mm, .inr (4, [.int (iI 0), .ref ta, .int (iI tz), .ref ka, .int (iI nn), .ref da, .ref ya, .int (iI pt), .int (iI md), .int (iI sx)]))]) [2] (by decide) rfl
                  have hKc := hK.sub (tys' := []) [] rfl
                  have hFc := va_free (wc := [(mm, .inr (4, [.int (iI 0), .ref ta, .int (iI tz), .ref ka, .int (iI nn), .ref da, .ref ya, .int (iI pt), .int (iI md), .int (iI sx)]))]) hD hS hA [2] rfl
                  refine mv_call (mv_runV (As := [.int (iI 3)]) (rest := []) ⟨hx, hb, hml, hown, hT⟩ (c_M_fail l dC dI H.size mm 0 ta tz ka nn da ya pt md sx 3 ) (cwV 1 hT (gV wd556 wd558 wd16 wd30 wd559) rfl rfl rfl (by decide +kernel) ⟨show 0 + 1 ≤ 2 from by omega, show 8 + (2 + 11) + 0 ≤ 60 from by omega⟩) ⟨fun a U g mk q => by obtain ⟨q0, q1, qP, qK, qD⟩ := q; exact ⟨q0, q1, qP, va_K.moved (u := U) (U := U.calling g mk a) (Vm.Alike.refl U.vm) qK, qD⟩, va_recv hKc hPc (ci := 4) (q0 := 0) rfl rfl, fun U hU hW => ⟨rfl, by rw [hU], by rw [hU]; exact hPc, va_K.moved hW.alike hKc, hDc.weaken (fun _ _ _ _ => trivial)⟩⟩ rfl rfl hl.1 rfl (lv_room (Nat.le_of_ble_eq_true rfl)) dX4_number_132 ⟨show 0 + 0 + 0 ≤ 0 from by omega, show 0 + 0 + 0 ≤ 0 from by omega⟩) hS (fun q _ h => hFc q h) hFc (fun v29 u k27 n28 tS H1 locs ht hvm hw hB hz1 hk1 hS => ?_)
                  obtain ⟨hP1, hK1, hD1⟩ := hB
                  rw [ht] at hP1
                  have hK1 := va_K.moved hvm.symm hK1
                  try dsimp only at hw
                  obtain ⟨hP, hD⟩ := va_join (wr := [(ka, .inl (cK, 4096, .inl (fun j => bI (kt j)))), (da, .inl (cD, 16400, .inl (fun j => iI (Vt j))))]) (w1 := [(mm, .inr (4, [.int (iI 3), .ref ta, .int (iI tz), .ref ka, .int (iI nn), .ref da, .ref ya, .int (iI pt), .int (iI md), .int (iI sx)]))]) hP hD [2] [0, 1] rfl rfl (by decide) (by decide) hk1 hFc hP1 hD1
                  have hK := (hK.sub (tys' := [(cK, .byte), (cD, .int)]) [0, 1] rfl).app hK1
                  generalize H1 = H at hP hS ⊢
                  have hP : va_P (dC, dI) vwCl [(ka, .inl (cK, 4096, .inl (fun j => bI (kt j)))), (da, .inl (cD, 16400, .inl (fun j => iI (Vt j)))), (mm, .inr (4, [.int (iI 3), .ref ta, .int (iI tz), .ref ka, .int (iI nn), .ref da, .ref ya, .int (iI pt), .int (iI md), .int (iI sx)]))] H := hP
                  have hD : va_D A [(ka, .inl (cK, 4096, .inl (fun j => bI (kt j)))), (da, .inl (cD, 16400, .inl (fun j => iI (Vt j)))), (mm, .inr (4, [.int (iI 3), .ref ta, .int (iI tz), .ref ka, .int (iI nn), .ref da, .ref ya, .int (iI pt), .int (iI md), .int (iI sx)]))] := hD
                  have hK : va_K (dC, dI) vwCl [(cK, .byte), (cD, .int)] s := hK
                  obtain ⟨rfl, rfl, rfl⟩ := hw
                  refine W.eq (g2 := F0 m 135 ls [.int (iI 0)]) rfl ?_
                  refine li_i2l hx hb (by omega) dX4_number_135 ?_
                  subst hQ9
                  have hP9 := hP.sub (ws' := [(mm, .inr (4, [.int (iI 3), .ref ta, .int (iI tz), .ref ka, .int (iI nn), .ref da, .ref ya, .int (iI pt), .int (iI md), .int (iI sx)])), (ka, .inl (cK, 4096, .inl (fun j => bI (kt j)))), (da, .inl (cD, 16400, .inl (fun j => iI (Vt j))))]) [2, 0, 1] rfl
                  have hD9 := hD.sub (ws' := [(mm, .inr (4, [.int (iI 3), .ref ta, .int (iI tz), .ref ka, .int (iI nn), .ref da, .ref ya, .int (iI pt), .int (iI md), .int (iI sx)])), (ka, .inl (cK, 4096, .inl (fun j => bI (kt j)))), (da, .inl (cD, 16400, .inl (fun j => iI (Vt j))))]) [2, 0, 1] (by decide) rfl
                  have hK9 := hK.sub (tys' := [(cK, .byte), (cD, .int)]) [0, 1] rfl
                  exact mv_lret hx hb hr hlocks (fun tS ht hW => ⟨⟨_, (3, 0), rfl, ⟨rfl, Or.inr (Or.inr (Or.inr (⟨rfl, ⟨by omega, by omega, by omega, by unfold hnum; omega⟩⟩))), by omega, by omega⟩, by rw [ht]; exact hP9, va_K.moved hW.alike hK9, hD9⟩, hS.F ht⟩) hS.2.2 dX4_number_136
            · skip
              refine lv_aload_n hx hb dX4_number_98 rfl (lv_at hl 2 rfl) ?_
              refine va_get (D := (dC, dI)) (ci := 4) (v := .ref ka) (C := RX4) (T := TX4) (N := 10) hx hb hT inX4 hown hK hP 2 rfl rfl 3 (by decide) (hT _ wd520) (fun _ h9 => h9) rfl dX4_number_99 ?_
              refine lv_iload_n hx hb dX4_number_102 rfl (lv_at hl 1 rfl) ?_
              refine lv_iconst (v := iI 1) hx hb dX4_number_103 rfl ?_
              refine li_iadd hx hb dX4_number_104 ?_
              refine li_bald hx hb hK hP 0 0 rfl rfl (z := (z10 + 1)) (by omega) (by omega) dX4_number_105 ?_
              refine li_bnm (hw5 _) (fun z30 ez30 => ?_)
              refine li_if_ge (tgt := 130) hx hb (by omega) dX4_number_106 (by decide) (fun c31 => ?_) (fun c31 => ?_)
              · skip
                refine lv_aload_n hx hb dX4_number_130 rfl (lv_at hl 2 rfl) ?_
                refine lv_iconst (v := iI 3) hx hb dX4_number_131 rfl ?_
                have hPc := hP.sub (ws' := [(mm, .inr (4, [.int (iI 0), .ref ta, .int (iI tz), .ref ka, .int (iI nn), .ref da, .ref ya, .int (iI pt), .int (iI md), .int (iI sx)]))]) [2] rfl
                have hDc := hD.sub (ws' := [(mm, .inr (4, [.int (iI 0), .ref ta, .int (iI tz), .ref ka, .int (iI nn), .ref da, .ref ya, .int (iI pt), .int (iI md), .int (iI sx)]))]) [2] (by decide) rfl
                have hKc := hK.sub (tys' := []) [] rfl
                have hFc := va_free (wc := [(mm, .inr (4, [.int (iI 0), .ref ta, .int (iI tz), .ref ka, .int (iI nn), .ref da, .ref ya, .int (iI pt), .int (iI md), .int (iI sx)]))]) hD hS hA [2] rfl
                refine mv_call (mv_runV (As := [.int (iI 3)]) (rest := []) ⟨hx, hb, hml, hown, hT⟩ (c_M_fail l dC dI H.size mm 0 ta tz ka nn da ya pt md sx 3 ) (cwV 1 hT (gV wd556 wd558 wd16 wd30 wd559) rfl rfl rfl (by decide +kernel) ⟨show 0 + 1 ≤ 2 from by omega, show 8 + (2 + 11) + 0 ≤ 60 from by omega⟩) ⟨fun a U g mk q => by obtain ⟨q0, q1, qP, qK, qD⟩ := q; exact ⟨q0, q1, qP, va_K.moved (u := U) (U := U.calling g mk a) (Vm.Alike.refl U.vm) qK, qD⟩, va_recv hKc hPc (ci := 4) (q0 := 0) rfl rfl, fun U hU hW => ⟨rfl, by rw [hU], by rw [hU]; exact hPc, va_K.moved hW.alike hKc, hDc.weaken (fun _ _ _ _ => trivial)⟩⟩ rfl rfl hl.1 rfl (lv_room (Nat.le_of_ble_eq_true rfl)) dX4_number_132 ⟨show 0 + 0 + 0 ≤ 0 from by omega, show 0 + 0 + 0 ≤ 0 from by omega⟩) hS (fun q _ h => hFc q h) hFc (fun v34 u k32 n33 tS H1 locs ht hvm hw hB hz1 hk1 hS => ?_)
                obtain ⟨hP1, hK1, hD1⟩ := hB
                rw [ht] at hP1
                have hK1 := va_K.moved hvm.symm hK1
                try dsimp only at hw
                obtain ⟨hP, hD⟩ := va_join (wr := [(ka, .inl (cK, 4096, .inl (fun j => bI (kt j)))), (da, .inl (cD, 16400, .inl (fun j => iI (Vt j))))]) (w1 := [(mm, .inr (4, [.int (iI 3), .ref ta, .int (iI tz), .ref ka, .int (iI nn), .ref da, .ref ya, .int (iI pt), .int (iI md), .int (iI sx)]))]) hP hD [2] [0, 1] rfl rfl (by decide) (by decide) hk1 hFc hP1 hD1
                have hK := (hK.sub (tys' := [(cK, .byte), (cD, .int)]) [0, 1] rfl).app hK1
                generalize H1 = H at hP hS ⊢
                have hP : va_P (dC, dI) vwCl [(ka, .inl (cK, 4096, .inl (fun j => bI (kt j)))), (da, .inl (cD, 16400, .inl (fun j => iI (Vt j)))), (mm, .inr (4, [.int (iI 3), .ref ta, .int (iI tz), .ref ka, .int (iI nn), .ref da, .ref ya, .int (iI pt), .int (iI md), .int (iI sx)]))] H := hP
                have hD : va_D A [(ka, .inl (cK, 4096, .inl (fun j => bI (kt j)))), (da, .inl (cD, 16400, .inl (fun j => iI (Vt j)))), (mm, .inr (4, [.int (iI 3), .ref ta, .int (iI tz), .ref ka, .int (iI nn), .ref da, .ref ya, .int (iI pt), .int (iI md), .int (iI sx)]))] := hD
                have hK : va_K (dC, dI) vwCl [(cK, .byte), (cD, .int)] s := hK
                obtain ⟨rfl, rfl, rfl⟩ := hw
                refine W.eq (g2 := F0 m 135 ls [.int (iI 0)]) rfl ?_
                refine li_i2l hx hb (by omega) dX4_number_135 ?_
                subst hQ9
                have hP9 := hP.sub (ws' := [(mm, .inr (4, [.int (iI 3), .ref ta, .int (iI tz), .ref ka, .int (iI nn), .ref da, .ref ya, .int (iI pt), .int (iI md), .int (iI sx)])), (ka, .inl (cK, 4096, .inl (fun j => bI (kt j)))), (da, .inl (cD, 16400, .inl (fun j => iI (Vt j))))]) [2, 0, 1] rfl
                have hD9 := hD.sub (ws' := [(mm, .inr (4, [.int (iI 3), .ref ta, .int (iI tz), .ref ka, .int (iI nn), .ref da, .ref ya, .int (iI pt), .int (iI md), .int (iI sx)])), (ka, .inl (cK, 4096, .inl (fun j => bI (kt j)))), (da, .inl (cD, 16400, .inl (fun j => iI (Vt j))))]) [2, 0, 1] (by decide) rfl
                have hK9 := hK.sub (tys' := [(cK, .byte), (cD, .int)]) [0, 1] rfl
                exact mv_lret hx hb hr hlocks (fun tS ht hW => ⟨⟨_, (3, 0), rfl, ⟨rfl, Or.inr (Or.inr (Or.inr (⟨rfl, ⟨by omega, by omega, by omega, by unfold hnum; omega⟩⟩))), by omega, by omega⟩, by rw [ht]; exact hP9, va_K.moved hW.alike hK9, hD9⟩, hS.F ht⟩) hS.2.2 dX4_number_136
              · skip
                refine lv_aload_n hx hb dX4_number_109 rfl (lv_at hl 2 rfl) ?_
                refine va_get (D := (dC, dI)) (ci := 4) (v := .ref ka) (C := RX4) (T := TX4) (N := 10) hx hb hT inX4 hown hK hP 2 rfl rfl 3 (by decide) (hT _ wd520) (fun _ h9 => h9) rfl dX4_number_110 ?_
                refine lv_iload_n hx hb dX4_number_113 rfl (lv_at hl 1 rfl) ?_
                refine li_bald hx hb hK hP 0 0 rfl rfl (z := z10) (by omega) (by omega) dX4_number_114 ?_
                refine li_bnm (hw5 _) (fun z35 ez35 => ?_)
                refine lv_iconst (v := iI (-1)) hx hb dX4_number_115 rfl ?_
                refine li_icmp_ne (tgt := 137) hx hb (by omega) (by omega) dX4_number_116 (by decide) (fun c36 => ?_) (fun c36 => ?_)
                · skip
                  refine lv_aload_n hx hb dX4_number_137 rfl (lv_at hl 2 rfl) ?_
                  refine va_get (D := (dC, dI)) (ci := 4) (v := .ref ka) (C := RX4) (T := TX4) (N := 10) hx hb hT inX4 hown hK hP 2 rfl rfl 3 (by decide) (hT _ wd520) (fun _ h9 => h9) rfl dX4_number_138 ?_
                  refine lv_iload_n hx hb dX4_number_141 rfl (lv_at hl 1 rfl) ?_
                  refine li_bald hx hb hK hP 0 0 rfl rfl (z := z10) (by omega) (by omega) dX4_number_142 ?_
                  refine li_bnm (hw5 _) (fun z37 ez37 => ?_)
                  refine li_i2l hx hb (by omega) dX4_number_143 ?_
                  refine lv_lstore (lv' := [(4, .long (lI z37)), (3, .int (iI z11)), (2, .int (iI z10)), (0, .ref mm), (1, .int (iI a))]) hx hb dX4_number_144 hl (by decide) rfl (fun ls hl => ?_)
                  refine lv_iconst (v := iI 1) hx hb dX4_number_146 rfl ?_
                  refine lv_istore (lv' := [(6, .int (iI 1)), (4, .long (lI z37)), (3, .int (iI z11)), (2, .int (iI z10)), (0, .ref mm), (1, .int (iI a))]) hx hb dX4_number_147 hl (by decide) rfl (fun ls hl => ?_)
                  exact LP (10) z37 1 z10 z11 _ _ _ _ _ (by omega) (by omega) (by omega) (by omega) (by omega) (by unfold hnum; omega) (sgn_1 (by omega) (by omega) (by omega) hc0 (by omega)) (by omega) (hK.sub [0, 1] rfl) (hP.sub [2, 0, 1] rfl) (hD.sub [2, 0, 1] (by decide) rfl) hS (lv_sub hl [4, 5, 3, 2, 1, 0] rfl)
                · skip
                  refine lv_aload_n hx hb dX4_number_119 rfl (lv_at hl 2 rfl) ?_
                  refine va_get (D := (dC, dI)) (ci := 4) (v := .ref ka) (C := RX4) (T := TX4) (N := 10) hx hb hT inX4 hown hK hP 2 rfl rfl 3 (by decide) (hT _ wd520) (fun _ h9 => h9) rfl dX4_number_120 ?_
                  refine lv_iload_n hx hb dX4_number_123 rfl (lv_at hl 1 rfl) ?_
                  refine lv_iconst (v := iI 1) hx hb dX4_number_124 rfl ?_
                  refine li_iadd hx hb dX4_number_125 ?_
                  refine li_bald hx hb hK hP 0 0 rfl rfl (z := (z10 + 1)) (by omega) (by omega) dX4_number_126 ?_
                  refine li_bnm (hw5 _) (fun z38 ez38 => ?_)
                  refine li_if_ge (tgt := 137) hx hb (by omega) dX4_number_127 (by decide) (fun c39 => ?_) (fun c39 => ?_)
                  · skip
                    refine lv_aload_n hx hb dX4_number_137 rfl (lv_at hl 2 rfl) ?_
                    refine va_get (D := (dC, dI)) (ci := 4) (v := .ref ka) (C := RX4) (T := TX4) (N := 10) hx hb hT inX4 hown hK hP 2 rfl rfl 3 (by decide) (hT _ wd520) (fun _ h9 => h9) rfl dX4_number_138 ?_
                    refine lv_iload_n hx hb dX4_number_141 rfl (lv_at hl 1 rfl) ?_
                    refine li_bald hx hb hK hP 0 0 rfl rfl (z := z10) (by omega) (by omega) dX4_number_142 ?_
                    refine li_bnm (hw5 _) (fun z40 ez40 => ?_)
                    refine li_i2l hx hb (by omega) dX4_number_143 ?_
                    refine lv_lstore (lv' := [(4, .long (lI z40)), (3, .int (iI z11)), (2, .int (iI z10)), (0, .ref mm), (1, .int (iI a))]) hx hb dX4_number_144 hl (by decide) rfl (fun ls hl => ?_)
                    refine lv_iconst (v := iI 1) hx hb dX4_number_146 rfl ?_
                    refine lv_istore (lv' := [(6, .int (iI 1)), (4, .long (lI z40)), (3, .int (iI z11)), (2, .int (iI z10)), (0, .ref mm), (1, .int (iI a))]) hx hb dX4_number_147 hl (by decide) rfl (fun ls hl => ?_)
                    exact LP (10) z40 1 z10 z11 _ _ _ _ _ (by omega) (by omega) (by omega) (by omega) (by omega) (by unfold hnum; omega) (sgn_1 (by omega) (by omega) (by omega) hc0 (by omega)) (by omega) (hK.sub [0, 1] rfl) (hP.sub [2, 0, 1] rfl) (hD.sub [2, 0, 1] (by decide) rfl) hS (lv_sub hl [4, 5, 3, 2, 1, 0] rfl)
                  · skip
                    refine lv_aload_n hx hb dX4_number_130 rfl (lv_at hl 2 rfl) ?_
                    refine lv_iconst (v := iI 3) hx hb dX4_number_131 rfl ?_
                    have hPc := hP.sub (ws' := [(mm, .inr (4, [.int (iI 0), .ref ta, .int (iI tz), .ref ka, .int (iI nn), .ref da, .ref ya, .int (iI pt), .int (iI md), .int (iI sx)]))]) [2] rfl
                    have hDc := hD.sub (ws' := [(mm, .inr (4, [.int (iI 0), .ref ta, .int (iI tz), .ref ka, .int (iI nn), .ref da, .ref ya, .int (iI pt), .int (iI md), .int (iI sx)]))]) [2] (by decide) rfl
                    have hKc := hK.sub (tys' := []) [] rfl
                    have hFc := va_free (wc := [(mm, .inr (4, [.int (iI 0), .ref ta, .int (iI tz), .ref ka, .int (iI nn), .ref da, .ref ya, .int (iI pt), .int (iI md), .int (iI sx)]))]) hD hS hA [2] rfl
                    refine mv_call (mv_runV (As := [.int (iI 3)]) (rest := []) ⟨hx, hb, hml, hown, hT⟩ (c_M_fail l dC dI H.size mm 0 ta tz ka nn da ya pt md sx 3 ) (cwV 1 hT (gV wd556 wd558 wd16 wd30 wd559) rfl rfl rfl (by decide +kernel) ⟨show 0 + 1 ≤ 2 from by omega, show 8 + (2 + 11) + 0 ≤ 60 from by omega⟩) ⟨fun a U g mk q => by obtain ⟨q0, q1, qP, qK, qD⟩ := q; exact ⟨q0, q1, qP, va_K.moved (u := U) (U := U.calling g mk a) (Vm.Alike.refl U.vm) qK, qD⟩, va_recv hKc hPc (ci := 4) (q0 := 0) rfl rfl, fun U hU hW => ⟨rfl, by rw [hU], by rw [hU]; exact hPc, va_K.moved hW.alike hKc, hDc.weaken (fun _ _ _ _ => trivial)⟩⟩ rfl rfl hl.1 rfl (lv_room (Nat.le_of_ble_eq_true rfl)) dX4_number_132 ⟨show 0 + 0 + 0 ≤ 0 from by omega, show 0 + 0 + 0 ≤ 0 from by omega⟩) hS (fun q _ h => hFc q h) hFc (fun v43 u k41 n42 tS H1 locs ht hvm hw hB hz1 hk1 hS => ?_)
                    obtain ⟨hP1, hK1, hD1⟩ := hB
                    rw [ht] at hP1
                    have hK1 := va_K.moved hvm.symm hK1
                    try dsimp only at hw
                    obtain ⟨hP, hD⟩ := va_join (wr := [(ka, .inl (cK, 4096, .inl (fun j => bI (kt j)))), (da, .inl (cD, 16400, .inl (fun j => iI (Vt j))))]) (w1 := [(mm, .inr (4, [.int (iI 3), .ref ta, .int (iI tz), .ref ka, .int (iI nn), .ref da, .ref ya, .int (iI pt), .int (iI md), .int (iI sx)]))]) hP hD [2] [0, 1] rfl rfl (by decide) (by decide) hk1 hFc hP1 hD1
                    have hK := (hK.sub (tys' := [(cK, .byte), (cD, .int)]) [0, 1] rfl).app hK1
                    generalize H1 = H at hP hS ⊢
                    have hP : va_P (dC, dI) vwCl [(ka, .inl (cK, 4096, .inl (fun j => bI (kt j)))), (da, .inl (cD, 16400, .inl (fun j => iI (Vt j)))), (mm, .inr (4, [.int (iI 3), .ref ta, .int (iI tz), .ref ka, .int (iI nn), .ref da, .ref ya, .int (iI pt), .int (iI md), .int (iI sx)]))] H := hP
                    have hD : va_D A [(ka, .inl (cK, 4096, .inl (fun j => bI (kt j)))), (da, .inl (cD, 16400, .inl (fun j => iI (Vt j)))), (mm, .inr (4, [.int (iI 3), .ref ta, .int (iI tz), .ref ka, .int (iI nn), .ref da, .ref ya, .int (iI pt), .int (iI md), .int (iI sx)]))] := hD
                    have hK : va_K (dC, dI) vwCl [(cK, .byte), (cD, .int)] s := hK
                    obtain ⟨rfl, rfl, rfl⟩ := hw
                    refine W.eq (g2 := F0 m 135 ls [.int (iI 0)]) rfl ?_
                    refine li_i2l hx hb (by omega) dX4_number_135 ?_
                    subst hQ9
                    have hP9 := hP.sub (ws' := [(mm, .inr (4, [.int (iI 3), .ref ta, .int (iI tz), .ref ka, .int (iI nn), .ref da, .ref ya, .int (iI pt), .int (iI md), .int (iI sx)])), (ka, .inl (cK, 4096, .inl (fun j => bI (kt j)))), (da, .inl (cD, 16400, .inl (fun j => iI (Vt j))))]) [2, 0, 1] rfl
                    have hD9 := hD.sub (ws' := [(mm, .inr (4, [.int (iI 3), .ref ta, .int (iI tz), .ref ka, .int (iI nn), .ref da, .ref ya, .int (iI pt), .int (iI md), .int (iI sx)])), (ka, .inl (cK, 4096, .inl (fun j => bI (kt j)))), (da, .inl (cD, 16400, .inl (fun j => iI (Vt j))))]) [2, 0, 1] (by decide) rfl
                    have hK9 := hK.sub (tys' := [(cK, .byte), (cD, .int)]) [0, 1] rfl
                    exact mv_lret hx hb hr hlocks (fun tS ht hW => ⟨⟨_, (3, 0), rfl, ⟨rfl, Or.inr (Or.inr (Or.inr (⟨rfl, ⟨by omega, by omega, by omega, by unfold hnum; omega⟩⟩))), by omega, by omega⟩, by rw [ht]; exact hP9, va_K.moved hW.alike hK9, hD9⟩, hS.F ht⟩) hS.2.2 dX4_number_136
        · skip
          refine lv_aload_n hx hb dX4_number_77 rfl (lv_at hl 2 rfl) ?_
          refine lv_iconst (v := iI 3) hx hb dX4_number_78 rfl ?_
          have hPc := hP.sub (ws' := [(mm, .inr (4, [.int (iI 0), .ref ta, .int (iI tz), .ref ka, .int (iI nn), .ref da, .ref ya, .int (iI pt), .int (iI md), .int (iI sx)]))]) [2] rfl
          have hDc := hD.sub (ws' := [(mm, .inr (4, [.int (iI 0), .ref ta, .int (iI tz), .ref ka, .int (iI nn), .ref da, .ref ya, .int (iI pt), .int (iI md), .int (iI sx)]))]) [2] (by decide) rfl
          have hKc := hK.sub (tys' := []) [] rfl
          have hFc := va_free (wc := [(mm, .inr (4, [.int (iI 0), .ref ta, .int (iI tz), .ref ka, .int (iI nn), .ref da, .ref ya, .int (iI pt), .int (iI md), .int (iI sx)]))]) hD hS hA [2] rfl
          refine mv_call (mv_runV (As := [.int (iI 3)]) (rest := []) ⟨hx, hb, hml, hown, hT⟩ (c_M_fail l dC dI H.size mm 0 ta tz ka nn da ya pt md sx 3 ) (cwV 1 hT (gV wd556 wd558 wd16 wd30 wd559) rfl rfl rfl (by decide +kernel) ⟨show 0 + 1 ≤ 2 from by omega, show 8 + (2 + 11) + 0 ≤ 60 from by omega⟩) ⟨fun a U g mk q => by obtain ⟨q0, q1, qP, qK, qD⟩ := q; exact ⟨q0, q1, qP, va_K.moved (u := U) (U := U.calling g mk a) (Vm.Alike.refl U.vm) qK, qD⟩, va_recv hKc hPc (ci := 4) (q0 := 0) rfl rfl, fun U hU hW => ⟨rfl, by rw [hU], by rw [hU]; exact hPc, va_K.moved hW.alike hKc, hDc.weaken (fun _ _ _ _ => trivial)⟩⟩ rfl rfl hl.1 rfl (lv_room (Nat.le_of_ble_eq_true rfl)) dX4_number_79 ⟨show 0 + 0 + 0 ≤ 0 from by omega, show 0 + 0 + 0 ≤ 0 from by omega⟩) hS (fun q _ h => hFc q h) hFc (fun v46 u k44 n45 tS H1 locs ht hvm hw hB hz1 hk1 hS => ?_)
          obtain ⟨hP1, hK1, hD1⟩ := hB
          rw [ht] at hP1
          have hK1 := va_K.moved hvm.symm hK1
          try dsimp only at hw
          obtain ⟨hP, hD⟩ := va_join (wr := [(ka, .inl (cK, 4096, .inl (fun j => bI (kt j)))), (da, .inl (cD, 16400, .inl (fun j => iI (Vt j))))]) (w1 := [(mm, .inr (4, [.int (iI 3), .ref ta, .int (iI tz), .ref ka, .int (iI nn), .ref da, .ref ya, .int (iI pt), .int (iI md), .int (iI sx)]))]) hP hD [2] [0, 1] rfl rfl (by decide) (by decide) hk1 hFc hP1 hD1
          have hK := (hK.sub (tys' := [(cK, .byte), (cD, .int)]) [0, 1] rfl).app hK1
          generalize H1 = H at hP hS ⊢
          have hP : va_P (dC, dI) vwCl [(ka, .inl (cK, 4096, .inl (fun j => bI (kt j)))), (da, .inl (cD, 16400, .inl (fun j => iI (Vt j)))), (mm, .inr (4, [.int (iI 3), .ref ta, .int (iI tz), .ref ka, .int (iI nn), .ref da, .ref ya, .int (iI pt), .int (iI md), .int (iI sx)]))] H := hP
          have hD : va_D A [(ka, .inl (cK, 4096, .inl (fun j => bI (kt j)))), (da, .inl (cD, 16400, .inl (fun j => iI (Vt j)))), (mm, .inr (4, [.int (iI 3), .ref ta, .int (iI tz), .ref ka, .int (iI nn), .ref da, .ref ya, .int (iI pt), .int (iI md), .int (iI sx)]))] := hD
          have hK : va_K (dC, dI) vwCl [(cK, .byte), (cD, .int)] s := hK
          obtain ⟨rfl, rfl, rfl⟩ := hw
          refine W.eq (g2 := F0 m 82 ls [.int (iI 0)]) rfl ?_
          refine li_i2l hx hb (by omega) dX4_number_82 ?_
          subst hQ9
          have hP9 := hP.sub (ws' := [(mm, .inr (4, [.int (iI 3), .ref ta, .int (iI tz), .ref ka, .int (iI nn), .ref da, .ref ya, .int (iI pt), .int (iI md), .int (iI sx)])), (ka, .inl (cK, 4096, .inl (fun j => bI (kt j)))), (da, .inl (cD, 16400, .inl (fun j => iI (Vt j))))]) [2, 0, 1] rfl
          have hD9 := hD.sub (ws' := [(mm, .inr (4, [.int (iI 3), .ref ta, .int (iI tz), .ref ka, .int (iI nn), .ref da, .ref ya, .int (iI pt), .int (iI md), .int (iI sx)])), (ka, .inl (cK, 4096, .inl (fun j => bI (kt j)))), (da, .inl (cD, 16400, .inl (fun j => iI (Vt j))))]) [2, 0, 1] (by decide) rfl
          have hK9 := hK.sub (tys' := [(cK, .byte), (cD, .int)]) [0, 1] rfl
          exact mv_lret hx hb hr hlocks (fun tS ht hW => ⟨⟨_, (3, 0), rfl, ⟨rfl, Or.inr (Or.inr (Or.inr (⟨rfl, ⟨by omega, by omega, by omega, by unfold hnum; omega⟩⟩))), by omega, by omega⟩, by rw [ht]; exact hP9, va_K.moved hW.alike hK9, hD9⟩, hS.F ht⟩) hS.2.2 dX4_number_83
    · skip
      refine lv_aload_n hx hb dX4_number_35 rfl (lv_at hl 0 rfl) ?_
      refine lv_iconst (v := iI 2) hx hb dX4_number_36 rfl ?_
      have hPc := hP.sub (ws' := [(mm, .inr (4, [.int (iI 0), .ref ta, .int (iI tz), .ref ka, .int (iI nn), .ref da, .ref ya, .int (iI pt), .int (iI md), .int (iI sx)]))]) [2] rfl
      have hDc := hD.sub (ws' := [(mm, .inr (4, [.int (iI 0), .ref ta, .int (iI tz), .ref ka, .int (iI nn), .ref da, .ref ya, .int (iI pt), .int (iI md), .int (iI sx)]))]) [2] (by decide) rfl
      have hKc := hK.sub (tys' := []) [] rfl
      have hFc := va_free (wc := [(mm, .inr (4, [.int (iI 0), .ref ta, .int (iI tz), .ref ka, .int (iI nn), .ref da, .ref ya, .int (iI pt), .int (iI md), .int (iI sx)]))]) hD hS hA [2] rfl
      refine mv_call (mv_runV (As := [.int (iI 2)]) (rest := []) ⟨hx, hb, hml, hown, hT⟩ (c_M_fail l dC dI H.size mm 0 ta tz ka nn da ya pt md sx 2 ) (cwV 1 hT (gV wd556 wd558 wd16 wd30 wd559) rfl rfl rfl (by decide +kernel) ⟨show 0 + 1 ≤ 2 from by omega, show 8 + (2 + 11) + 0 ≤ 60 from by omega⟩) ⟨fun a U g mk q => by obtain ⟨q0, q1, qP, qK, qD⟩ := q; exact ⟨q0, q1, qP, va_K.moved (u := U) (U := U.calling g mk a) (Vm.Alike.refl U.vm) qK, qD⟩, va_recv hKc hPc (ci := 4) (q0 := 0) rfl rfl, fun U hU hW => ⟨rfl, by rw [hU], by rw [hU]; exact hPc, va_K.moved hW.alike hKc, hDc.weaken (fun _ _ _ _ => trivial)⟩⟩ rfl rfl hl.1 rfl (lv_room (Nat.le_of_ble_eq_true rfl)) dX4_number_37 ⟨show 0 + 0 + 0 ≤ 0 from by omega, show 0 + 0 + 0 ≤ 0 from by omega⟩) hS (fun q _ h => hFc q h) hFc (fun v49 u k47 n48 tS H1 locs ht hvm hw hB hz1 hk1 hS => ?_)
      obtain ⟨hP1, hK1, hD1⟩ := hB
      rw [ht] at hP1
      have hK1 := va_K.moved hvm.symm hK1
      try dsimp only at hw
      obtain ⟨hP, hD⟩ := va_join (wr := [(ka, .inl (cK, 4096, .inl (fun j => bI (kt j)))), (da, .inl (cD, 16400, .inl (fun j => iI (Vt j))))]) (w1 := [(mm, .inr (4, [.int (iI 2), .ref ta, .int (iI tz), .ref ka, .int (iI nn), .ref da, .ref ya, .int (iI pt), .int (iI md), .int (iI sx)]))]) hP hD [2] [0, 1] rfl rfl (by decide) (by decide) hk1 hFc hP1 hD1
      have hK := (hK.sub (tys' := [(cK, .byte), (cD, .int)]) [0, 1] rfl).app hK1
      generalize H1 = H at hP hS ⊢
      have hP : va_P (dC, dI) vwCl [(ka, .inl (cK, 4096, .inl (fun j => bI (kt j)))), (da, .inl (cD, 16400, .inl (fun j => iI (Vt j)))), (mm, .inr (4, [.int (iI 2), .ref ta, .int (iI tz), .ref ka, .int (iI nn), .ref da, .ref ya, .int (iI pt), .int (iI md), .int (iI sx)]))] H := hP
      have hD : va_D A [(ka, .inl (cK, 4096, .inl (fun j => bI (kt j)))), (da, .inl (cD, 16400, .inl (fun j => iI (Vt j)))), (mm, .inr (4, [.int (iI 2), .ref ta, .int (iI tz), .ref ka, .int (iI nn), .ref da, .ref ya, .int (iI pt), .int (iI md), .int (iI sx)]))] := hD
      have hK : va_K (dC, dI) vwCl [(cK, .byte), (cD, .int)] s := hK
      obtain ⟨rfl, rfl, rfl⟩ := hw
      refine W.eq (g2 := F0 m 40 ls [.int (iI 0)]) rfl ?_
      refine li_i2l hx hb (by omega) dX4_number_40 ?_
      subst hQ9
      have hP9 := hP.sub (ws' := [(mm, .inr (4, [.int (iI 2), .ref ta, .int (iI tz), .ref ka, .int (iI nn), .ref da, .ref ya, .int (iI pt), .int (iI md), .int (iI sx)])), (ka, .inl (cK, 4096, .inl (fun j => bI (kt j)))), (da, .inl (cD, 16400, .inl (fun j => iI (Vt j))))]) [2, 0, 1] rfl
      have hD9 := hD.sub (ws' := [(mm, .inr (4, [.int (iI 2), .ref ta, .int (iI tz), .ref ka, .int (iI nn), .ref da, .ref ya, .int (iI pt), .int (iI md), .int (iI sx)])), (ka, .inl (cK, 4096, .inl (fun j => bI (kt j)))), (da, .inl (cD, 16400, .inl (fun j => iI (Vt j))))]) [2, 0, 1] (by decide) rfl
      have hK9 := hK.sub (tys' := [(cK, .byte), (cD, .int)]) [0, 1] rfl
      exact mv_lret hx hb hr hlocks (fun tS ht hW => ⟨⟨_, (2, 0), rfl, ⟨rfl, Or.inr (Or.inr (Or.inl ⟨rfl, ⟨by omega, by omega, by omega⟩⟩)), by omega, by omega⟩, by rw [ht]; exact hP9, va_K.moved hW.alike hK9, hD9⟩, hS.F ht⟩) hS.2.2 dX4_number_41
  · skip
    refine lv_aload_n hx hb dX4_number_13 rfl (lv_at hl 0 rfl) ?_
    refine lv_iconst (v := iI 1) hx hb dX4_number_14 rfl ?_
    have hPc := hP.sub (ws' := [(mm, .inr (4, [.int (iI 0), .ref ta, .int (iI tz), .ref ka, .int (iI nn), .ref da, .ref ya, .int (iI pt), .int (iI md), .int (iI sx)]))]) [2] rfl
    have hDc := hD.sub (ws' := [(mm, .inr (4, [.int (iI 0), .ref ta, .int (iI tz), .ref ka, .int (iI nn), .ref da, .ref ya, .int (iI pt), .int (iI md), .int (iI sx)]))]) [2] (by decide) rfl
    have hKc := hK.sub (tys' := []) [] rfl
    have hFc := va_free (wc := [(mm, .inr (4, [.int (iI 0), .ref ta, .int (iI tz), .ref ka, .int (iI nn), .ref da, .ref ya, .int (iI pt), .int (iI md), .int (iI sx)]))]) hD hS hA [2] rfl
    refine mv_call (mv_runV (As := [.int (iI 1)]) (rest := []) ⟨hx, hb, hml, hown, hT⟩ (c_M_fail l dC dI H.size mm 0 ta tz ka nn da ya pt md sx 1 ) (cwV 1 hT (gV wd556 wd558 wd16 wd30 wd559) rfl rfl rfl (by decide +kernel) ⟨show 0 + 1 ≤ 2 from by omega, show 8 + (2 + 11) + 0 ≤ 60 from by omega⟩) ⟨fun a U g mk q => by obtain ⟨q0, q1, qP, qK, qD⟩ := q; exact ⟨q0, q1, qP, va_K.moved (u := U) (U := U.calling g mk a) (Vm.Alike.refl U.vm) qK, qD⟩, va_recv hKc hPc (ci := 4) (q0 := 0) rfl rfl, fun U hU hW => ⟨rfl, by rw [hU], by rw [hU]; exact hPc, va_K.moved hW.alike hKc, hDc.weaken (fun _ _ _ _ => trivial)⟩⟩ rfl rfl hl.1 rfl (lv_room (Nat.le_of_ble_eq_true rfl)) dX4_number_15 ⟨show 0 + 0 + 0 ≤ 0 from by omega, show 0 + 0 + 0 ≤ 0 from by omega⟩) hS (fun q _ h => hFc q h) hFc (fun v52 u k50 n51 tS H1 locs ht hvm hw hB hz1 hk1 hS => ?_)
    obtain ⟨hP1, hK1, hD1⟩ := hB
    rw [ht] at hP1
    have hK1 := va_K.moved hvm.symm hK1
    try dsimp only at hw
    obtain ⟨hP, hD⟩ := va_join (wr := [(ka, .inl (cK, 4096, .inl (fun j => bI (kt j)))), (da, .inl (cD, 16400, .inl (fun j => iI (Vt j))))]) (w1 := [(mm, .inr (4, [.int (iI 1), .ref ta, .int (iI tz), .ref ka, .int (iI nn), .ref da, .ref ya, .int (iI pt), .int (iI md), .int (iI sx)]))]) hP hD [2] [0, 1] rfl rfl (by decide) (by decide) hk1 hFc hP1 hD1
    have hK := (hK.sub (tys' := [(cK, .byte), (cD, .int)]) [0, 1] rfl).app hK1
    generalize H1 = H at hP hS ⊢
    have hP : va_P (dC, dI) vwCl [(ka, .inl (cK, 4096, .inl (fun j => bI (kt j)))), (da, .inl (cD, 16400, .inl (fun j => iI (Vt j)))), (mm, .inr (4, [.int (iI 1), .ref ta, .int (iI tz), .ref ka, .int (iI nn), .ref da, .ref ya, .int (iI pt), .int (iI md), .int (iI sx)]))] H := hP
    have hD : va_D A [(ka, .inl (cK, 4096, .inl (fun j => bI (kt j)))), (da, .inl (cD, 16400, .inl (fun j => iI (Vt j)))), (mm, .inr (4, [.int (iI 1), .ref ta, .int (iI tz), .ref ka, .int (iI nn), .ref da, .ref ya, .int (iI pt), .int (iI md), .int (iI sx)]))] := hD
    have hK : va_K (dC, dI) vwCl [(cK, .byte), (cD, .int)] s := hK
    obtain ⟨rfl, rfl, rfl⟩ := hw
    refine W.eq (g2 := F0 m 18 ls [.int (iI 0)]) rfl ?_
    refine li_i2l hx hb (by omega) dX4_number_18 ?_
    subst hQ9
    have hP9 := hP.sub (ws' := [(mm, .inr (4, [.int (iI 1), .ref ta, .int (iI tz), .ref ka, .int (iI nn), .ref da, .ref ya, .int (iI pt), .int (iI md), .int (iI sx)])), (ka, .inl (cK, 4096, .inl (fun j => bI (kt j)))), (da, .inl (cD, 16400, .inl (fun j => iI (Vt j))))]) [2, 0, 1] rfl
    have hD9 := hD.sub (ws' := [(mm, .inr (4, [.int (iI 1), .ref ta, .int (iI tz), .ref ka, .int (iI nn), .ref da, .ref ya, .int (iI pt), .int (iI md), .int (iI sx)])), (ka, .inl (cK, 4096, .inl (fun j => bI (kt j)))), (da, .inl (cD, 16400, .inl (fun j => iI (Vt j))))]) [2, 0, 1] (by decide) rfl
    have hK9 := hK.sub (tys' := [(cK, .byte), (cD, .int)]) [0, 1] rfl
    exact mv_lret hx hb hr hlocks (fun tS ht hW => ⟨⟨_, (1, 0), rfl, ⟨rfl, Or.inr (Or.inl ⟨rfl, by omega⟩), by omega, by omega⟩, by rw [ht]; exact hP9, va_K.moved hW.alike hK9, hD9⟩, hS.F ht⟩) hS.2.2 dX4_number_19
set_option maxHeartbeats 4000000 in
set_option maxRecDepth 100000 in
theorem c_M_compare (l : Launch) (dC : Nat → ClassId) (dI : Nat → Nat → Nat) (sz : Nat) (mm : Nat) (fl : Int) (ta : Nat) (tz : Int) (ka : Nat) (nn : Int) (da : Nat) (ya : Nat) (pt : Int) (md : Int) (sx : Int) (cD : ClassId) (Vt : Nat → Int) (V : Nat → Int) (M : Nat) (cK : ClassId) (kt : Nat → Int) (kz : Int) (L : List Int) (a : Int) (a2 : Int) (hoN : okN M V nn) (hE : eqN Vt V nn) (hkb : okB 4096 kt kz L) (hgN : gdN nn V kz) (ha : -2147483648 ≤ a ∧ a < 2147483648) (ha2 : -2147483648 ≤ a2 ∧ a2 < 2147483648) : mv_Met l yX4_compare wsX4_compare ({ frames := 2, cells := 0, slots := 0, locals := 60 }) (va_Pc [.ref mm, .int (iI a), .int (iI a2)] (fun U => U.heap.size = sz ∧ va_P (dC, dI) vwCl [(mm, .inr (4, [.int (iI fl), .ref ta, .int (iI tz), .ref ka, .int (iI nn), .ref da, .ref ya, .int (iI pt), .int (iI md), .int (iI sx)])), (ka, .inl (cK, 4096, .inl (fun j => bI (kt j)))), (da, .inl (cD, 16400, .inl (fun j => iI (Vt j))))] U.heap ∧ va_K (dC, dI) vwCl [(cK, .byte), (cD, .int)] U ∧ va_D (fun _ => True) [(mm, .inr (4, [.int (iI fl), .ref ta, .int (iI tz), .ref ka, .int (iI nn), .ref da, .ref ya, .int (iI pt), .int (iI md), .int (iI sx)])), (ka, .inl (cK, 4096, .inl (fun j => bI (kt j)))), (da, .inl (cD, 16400, .inl (fun j => iI (Vt j))))])) (mv_Q (fun (v : Option Value) (u : Int × Int) (k n : Nat) => match u with | (fl', q') => v = some (.int (iI q')) ∧ ((fl' = 0 ∧ (0 ≤ a ∧ a < nn ∧ 0 ≤ a2 ∧ a2 < nn ∧ q' = ord2 L V a a2)) ∨ (fl' = 1 ∧ (a < 0 ∨ nn ≤ a ∨ a2 < 0 ∨ nn ≤ a2))) ∧ k = 0 ∧ n = 0) (fun (u : Int × Int) (tS : State) => match u with | (fl', q') => va_P (dC, dI) vwCl [(mm, .inr (4, [.int (iI fl'), .ref ta, .int (iI tz), .ref ka, .int (iI nn), .ref da, .ref ya, .int (iI pt), .int (iI md), .int (iI sx)])), (ka, .inl (cK, 4096, .inl (fun j => bI (kt j)))), (da, .inl (cD, 16400, .inl (fun j => iI (Vt j))))] tS.heap ∧ va_K (dC, dI) vwCl [(cK, .byte), (cD, .int)] tS ∧ va_D (va_A [(mm, .inr (4, [.int (iI fl), .ref ta, .int (iI tz), .ref ka, .int (iI nn), .ref da, .ref ya, .int (iI pt), .int (iI md), .int (iI sx)])), (ka, .inl (cK, 4096, .inl (fun j => bI (kt j)))), (da, .inl (cD, 16400, .inl (fun j => iI (Vt j))))] sz) [(mm, .inr (4, [.int (iI fl'), .ref ta, .int (iI tz), .ref ka, .int (iI nn), .ref da, .ref ya, .int (iI pt), .int (iI md), .int (iI sx)])), (ka, .inl (cK, 4096, .inl (fun j => bI (kt j)))), (da, .inl (cD, 16400, .inl (fun j => iI (Vt j))))]) (va_A [(mm, .inr (4, [.int (iI fl), .ref ta, .int (iI tz), .ref ka, .int (iI nn), .ref da, .ref ya, .int (iI pt), .int (iI md), .int (iI sx)])), (ka, .inl (cK, 4096, .inl (fun j => bI (kt j)))), (da, .inl (cD, 16400, .inl (fun j => iI (Vt j))))] sz)) (va_A [(mm, .inr (4, [.int (iI fl), .ref ta, .int (iI tz), .ref ka, .int (iI nn), .ref da, .ref ya, .int (iI pt), .int (iI md), .int (iI sx)])), (ka, .inl (cK, 4096, .inl (fun j => bI (kt j)))), (da, .inl (cD, 16400, .inl (fun j => iI (Vt j))))] sz) := by
  refine mv_ofW (cc := cX4_compare) (maxL := 6) (ret := (some .int)) (by decide) rfl ?_
  intro p e s m args below meth c s₁ B hml hv
  obtain ⟨rfl, hsz, hP, hK, hD0⟩ := hv
  have hx := B.exec
  have hb := B.bytes
  have hr := B.returns
  have hT : ∀ w ∈ wT, w.before _ s = true := fun w h => atoms_spec (ws := wsX4_compare) B.pre w (List.mem_cons_of_mem _ h)
  have hown : s.vm.findClass RX4 = some m.cls := findClass_of_methodNamed B.named
  have hlocks := B.notSynchronized
  subst hsz
  have hD := hD0.self (sz := s.heap.size)
  generalize hAe : va_A [(mm, .inr (4, [.int (iI fl), .ref ta, .int (iI tz), .ref ka, .int (iI nn), .ref da, .ref ya, .int (iI pt), .int (iI md), .int (iI sx)])), (ka, .inl (cK, 4096, .inl (fun j => bI (kt j)))), (da, .inl (cD, 16400, .inl (fun j => iI (Vt j))))] s.heap.size = A at hD ⊢
  have hA : ∀ q : Nat, s.heap.size ≤ q → A q := fun q h => by rw [← hAe]; exact Or.inr h
  have hS : va_S A s.heap s.heap [] := va_S.rf
  have hP : va_P (dC, dI) vwCl [(mm, .inr (4, [.int (iI fl), .ref ta, .int (iI tz), .ref ka, .int (iI nn), .ref da, .ref ya, .int (iI pt), .int (iI md), .int (iI sx)])), (ka, .inl (cK, 4096, .inl (fun j => bI (kt j)))), (da, .inl (cD, 16400, .inl (fun j => iI (Vt j))))] s.heap := hP
  have hl := lv_entry ([.ref mm, .int (iI a), .int (iI a2)]) (n := 6) (Nat.le_of_ble_eq_true rfl)
  rw [lg_entry_eq]
  generalize (lg_sl ([.ref mm, .int (iI a), .int (iI a2)]) ++ List.replicate (6 - (lg_sl ([.ref mm, .int (iI a), .int (iI a2)])).length) Slot.unset).toArray = ls at hl ⊢
  have hl : lv_has ls 6 [(0, .ref mm), (1, .int (iI a)), (2, .int (iI a2))] := hl
  obtain ⟨hn1, hn2, hn3, hn4, hn5, hn6, hn7⟩ := id hoN
  obtain ⟨hw1, hw2, hw3, hw4, hw5, hw6⟩ := id hkb
  refine mv_nameQ (fun Q9 hQ9 => ?_)
  have LP : ∀ (fu : Nat) (jj : Int) (H : Heap) (locs : List Loc) (ls : Array Slot) (kc ks : Nat), (4096 - jj < (fu : Int)) → (0 ≤ jj ∧ jj ≤ 4096) → (0 ≤ a ∧ a < nn ∧ 0 ≤ a2 ∧ a2 < nn) → (ord2 L V a a2 = ordr (cat L V a) (cat L V a2) (4096 - jj).toNat jj) → (kc = 0 ∧ ks = 0) → va_K (dC, dI) vwCl [(cK, .byte), (cD, .int)] s → va_P (dC, dI) vwCl [(mm, .inr (4, [.int (iI 0), .ref ta, .int (iI tz), .ref ka, .int (iI nn), .ref da, .ref ya, .int (iI pt), .int (iI md), .int (iI sx)])), (ka, .inl (cK, 4096, .inl (fun j => bI (kt j)))), (da, .inl (cD, 16400, .inl (fun j => iI (Vt j))))] H → va_D A [(mm, .inr (4, [.int (iI 0), .ref ta, .int (iI tz), .ref ka, .int (iI nn), .ref da, .ref ya, .int (iI pt), .int (iI md), .int (iI sx)])), (ka, .inl (cK, 4096, .inl (fun j => bI (kt j)))), (da, .inl (cD, 16400, .inl (fun j => iI (Vt j))))] → va_S A s.heap H locs → lv_has ls 6 [(0, .ref mm), (1, .int (iI a)), (2, .int (iI a2)), (3, .int (iI jj))] → W p l e ({ frames := 2, cells := 0, slots := 0, locals := 60 }) s m ([.ref mm, .int (iI a), .int (iI a2)] : List Value).toArray below meth c H locs kc ks Q9 (F0 m 29 ls []) := by
    intro fu
    induction fu with
    | zero =>
      intro jj H locs ls kc ks hfu hj ha9 hn hkc hK hP hD hS hl
      exfalso
      omega
    | succ fu ih =>
      intro jj H locs ls kc ks hfu hj ha9 hn hkc hK hP hD hS hl
      have hEa4 : Vt (((8 * a) + 4) : Int).toNat = V (a * 8 + 4).toNat := by rw [show (8 * a) + 4 = a * 8 + 4 by omega]; exact hE _ (by omega)
      have hEa5 : Vt (((8 * a) + 5) : Int).toNat = V (a * 8 + 5).toNat := by rw [show (8 * a) + 5 = a * 8 + 5 by omega]; exact hE _ (by omega)
      have hVa4 := hn6 (a * 8 + 4).toNat
      have hVa5 := hn6 (a * 8 + 5).toNat
      have hga := hgN a (by omega) (by omega)
      have hEa24 : Vt (((8 * a2) + 4) : Int).toNat = V (a2 * 8 + 4).toNat := by rw [show (8 * a2) + 4 = a2 * 8 + 4 by omega]; exact hE _ (by omega)
      have hEa25 : Vt (((8 * a2) + 5) : Int).toNat = V (a2 * 8 + 5).toNat := by rw [show (8 * a2) + 5 = a2 * 8 + 5 by omega]; exact hE _ (by omega)
      have hVa24 := hn6 (a2 * 8 + 4).toNat
      have hVa25 := hn6 (a2 * 8 + 5).toNat
      have hga2 := hgN a2 (by omega) (by omega)
      have hca := cat_rng hkb V a jj
      have hka : jj < V (a * 8 + 5).toNat → kt ((Vt (((8 * a) + 4) : Int).toNat) + jj : Int).toNat = cat L V a jj := fun h => kcat hkb hEa4 (by omega) (by omega) (by omega)
      have hza : V (a * 8 + 5).toNat ≤ jj → 0 = cat L V a jj := fun h => cat_out (by omega)
      have hca2 := cat_rng hkb V a2 jj
      have hka2 : jj < V (a2 * 8 + 5).toNat → kt ((Vt (((8 * a2) + 4) : Int).toNat) + jj : Int).toNat = cat L V a2 jj := fun h => kcat hkb hEa24 (by omega) (by omega) (by omega)
      have hza2 : V (a2 * 8 + 5).toNat ≤ jj → 0 = cat L V a2 jj := fun h => cat_out (by omega)
      refine lv_iload_n hx hb dX4_compare_29 rfl (lv_at hl 3 rfl) ?_
      refine lv_sipush (v := iI 4096) hx hb dX4_compare_30 (by decide +kernel) ?_
      refine li_icmp_ge (tgt := 148) hx hb (by omega) (by omega) dX4_compare_33 (by decide) (fun c1 => ?_) (fun c1 => ?_)
      · skip
        refine lv_iconst (v := iI 0) hx hb dX4_compare_148 rfl ?_
        subst hQ9
        have hP9 := hP.sub (ws' := [(mm, .inr (4, [.int (iI 0), .ref ta, .int (iI tz), .ref ka, .int (iI nn), .ref da, .ref ya, .int (iI pt), .int (iI md), .int (iI sx)])), (ka, .inl (cK, 4096, .inl (fun j => bI (kt j)))), (da, .inl (cD, 16400, .inl (fun j => iI (Vt j))))]) [0, 1, 2] rfl
        have hD9 := hD.sub (ws' := [(mm, .inr (4, [.int (iI 0), .ref ta, .int (iI tz), .ref ka, .int (iI nn), .ref da, .ref ya, .int (iI pt), .int (iI md), .int (iI sx)])), (ka, .inl (cK, 4096, .inl (fun j => bI (kt j)))), (da, .inl (cD, 16400, .inl (fun j => iI (Vt j))))]) [0, 1, 2] (by decide) rfl
        have hK9 := hK.sub (tys' := [(cK, .byte), (cD, .int)]) [0, 1] rfl
        exact mv_iret hx hb hr hlocks (fun tS ht hW => ⟨⟨_, (0, 0), rfl, ⟨rfl, Or.inl ⟨rfl, ⟨by omega, by omega, by omega, by omega, by rw [hn]; exact (ordr_e (by omega)).symm⟩⟩, by omega, by omega⟩, by rw [ht]; exact hP9, va_K.moved hW.alike hK9, hD9⟩, hS.F ht⟩) hS.2.2 dX4_compare_149
      · skip
        refine lv_iload_n hx hb dX4_compare_36 rfl (lv_at hl 3 rfl) ?_
        refine lv_aload_n hx hb dX4_compare_37 rfl (lv_at hl 0 rfl) ?_
        refine va_get (D := (dC, dI)) (ci := 4) (v := .ref da) (C := RX4) (T := TX4) (N := 10) hx hb hT inX4 hown hK hP 0 rfl rfl 5 (by decide) (hT _ wd522) (fun _ h9 => h9) rfl dX4_compare_38 ?_
        refine lv_bipush (v := iI 8) hx hb dX4_compare_41 (by decide +kernel) ?_
        refine lv_iload_n hx hb dX4_compare_43 rfl (lv_at hl 1 rfl) ?_
        refine li_imul hx hb dX4_compare_44 ?_
        refine lv_iconst (v := iI 5) hx hb dX4_compare_45 rfl ?_
        refine li_iadd hx hb dX4_compare_46 ?_
        refine li_iald hx hb hK hP 2 1 rfl rfl (z := ((8 * a) + 5)) (by omega) (by omega) dX4_compare_47 ?_
        refine li_icmp_ge (tgt := 76) hx hb (by omega) (by omega) dX4_compare_48 (by decide) (fun c2 => ?_) (fun c2 => ?_)
        · skip
          refine lv_iconst (v := iI 0) hx hb dX4_compare_76 rfl ?_
          refine lv_istore (lv' := [(4, .int (iI 0)), (0, .ref mm), (1, .int (iI a)), (2, .int (iI a2)), (3, .int (iI jj))]) hx hb dX4_compare_77 hl (by decide) rfl (fun ls hl => ?_)
          refine lv_iload_n hx hb dX4_compare_79 rfl (lv_at hl 4 rfl) ?_
          refine lv_aload_n hx hb dX4_compare_80 rfl (lv_at hl 1 rfl) ?_
          refine va_get (D := (dC, dI)) (ci := 4) (v := .ref da) (C := RX4) (T := TX4) (N := 10) hx hb hT inX4 hown hK hP 0 rfl rfl 5 (by decide) (hT _ wd522) (fun _ h9 => h9) rfl dX4_compare_81 ?_
          refine lv_bipush (v := iI 8) hx hb dX4_compare_84 (by decide +kernel) ?_
          refine lv_iload_n hx hb dX4_compare_86 rfl (lv_at hl 3 rfl) ?_
          refine li_imul hx hb dX4_compare_87 ?_
          refine lv_iconst (v := iI 5) hx hb dX4_compare_88 rfl ?_
          refine li_iadd hx hb dX4_compare_89 ?_
          refine li_iald hx hb hK hP 2 1 rfl rfl (z := ((8 * a2) + 5)) (by omega) (by omega) dX4_compare_90 ?_
          refine li_icmp_ge (tgt := 119) hx hb (by omega) (by omega) dX4_compare_91 (by decide) (fun c3 => ?_) (fun c3 => ?_)
          · skip
            refine lv_iconst (v := iI 0) hx hb dX4_compare_119 rfl ?_
            refine lv_istore (lv' := [(5, .int (iI 0)), (4, .int (iI 0)), (0, .ref mm), (1, .int (iI a)), (2, .int (iI a2)), (3, .int (iI jj))]) hx hb dX4_compare_120 hl (by decide) rfl (fun ls hl => ?_)
            refine lv_iload hx hb dX4_compare_122 (lv_at hl 1 rfl) ?_
            refine lv_iload hx hb dX4_compare_124 (lv_at hl 0 rfl) ?_
            refine li_icmp_eq (tgt := 142) hx hb (by omega) (by omega) dX4_compare_126 (by decide) (fun c4 => ?_) (fun c4 => absurd c4 (by omega))
            obtain ⟨z5, ez5⟩ : ∃ y : Int, y = jj + 1 := ⟨_, rfl⟩
            refine lv_iinc (v := iI z5) (lv' := [(3, .int (iI z5)), (5, .int (iI 0)), (4, .int (iI 0)), (0, .ref mm), (1, .int (iI a)), (2, .int (iI a2))]) hx hb dX4_compare_142 hl (k := 5) rfl (by rw [ez5]; exact iI_add _ _) (by decide) rfl (fun ls hl => ?_)
            refine lv_goto (tgt := 29) hx hb dX4_compare_145 (by decide) ?_
            have z5_eq : z5 = jj + 1 := by omega
            exact ih z5 _ _ _ _ _ (by omega) (by omega) (by omega) (by rw [hn, z5_eq]; exact ordr_s (by omega) (by omega)) (by omega) (hK.sub [0, 1] rfl) (hP.sub [0, 1, 2] rfl) (hD.sub [0, 1, 2] (by decide) rfl) hS (lv_sub hl [3, 4, 5, 0] rfl)
          · skip
            refine lv_aload_n hx hb dX4_compare_94 rfl (lv_at hl 1 rfl) ?_
            refine va_get (D := (dC, dI)) (ci := 4) (v := .ref ka) (C := RX4) (T := TX4) (N := 10) hx hb hT inX4 hown hK hP 0 rfl rfl 3 (by decide) (hT _ wd520) (fun _ h9 => h9) rfl dX4_compare_95 ?_
            refine lv_aload_n hx hb dX4_compare_98 rfl (lv_at hl 1 rfl) ?_
            refine va_get (D := (dC, dI)) (ci := 4) (v := .ref da) (C := RX4) (T := TX4) (N := 10) hx hb hT inX4 hown hK hP 0 rfl rfl 5 (by decide) (hT _ wd522) (fun _ h9 => h9) rfl dX4_compare_99 ?_
            refine lv_bipush (v := iI 8) hx hb dX4_compare_102 (by decide +kernel) ?_
            refine lv_iload_n hx hb dX4_compare_104 rfl (lv_at hl 3 rfl) ?_
            refine li_imul hx hb dX4_compare_105 ?_
            refine lv_iconst (v := iI 4) hx hb dX4_compare_106 rfl ?_
            refine li_iadd hx hb dX4_compare_107 ?_
            refine li_iald hx hb hK hP 2 1 rfl rfl (z := ((8 * a2) + 4)) (by omega) (by omega) dX4_compare_108 ?_
            refine lv_iload_n hx hb dX4_compare_109 rfl (lv_at hl 4 rfl) ?_
            refine li_iadd hx hb dX4_compare_110 ?_
            refine li_bald hx hb hK hP 1 0 rfl rfl (z := ((Vt (((8 * a2) + 4) : Int).toNat) + jj)) (by omega) (by omega) dX4_compare_111 ?_
            refine lv_sipush (v := iI 255) hx hb dX4_compare_112 (by decide +kernel) ?_
            refine li_bandb hx hb dX4_compare_115 ?_
            refine lv_goto (tgt := 120) hx hb dX4_compare_116 (by decide) ?_
            refine li_nm (fun z6 ez6 => ?_)
            refine lv_istore (lv' := [(5, .int (iI z6)), (4, .int (iI 0)), (0, .ref mm), (1, .int (iI a)), (2, .int (iI a2)), (3, .int (iI jj))]) hx hb dX4_compare_120 hl (by decide) rfl (fun ls hl => ?_)
            refine lv_iload hx hb dX4_compare_122 (lv_at hl 1 rfl) ?_
            refine lv_iload hx hb dX4_compare_124 (lv_at hl 0 rfl) ?_
            refine li_icmp_eq (tgt := 142) hx hb (by omega) (by omega) dX4_compare_126 (by decide) (fun c7 => ?_) (fun c7 => ?_)
            · skip
              obtain ⟨z8, ez8⟩ : ∃ y : Int, y = jj + 1 := ⟨_, rfl⟩
              refine lv_iinc (v := iI z8) (lv' := [(3, .int (iI z8)), (5, .int (iI z6)), (4, .int (iI 0)), (0, .ref mm), (1, .int (iI a)), (2, .int (iI a2))]) hx hb dX4_compare_142 hl (k := 5) rfl (by rw [ez8]; exact iI_add _ _) (by decide) rfl (fun ls hl => ?_)
              refine lv_goto (tgt := 29) hx hb dX4_compare_145 (by decide) ?_
              have z8_eq : z8 = jj + 1 := by omega
              exact ih z8 _ _ _ _ _ (by omega) (by omega) (by omega) (by rw [hn, z8_eq]; exact ordr_s (by omega) (by omega)) (by omega) (hK.sub [0, 1] rfl) (hP.sub [0, 1, 2] rfl) (hD.sub [0, 1, 2] (by decide) rfl) hS (lv_sub hl [3, 4, 5, 0] rfl)
            · skip
              refine lv_iload hx hb dX4_compare_129 (lv_at hl 1 rfl) ?_
              refine lv_iload hx hb dX4_compare_131 (lv_at hl 0 rfl) ?_
              refine li_icmp_ge (tgt := 140) hx hb (by omega) (by omega) dX4_compare_133 (by decide) (fun c9 => ?_) (fun c9 => ?_)
              · skip
                refine lv_iconst (v := iI 1) hx hb dX4_compare_140 rfl ?_
                subst hQ9
                have hP9 := hP.sub (ws' := [(mm, .inr (4, [.int (iI 0), .ref ta, .int (iI tz), .ref ka, .int (iI nn), .ref da, .ref ya, .int (iI pt), .int (iI md), .int (iI sx)])), (ka, .inl (cK, 4096, .inl (fun j => bI (kt j)))), (da, .inl (cD, 16400, .inl (fun j => iI (Vt j))))]) [0, 1, 2] rfl
                have hD9 := hD.sub (ws' := [(mm, .inr (4, [.int (iI 0), .ref ta, .int (iI tz), .ref ka, .int (iI nn), .ref da, .ref ya, .int (iI pt), .int (iI md), .int (iI sx)])), (ka, .inl (cK, 4096, .inl (fun j => bI (kt j)))), (da, .inl (cD, 16400, .inl (fun j => iI (Vt j))))]) [0, 1, 2] (by decide) rfl
                have hK9 := hK.sub (tys' := [(cK, .byte), (cD, .int)]) [0, 1] rfl
                exact mv_iret hx hb hr hlocks (fun tS ht hW => ⟨⟨_, (0, 1), rfl, ⟨rfl, Or.inl ⟨rfl, ⟨by omega, by omega, by omega, by omega, by rw [hn]; exact (ordr_gt (by omega) (by omega)).symm⟩⟩, by omega, by omega⟩, by rw [ht]; exact hP9, va_K.moved hW.alike hK9, hD9⟩, hS.F ht⟩) hS.2.2 dX4_compare_141
              · skip
                refine lv_iconst (v := iI (-1)) hx hb dX4_compare_136 rfl ?_
                refine lv_goto (tgt := 141) hx hb dX4_compare_137 (by decide) ?_
                subst hQ9
                have hP9 := hP.sub (ws' := [(mm, .inr (4, [.int (iI 0), .ref ta, .int (iI tz), .ref ka, .int (iI nn), .ref da, .ref ya, .int (iI pt), .int (iI md), .int (iI sx)])), (ka, .inl (cK, 4096, .inl (fun j => bI (kt j)))), (da, .inl (cD, 16400, .inl (fun j => iI (Vt j))))]) [0, 1, 2] rfl
                have hD9 := hD.sub (ws' := [(mm, .inr (4, [.int (iI 0), .ref ta, .int (iI tz), .ref ka, .int (iI nn), .ref da, .ref ya, .int (iI pt), .int (iI md), .int (iI sx)])), (ka, .inl (cK, 4096, .inl (fun j => bI (kt j)))), (da, .inl (cD, 16400, .inl (fun j => iI (Vt j))))]) [0, 1, 2] (by decide) rfl
                have hK9 := hK.sub (tys' := [(cK, .byte), (cD, .int)]) [0, 1] rfl
                exact mv_iret hx hb hr hlocks (fun tS ht hW => ⟨⟨_, (0, (-1)), rfl, ⟨rfl, Or.inl ⟨rfl, ⟨by omega, by omega, by omega, by omega, by rw [hn]; exact (ordr_lt (by omega) (by omega)).symm⟩⟩, by omega, by omega⟩, by rw [ht]; exact hP9, va_K.moved hW.alike hK9, hD9⟩, hS.F ht⟩) hS.2.2 dX4_compare_141
        · skip
          refine lv_aload_n hx hb dX4_compare_51 rfl (lv_at hl 0 rfl) ?_
          refine va_get (D := (dC, dI)) (ci := 4) (v := .ref ka) (C := RX4) (T := TX4) (N := 10) hx hb hT inX4 hown hK hP 0 rfl rfl 3 (by decide) (hT _ wd520) (fun _ h9 => h9) rfl dX4_compare_52 ?_
          refine lv_aload_n hx hb dX4_compare_55 rfl (lv_at hl 0 rfl) ?_
          refine va_get (D := (dC, dI)) (ci := 4) (v := .ref da) (C := RX4) (T := TX4) (N := 10) hx hb hT inX4 hown hK hP 0 rfl rfl 5 (by decide) (hT _ wd522) (fun _ h9 => h9) rfl dX4_compare_56 ?_
          refine lv_bipush (v := iI 8) hx hb dX4_compare_59 (by decide +kernel) ?_
          refine lv_iload_n hx hb dX4_compare_61 rfl (lv_at hl 1 rfl) ?_
          refine li_imul hx hb dX4_compare_62 ?_
          refine lv_iconst (v := iI 4) hx hb dX4_compare_63 rfl ?_
          refine li_iadd hx hb dX4_compare_64 ?_
          refine li_iald hx hb hK hP 2 1 rfl rfl (z := ((8 * a) + 4)) (by omega) (by omega) dX4_compare_65 ?_
          refine lv_iload_n hx hb dX4_compare_66 rfl (lv_at hl 3 rfl) ?_
          refine li_iadd hx hb dX4_compare_67 ?_
          refine li_bald hx hb hK hP 1 0 rfl rfl (z := ((Vt (((8 * a) + 4) : Int).toNat) + jj)) (by omega) (by omega) dX4_compare_68 ?_
          refine lv_sipush (v := iI 255) hx hb dX4_compare_69 (by decide +kernel) ?_
          refine li_bandb hx hb dX4_compare_72 ?_
          refine lv_goto (tgt := 77) hx hb dX4_compare_73 (by decide) ?_
          refine li_nm (fun z10 ez10 => ?_)
          refine lv_istore (lv' := [(4, .int (iI z10)), (0, .ref mm), (1, .int (iI a)), (2, .int (iI a2)), (3, .int (iI jj))]) hx hb dX4_compare_77 hl (by decide) rfl (fun ls hl => ?_)
          refine lv_iload_n hx hb dX4_compare_79 rfl (lv_at hl 4 rfl) ?_
          refine lv_aload_n hx hb dX4_compare_80 rfl (lv_at hl 1 rfl) ?_
          refine va_get (D := (dC, dI)) (ci := 4) (v := .ref da) (C := RX4) (T := TX4) (N := 10) hx hb hT inX4 hown hK hP 0 rfl rfl 5 (by decide) (hT _ wd522) (fun _ h9 => h9) rfl dX4_compare_81 ?_
          refine lv_bipush (v := iI 8) hx hb dX4_compare_84 (by decide +kernel) ?_
          refine lv_iload_n hx hb dX4_compare_86 rfl (lv_at hl 3 rfl) ?_
          refine li_imul hx hb dX4_compare_87 ?_
          refine lv_iconst (v := iI 5) hx hb dX4_compare_88 rfl ?_
          refine li_iadd hx hb dX4_compare_89 ?_
          refine li_iald hx hb hK hP 2 1 rfl rfl (z := ((8 * a2) + 5)) (by omega) (by omega) dX4_compare_90 ?_
          refine li_icmp_ge (tgt := 119) hx hb (by omega) (by omega) dX4_compare_91 (by decide) (fun c11 => ?_) (fun c11 => ?_)
          · skip
            refine lv_iconst (v := iI 0) hx hb dX4_compare_119 rfl ?_
            refine lv_istore (lv' := [(5, .int (iI 0)), (4, .int (iI z10)), (0, .ref mm), (1, .int (iI a)), (2, .int (iI a2)), (3, .int (iI jj))]) hx hb dX4_compare_120 hl (by decide) rfl (fun ls hl => ?_)
            refine lv_iload hx hb dX4_compare_122 (lv_at hl 1 rfl) ?_
            refine lv_iload hx hb dX4_compare_124 (lv_at hl 0 rfl) ?_
            refine li_icmp_eq (tgt := 142) hx hb (by omega) (by omega) dX4_compare_126 (by decide) (fun c12 => ?_) (fun c12 => ?_)
            · skip
              obtain ⟨z13, ez13⟩ : ∃ y : Int, y = jj + 1 := ⟨_, rfl⟩
              refine lv_iinc (v := iI z13) (lv' := [(3, .int (iI z13)), (5, .int (iI 0)), (4, .int (iI z10)), (0, .ref mm), (1, .int (iI a)), (2, .int (iI a2))]) hx hb dX4_compare_142 hl (k := 5) rfl (by rw [ez13]; exact iI_add _ _) (by decide) rfl (fun ls hl => ?_)
              refine lv_goto (tgt := 29) hx hb dX4_compare_145 (by decide) ?_
              have z13_eq : z13 = jj + 1 := by omega
              exact ih z13 _ _ _ _ _ (by omega) (by omega) (by omega) (by rw [hn, z13_eq]; exact ordr_s (by omega) (by omega)) (by omega) (hK.sub [0, 1] rfl) (hP.sub [0, 1, 2] rfl) (hD.sub [0, 1, 2] (by decide) rfl) hS (lv_sub hl [3, 4, 5, 0] rfl)
            · skip
              refine lv_iload hx hb dX4_compare_129 (lv_at hl 1 rfl) ?_
              refine lv_iload hx hb dX4_compare_131 (lv_at hl 0 rfl) ?_
              refine li_icmp_ge (tgt := 140) hx hb (by omega) (by omega) dX4_compare_133 (by decide) (fun c14 => ?_) (fun c14 => ?_)
              · skip
                refine lv_iconst (v := iI 1) hx hb dX4_compare_140 rfl ?_
                subst hQ9
                have hP9 := hP.sub (ws' := [(mm, .inr (4, [.int (iI 0), .ref ta, .int (iI tz), .ref ka, .int (iI nn), .ref da, .ref ya, .int (iI pt), .int (iI md), .int (iI sx)])), (ka, .inl (cK, 4096, .inl (fun j => bI (kt j)))), (da, .inl (cD, 16400, .inl (fun j => iI (Vt j))))]) [0, 1, 2] rfl
                have hD9 := hD.sub (ws' := [(mm, .inr (4, [.int (iI 0), .ref ta, .int (iI tz), .ref ka, .int (iI nn), .ref da, .ref ya, .int (iI pt), .int (iI md), .int (iI sx)])), (ka, .inl (cK, 4096, .inl (fun j => bI (kt j)))), (da, .inl (cD, 16400, .inl (fun j => iI (Vt j))))]) [0, 1, 2] (by decide) rfl
                have hK9 := hK.sub (tys' := [(cK, .byte), (cD, .int)]) [0, 1] rfl
                exact mv_iret hx hb hr hlocks (fun tS ht hW => ⟨⟨_, (0, 1), rfl, ⟨rfl, Or.inl ⟨rfl, ⟨by omega, by omega, by omega, by omega, by rw [hn]; exact (ordr_gt (by omega) (by omega)).symm⟩⟩, by omega, by omega⟩, by rw [ht]; exact hP9, va_K.moved hW.alike hK9, hD9⟩, hS.F ht⟩) hS.2.2 dX4_compare_141
              · skip
                refine lv_iconst (v := iI (-1)) hx hb dX4_compare_136 rfl ?_
                refine lv_goto (tgt := 141) hx hb dX4_compare_137 (by decide) ?_
                subst hQ9
                have hP9 := hP.sub (ws' := [(mm, .inr (4, [.int (iI 0), .ref ta, .int (iI tz), .ref ka, .int (iI nn), .ref da, .ref ya, .int (iI pt), .int (iI md), .int (iI sx)])), (ka, .inl (cK, 4096, .inl (fun j => bI (kt j)))), (da, .inl (cD, 16400, .inl (fun j => iI (Vt j))))]) [0, 1, 2] rfl
                have hD9 := hD.sub (ws' := [(mm, .inr (4, [.int (iI 0), .ref ta, .int (iI tz), .ref ka, .int (iI nn), .ref da, .ref ya, .int (iI pt), .int (iI md), .int (iI sx)])), (ka, .inl (cK, 4096, .inl (fun j => bI (kt j)))), (da, .inl (cD, 16400, .inl (fun j => iI (Vt j))))]) [0, 1, 2] (by decide) rfl
                have hK9 := hK.sub (tys' := [(cK, .byte), (cD, .int)]) [0, 1] rfl
                exact mv_iret hx hb hr hlocks (fun tS ht hW => ⟨⟨_, (0, (-1)), rfl, ⟨rfl, Or.inl ⟨rfl, ⟨by omega, by omega, by omega, by omega, by rw [hn]; exact (ordr_lt (by omega) (by omega)).symm⟩⟩, by omega, by omega⟩, by rw [ht]; exact hP9, va_K.moved hW.alike hK9, hD9⟩, hS.F ht⟩) hS.2.2 dX4_compare_141
          · skip
            refine lv_aload_n hx hb dX4_compare_94 rfl (lv_at hl 1 rfl) ?_
            refine va_get (D := (dC, dI)) (ci := 4) (v := .ref ka) (C := RX4) (T := TX4) (N := 10) hx hb hT inX4 hown hK hP 0 rfl rfl 3 (by decide) (hT _ wd520) (fun _ h9 => h9) rfl dX4_compare_95 ?_
            refine lv_aload_n hx hb dX4_compare_98 rfl (lv_at hl 1 rfl) ?_
            refine va_get (D := (dC, dI)) (ci := 4) (v := .ref da) (C := RX4) (T := TX4) (N := 10) hx hb hT inX4 hown hK hP 0 rfl rfl 5 (by decide) (hT _ wd522) (fun _ h9 => h9) rfl dX4_compare_99 ?_
            refine lv_bipush (v := iI 8) hx hb dX4_compare_102 (by decide +kernel) ?_
            refine lv_iload_n hx hb dX4_compare_104 rfl (lv_at hl 3 rfl) ?_
            refine li_imul hx hb dX4_compare_105 ?_
            refine lv_iconst (v := iI 4) hx hb dX4_compare_106 rfl ?_
            refine li_iadd hx hb dX4_compare_107 ?_
            refine li_iald hx hb hK hP 2 1 rfl rfl (z := ((8 * a2) + 4)) (by omega) (by omega) dX4_compare_108 ?_
            refine lv_iload_n hx hb dX4_compare_109 rfl (lv_at hl 4 rfl) ?_
            refine li_iadd hx hb dX4_compare_110 ?_
            refine li_bald hx hb hK hP 1 0 rfl rfl (z := ((Vt (((8 * a2) + 4) : Int).toNat) + jj)) (by omega) (by omega) dX4_compare_111 ?_
            refine lv_sipush (v := iI 255) hx hb dX4_compare_112 (by decide +kernel) ?_
            refine li_bandb hx hb dX4_compare_115 ?_
            refine lv_goto (tgt := 120) hx hb dX4_compare_116 (by decide) ?_
            refine li_nm (fun z15 ez15 => ?_)
            refine lv_istore (lv' := [(5, .int (iI z15)), (4, .int (iI z10)), (0, .ref mm), (1, .int (iI a)), (2, .int (iI a2)), (3, .int (iI jj))]) hx hb dX4_compare_120 hl (by decide) rfl (fun ls hl => ?_)
            refine lv_iload hx hb dX4_compare_122 (lv_at hl 1 rfl) ?_
            refine lv_iload hx hb dX4_compare_124 (lv_at hl 0 rfl) ?_
            refine li_icmp_eq (tgt := 142) hx hb (by omega) (by omega) dX4_compare_126 (by decide) (fun c16 => ?_) (fun c16 => ?_)
            · skip
              obtain ⟨z17, ez17⟩ : ∃ y : Int, y = jj + 1 := ⟨_, rfl⟩
              refine lv_iinc (v := iI z17) (lv' := [(3, .int (iI z17)), (5, .int (iI z15)), (4, .int (iI z10)), (0, .ref mm), (1, .int (iI a)), (2, .int (iI a2))]) hx hb dX4_compare_142 hl (k := 5) rfl (by rw [ez17]; exact iI_add _ _) (by decide) rfl (fun ls hl => ?_)
              refine lv_goto (tgt := 29) hx hb dX4_compare_145 (by decide) ?_
              have z17_eq : z17 = jj + 1 := by omega
              exact ih z17 _ _ _ _ _ (by omega) (by omega) (by omega) (by rw [hn, z17_eq]; exact ordr_s (by omega) (by omega)) (by omega) (hK.sub [0, 1] rfl) (hP.sub [0, 1, 2] rfl) (hD.sub [0, 1, 2] (by decide) rfl) hS (lv_sub hl [3, 4, 5, 0] rfl)
            · skip
              refine lv_iload hx hb dX4_compare_129 (lv_at hl 1 rfl) ?_
              refine lv_iload hx hb dX4_compare_131 (lv_at hl 0 rfl) ?_
              refine li_icmp_ge (tgt := 140) hx hb (by omega) (by omega) dX4_compare_133 (by decide) (fun c18 => ?_) (fun c18 => ?_)
              · skip
                refine lv_iconst (v := iI 1) hx hb dX4_compare_140 rfl ?_
                subst hQ9
                have hP9 := hP.sub (ws' := [(mm, .inr (4, [.int (iI 0), .ref ta, .int (iI tz), .ref ka, .int (iI nn), .ref da, .ref ya, .int (iI pt), .int (iI md), .int (iI sx)])), (ka, .inl (cK, 4096, .inl (fun j => bI (kt j)))), (da, .inl (cD, 16400, .inl (fun j => iI (Vt j))))]) [0, 1, 2] rfl
                have hD9 := hD.sub (ws' := [(mm, .inr (4, [.int (iI 0), .ref ta, .int (iI tz), .ref ka, .int (iI nn), .ref da, .ref ya, .int (iI pt), .int (iI md), .int (iI sx)])), (ka, .inl (cK, 4096, .inl (fun j => bI (kt j)))), (da, .inl (cD, 16400, .inl (fun j => iI (Vt j))))]) [0, 1, 2] (by decide) rfl
                have hK9 := hK.sub (tys' := [(cK, .byte), (cD, .int)]) [0, 1] rfl
                exact mv_iret hx hb hr hlocks (fun tS ht hW => ⟨⟨_, (0, 1), rfl, ⟨rfl, Or.inl ⟨rfl, ⟨by omega, by omega, by omega, by omega, by rw [hn]; exact (ordr_gt (by omega) (by omega)).symm⟩⟩, by omega, by omega⟩, by rw [ht]; exact hP9, va_K.moved hW.alike hK9, hD9⟩, hS.F ht⟩) hS.2.2 dX4_compare_141
              · skip
                refine lv_iconst (v := iI (-1)) hx hb dX4_compare_136 rfl ?_
                refine lv_goto (tgt := 141) hx hb dX4_compare_137 (by decide) ?_
                subst hQ9
                have hP9 := hP.sub (ws' := [(mm, .inr (4, [.int (iI 0), .ref ta, .int (iI tz), .ref ka, .int (iI nn), .ref da, .ref ya, .int (iI pt), .int (iI md), .int (iI sx)])), (ka, .inl (cK, 4096, .inl (fun j => bI (kt j)))), (da, .inl (cD, 16400, .inl (fun j => iI (Vt j))))]) [0, 1, 2] rfl
                have hD9 := hD.sub (ws' := [(mm, .inr (4, [.int (iI 0), .ref ta, .int (iI tz), .ref ka, .int (iI nn), .ref da, .ref ya, .int (iI pt), .int (iI md), .int (iI sx)])), (ka, .inl (cK, 4096, .inl (fun j => bI (kt j)))), (da, .inl (cD, 16400, .inl (fun j => iI (Vt j))))]) [0, 1, 2] (by decide) rfl
                have hK9 := hK.sub (tys' := [(cK, .byte), (cD, .int)]) [0, 1] rfl
                exact mv_iret hx hb hr hlocks (fun tS ht hW => ⟨⟨_, (0, (-1)), rfl, ⟨rfl, Or.inl ⟨rfl, ⟨by omega, by omega, by omega, by omega, by rw [hn]; exact (ordr_lt (by omega) (by omega)).symm⟩⟩, by omega, by omega⟩, by rw [ht]; exact hP9, va_K.moved hW.alike hK9, hD9⟩, hS.F ht⟩) hS.2.2 dX4_compare_141
  refine lv_aload_n hx hb dX4_compare_0 rfl (lv_at hl 0 rfl) ?_
  refine lv_iconst (v := iI 0) hx hb dX4_compare_1 rfl ?_
  refine va_put (D := (dC, dI)) (ci := 4) (v := .int (iI 0)) (ty := .int) (C := RX4) (T := TX4) (N := 10) hx hb hT inX4 tyX4 tyX4_ok nX4 hown hK hP hD hS 0 rfl rfl 0 (by decide) (hT _ wd517) (fun _ h9 => h9) rfl (by decide +kernel) rfl rfl (Nat.le_of_ble_eq_true rfl) dX4_compare_2 (fun H locs hP hD hS => ?_)
  have hP : va_P (dC, dI) vwCl [(mm, .inr (4, [.int (iI 0), .ref ta, .int (iI tz), .ref ka, .int (iI nn), .ref da, .ref ya, .int (iI pt), .int (iI md), .int (iI sx)])), (ka, .inl (cK, 4096, .inl (fun j => bI (kt j)))), (da, .inl (cD, 16400, .inl (fun j => iI (Vt j))))] H := hP
  have hD : va_D A [(mm, .inr (4, [.int (iI 0), .ref ta, .int (iI tz), .ref ka, .int (iI nn), .ref da, .ref ya, .int (iI pt), .int (iI md), .int (iI sx)])), (ka, .inl (cK, 4096, .inl (fun j => bI (kt j)))), (da, .inl (cD, 16400, .inl (fun j => iI (Vt j))))] := hD
  refine lv_aload_n hx hb dX4_compare_5 rfl (lv_at hl 0 rfl) ?_
  refine lv_iload_n hx hb dX4_compare_6 rfl (lv_at hl 1 rfl) ?_
  have hPc := hP.sub (ws' := [(mm, .inr (4, [.int (iI 0), .ref ta, .int (iI tz), .ref ka, .int (iI nn), .ref da, .ref ya, .int (iI pt), .int (iI md), .int (iI sx)]))]) [0] rfl
  have hDc := hD.sub (ws' := [(mm, .inr (4, [.int (iI 0), .ref ta, .int (iI tz), .ref ka, .int (iI nn), .ref da, .ref ya, .int (iI pt), .int (iI md), .int (iI sx)]))]) [0] (by decide) rfl
  have hKc := hK.sub (tys' := []) [] rfl
  have hFc := va_free (wc := [(mm, .inr (4, [.int (iI 0), .ref ta, .int (iI tz), .ref ka, .int (iI nn), .ref da, .ref ya, .int (iI pt), .int (iI md), .int (iI sx)]))]) hD hS hA [0] rfl
  refine mv_call (mv_runV (As := [.int (iI a)]) (rest := []) ⟨hx, hb, hml, hown, hT⟩ (c_M_out l dC dI H.size mm 0 ta tz ka nn da ya pt md sx a (by omega) (by omega)) (cwV 1 hT (gV wd597 wd599 wd21 wd30 wd600) rfl rfl rfl (by decide +kernel) ⟨show 0 + 1 ≤ 2 from by omega, show 8 + (2 + 11) + 0 ≤ 60 from by omega⟩) ⟨fun a U g mk q => by obtain ⟨q0, q1, qP, qK, qD⟩ := q; exact ⟨q0, q1, qP, va_K.moved (u := U) (U := U.calling g mk a) (Vm.Alike.refl U.vm) qK, qD⟩, va_recv hKc hPc (ci := 4) (q0 := 0) rfl rfl, fun U hU hW => ⟨rfl, by rw [hU], by rw [hU]; exact hPc, va_K.moved hW.alike hKc, hDc.weaken (fun _ _ _ _ => trivial)⟩⟩ rfl rfl hl.1 rfl (lv_room (Nat.le_of_ble_eq_true rfl)) dX4_compare_7 ⟨show 0 + 0 ≤ 0 from by omega, show 0 + 0 ≤ 0 from by omega⟩) hS (fun q _ h => hFc q h) hFc (fun v21 u k19 n20 tS H1 locs ht hvm hw hB hz1 hk1 hS => ?_)
  obtain ⟨q22, rfl⟩ : ∃ y, y = u := ⟨_, rfl⟩
  obtain ⟨hP1, hK1, hD1⟩ := hB
  rw [ht] at hP1
  have hK1 := va_K.moved hvm.symm hK1
  try dsimp only at hw
  obtain ⟨hP, hD⟩ := va_join (wr := [(ka, .inl (cK, 4096, .inl (fun j => bI (kt j)))), (da, .inl (cD, 16400, .inl (fun j => iI (Vt j))))]) (w1 := [(mm, .inr (4, [.int (iI 0), .ref ta, .int (iI tz), .ref ka, .int (iI nn), .ref da, .ref ya, .int (iI pt), .int (iI md), .int (iI sx)]))]) hP hD [0] [1, 2] rfl rfl (by decide) (by decide) hk1 hFc hP1 hD1
  have hK := (hK.sub (tys' := [(cK, .byte), (cD, .int)]) [0, 1] rfl).app hK1
  generalize H1 = H at hP hS ⊢
  have hP : va_P (dC, dI) vwCl [(ka, .inl (cK, 4096, .inl (fun j => bI (kt j)))), (da, .inl (cD, 16400, .inl (fun j => iI (Vt j)))), (mm, .inr (4, [.int (iI 0), .ref ta, .int (iI tz), .ref ka, .int (iI nn), .ref da, .ref ya, .int (iI pt), .int (iI md), .int (iI sx)]))] H := hP
  have hD : va_D A [(ka, .inl (cK, 4096, .inl (fun j => bI (kt j)))), (da, .inl (cD, 16400, .inl (fun j => iI (Vt j)))), (mm, .inr (4, [.int (iI 0), .ref ta, .int (iI tz), .ref ka, .int (iI nn), .ref da, .ref ya, .int (iI pt), .int (iI md), .int (iI sx)]))] := hD
  have hK : va_K (dC, dI) vwCl [(cK, .byte), (cD, .int)] s := hK
  obtain ⟨rfl, hqv21, rfl, rfl⟩ := hw
  refine W.eq (g2 := F0 m 10 ls [.int (iI q22)]) rfl ?_
  refine li_if_ne (tgt := 21) hx hb (by omega) dX4_compare_10 (by decide) (fun c23 => ?_) (fun c23 => ?_)
  · skip
    refine lv_aload_n hx hb dX4_compare_21 rfl (lv_at hl 0 rfl) ?_
    refine lv_iconst (v := iI 1) hx hb dX4_compare_22 rfl ?_
    have hPc := hP.sub (ws' := [(mm, .inr (4, [.int (iI 0), .ref ta, .int (iI tz), .ref ka, .int (iI nn), .ref da, .ref ya, .int (iI pt), .int (iI md), .int (iI sx)]))]) [2] rfl
    have hDc := hD.sub (ws' := [(mm, .inr (4, [.int (iI 0), .ref ta, .int (iI tz), .ref ka, .int (iI nn), .ref da, .ref ya, .int (iI pt), .int (iI md), .int (iI sx)]))]) [2] (by decide) rfl
    have hKc := hK.sub (tys' := []) [] rfl
    have hFc := va_free (wc := [(mm, .inr (4, [.int (iI 0), .ref ta, .int (iI tz), .ref ka, .int (iI nn), .ref da, .ref ya, .int (iI pt), .int (iI md), .int (iI sx)]))]) hD hS hA [2] rfl
    refine mv_call (mv_runV (As := [.int (iI 1)]) (rest := []) ⟨hx, hb, hml, hown, hT⟩ (c_M_fail l dC dI H.size mm 0 ta tz ka nn da ya pt md sx 1 ) (cwV 1 hT (gV wd556 wd558 wd16 wd30 wd559) rfl rfl rfl (by decide +kernel) ⟨show 0 + 1 ≤ 2 from by omega, show 8 + (2 + 11) + 0 ≤ 60 from by omega⟩) ⟨fun a U g mk q => by obtain ⟨q0, q1, qP, qK, qD⟩ := q; exact ⟨q0, q1, qP, va_K.moved (u := U) (U := U.calling g mk a) (Vm.Alike.refl U.vm) qK, qD⟩, va_recv hKc hPc (ci := 4) (q0 := 0) rfl rfl, fun U hU hW => ⟨rfl, by rw [hU], by rw [hU]; exact hPc, va_K.moved hW.alike hKc, hDc.weaken (fun _ _ _ _ => trivial)⟩⟩ rfl rfl hl.1 rfl (lv_room (Nat.le_of_ble_eq_true rfl)) dX4_compare_23 ⟨show 0 + 0 + 0 ≤ 0 from by omega, show 0 + 0 + 0 ≤ 0 from by omega⟩) hS (fun q _ h => hFc q h) hFc (fun v26 u k24 n25 tS H1 locs ht hvm hw hB hz1 hk1 hS => ?_)
    obtain ⟨hP1, hK1, hD1⟩ := hB
    rw [ht] at hP1
    have hK1 := va_K.moved hvm.symm hK1
    try dsimp only at hw
    obtain ⟨hP, hD⟩ := va_join (wr := [(ka, .inl (cK, 4096, .inl (fun j => bI (kt j)))), (da, .inl (cD, 16400, .inl (fun j => iI (Vt j))))]) (w1 := [(mm, .inr (4, [.int (iI 1), .ref ta, .int (iI tz), .ref ka, .int (iI nn), .ref da, .ref ya, .int (iI pt), .int (iI md), .int (iI sx)]))]) hP hD [2] [0, 1] rfl rfl (by decide) (by decide) hk1 hFc hP1 hD1
    have hK := (hK.sub (tys' := [(cK, .byte), (cD, .int)]) [0, 1] rfl).app hK1
    generalize H1 = H at hP hS ⊢
    have hP : va_P (dC, dI) vwCl [(ka, .inl (cK, 4096, .inl (fun j => bI (kt j)))), (da, .inl (cD, 16400, .inl (fun j => iI (Vt j)))), (mm, .inr (4, [.int (iI 1), .ref ta, .int (iI tz), .ref ka, .int (iI nn), .ref da, .ref ya, .int (iI pt), .int (iI md), .int (iI sx)]))] H := hP
    have hD : va_D A [(ka, .inl (cK, 4096, .inl (fun j => bI (kt j)))), (da, .inl (cD, 16400, .inl (fun j => iI (Vt j)))), (mm, .inr (4, [.int (iI 1), .ref ta, .int (iI tz), .ref ka, .int (iI nn), .ref da, .ref ya, .int (iI pt), .int (iI md), .int (iI sx)]))] := hD
    have hK : va_K (dC, dI) vwCl [(cK, .byte), (cD, .int)] s := hK
    obtain ⟨rfl, rfl, rfl⟩ := hw
    refine W.eq (g2 := F0 m 26 ls [.int (iI 0)]) rfl ?_
    subst hQ9
    have hP9 := hP.sub (ws' := [(mm, .inr (4, [.int (iI 1), .ref ta, .int (iI tz), .ref ka, .int (iI nn), .ref da, .ref ya, .int (iI pt), .int (iI md), .int (iI sx)])), (ka, .inl (cK, 4096, .inl (fun j => bI (kt j)))), (da, .inl (cD, 16400, .inl (fun j => iI (Vt j))))]) [2, 0, 1] rfl
    have hD9 := hD.sub (ws' := [(mm, .inr (4, [.int (iI 1), .ref ta, .int (iI tz), .ref ka, .int (iI nn), .ref da, .ref ya, .int (iI pt), .int (iI md), .int (iI sx)])), (ka, .inl (cK, 4096, .inl (fun j => bI (kt j)))), (da, .inl (cD, 16400, .inl (fun j => iI (Vt j))))]) [2, 0, 1] (by decide) rfl
    have hK9 := hK.sub (tys' := [(cK, .byte), (cD, .int)]) [0, 1] rfl
    exact mv_iret hx hb hr hlocks (fun tS ht hW => ⟨⟨_, (1, 0), rfl, ⟨rfl, Or.inr (⟨rfl, by omega⟩), by omega, by omega⟩, by rw [ht]; exact hP9, va_K.moved hW.alike hK9, hD9⟩, hS.F ht⟩) hS.2.2 dX4_compare_26
  · skip
    refine lv_aload_n hx hb dX4_compare_13 rfl (lv_at hl 0 rfl) ?_
    refine lv_iload_n hx hb dX4_compare_14 rfl (lv_at hl 2 rfl) ?_
    have hPc := hP.sub (ws' := [(mm, .inr (4, [.int (iI 0), .ref ta, .int (iI tz), .ref ka, .int (iI nn), .ref da, .ref ya, .int (iI pt), .int (iI md), .int (iI sx)]))]) [2] rfl
    have hDc := hD.sub (ws' := [(mm, .inr (4, [.int (iI 0), .ref ta, .int (iI tz), .ref ka, .int (iI nn), .ref da, .ref ya, .int (iI pt), .int (iI md), .int (iI sx)]))]) [2] (by decide) rfl
    have hKc := hK.sub (tys' := []) [] rfl
    have hFc := va_free (wc := [(mm, .inr (4, [.int (iI 0), .ref ta, .int (iI tz), .ref ka, .int (iI nn), .ref da, .ref ya, .int (iI pt), .int (iI md), .int (iI sx)]))]) hD hS hA [2] rfl
    refine mv_call (mv_runV (As := [.int (iI a2)]) (rest := []) ⟨hx, hb, hml, hown, hT⟩ (c_M_out l dC dI H.size mm 0 ta tz ka nn da ya pt md sx a2 (by omega) (by omega)) (cwV 1 hT (gV wd597 wd599 wd21 wd30 wd600) rfl rfl rfl (by decide +kernel) ⟨show 0 + 1 ≤ 2 from by omega, show 8 + (2 + 11) + 0 ≤ 60 from by omega⟩) ⟨fun a U g mk q => by obtain ⟨q0, q1, qP, qK, qD⟩ := q; exact ⟨q0, q1, qP, va_K.moved (u := U) (U := U.calling g mk a) (Vm.Alike.refl U.vm) qK, qD⟩, va_recv hKc hPc (ci := 4) (q0 := 0) rfl rfl, fun U hU hW => ⟨rfl, by rw [hU], by rw [hU]; exact hPc, va_K.moved hW.alike hKc, hDc.weaken (fun _ _ _ _ => trivial)⟩⟩ rfl rfl hl.1 rfl (lv_room (Nat.le_of_ble_eq_true rfl)) dX4_compare_15 ⟨show 0 + 0 + 0 ≤ 0 from by omega, show 0 + 0 + 0 ≤ 0 from by omega⟩) hS (fun q _ h => hFc q h) hFc (fun v29 u k27 n28 tS H1 locs ht hvm hw hB hz1 hk1 hS => ?_)
    obtain ⟨q30, rfl⟩ : ∃ y, y = u := ⟨_, rfl⟩
    obtain ⟨hP1, hK1, hD1⟩ := hB
    rw [ht] at hP1
    have hK1 := va_K.moved hvm.symm hK1
    try dsimp only at hw
    obtain ⟨hP, hD⟩ := va_join (wr := [(ka, .inl (cK, 4096, .inl (fun j => bI (kt j)))), (da, .inl (cD, 16400, .inl (fun j => iI (Vt j))))]) (w1 := [(mm, .inr (4, [.int (iI 0), .ref ta, .int (iI tz), .ref ka, .int (iI nn), .ref da, .ref ya, .int (iI pt), .int (iI md), .int (iI sx)]))]) hP hD [2] [0, 1] rfl rfl (by decide) (by decide) hk1 hFc hP1 hD1
    have hK := (hK.sub (tys' := [(cK, .byte), (cD, .int)]) [0, 1] rfl).app hK1
    generalize H1 = H at hP hS ⊢
    have hP : va_P (dC, dI) vwCl [(ka, .inl (cK, 4096, .inl (fun j => bI (kt j)))), (da, .inl (cD, 16400, .inl (fun j => iI (Vt j)))), (mm, .inr (4, [.int (iI 0), .ref ta, .int (iI tz), .ref ka, .int (iI nn), .ref da, .ref ya, .int (iI pt), .int (iI md), .int (iI sx)]))] H := hP
    have hD : va_D A [(ka, .inl (cK, 4096, .inl (fun j => bI (kt j)))), (da, .inl (cD, 16400, .inl (fun j => iI (Vt j)))), (mm, .inr (4, [.int (iI 0), .ref ta, .int (iI tz), .ref ka, .int (iI nn), .ref da, .ref ya, .int (iI pt), .int (iI md), .int (iI sx)]))] := hD
    have hK : va_K (dC, dI) vwCl [(cK, .byte), (cD, .int)] s := hK
    obtain ⟨rfl, hqv29, rfl, rfl⟩ := hw
    refine W.eq (g2 := F0 m 18 ls [.int (iI q30)]) rfl ?_
    refine li_if_eq (tgt := 27) hx hb (by omega) dX4_compare_18 (by decide) (fun c31 => ?_) (fun c31 => ?_)
    · skip
      refine lv_iconst (v := iI 0) hx hb dX4_compare_27 rfl ?_
      refine lv_istore_n (lv' := [(3, .int (iI 0)), (0, .ref mm), (1, .int (iI a)), (2, .int (iI a2))]) hx hb dX4_compare_28 rfl hl (by decide) rfl (fun ls hl => ?_)
      exact LP (5000) 0 _ _ _ _ _ (by omega) (by omega) (by omega) (by rw [Int.sub_zero]; exact ord2_4096 (by have := hgN a (by omega) (by omega); omega) (by have := hgN a2 (by omega) (by omega); omega)) (by omega) (hK.sub [0, 1] rfl) (hP.sub [2, 0, 1] rfl) (hD.sub [2, 0, 1] (by decide) rfl) hS (lv_sub hl [1, 2, 3, 0] rfl)
    · skip
      refine lv_aload_n hx hb dX4_compare_21 rfl (lv_at hl 0 rfl) ?_
      refine lv_iconst (v := iI 1) hx hb dX4_compare_22 rfl ?_
      have hPc := hP.sub (ws' := [(mm, .inr (4, [.int (iI 0), .ref ta, .int (iI tz), .ref ka, .int (iI nn), .ref da, .ref ya, .int (iI pt), .int (iI md), .int (iI sx)]))]) [2] rfl
      have hDc := hD.sub (ws' := [(mm, .inr (4, [.int (iI 0), .ref ta, .int (iI tz), .ref ka, .int (iI nn), .ref da, .ref ya, .int (iI pt), .int (iI md), .int (iI sx)]))]) [2] (by decide) rfl
      have hKc := hK.sub (tys' := []) [] rfl
      have hFc := va_free (wc := [(mm, .inr (4, [.int (iI 0), .ref ta, .int (iI tz), .ref ka, .int (iI nn), .ref da, .ref ya, .int (iI pt), .int (iI md), .int (iI sx)]))]) hD hS hA [2] rfl
      refine mv_call (mv_runV (As := [.int (iI 1)]) (rest := []) ⟨hx, hb, hml, hown, hT⟩ (c_M_fail l dC dI H.size mm 0 ta tz ka nn da ya pt md sx 1 ) (cwV 1 hT (gV wd556 wd558 wd16 wd30 wd559) rfl rfl rfl (by decide +kernel) ⟨show 0 + 1 ≤ 2 from by omega, show 8 + (2 + 11) + 0 ≤ 60 from by omega⟩) ⟨fun a U g mk q => by obtain ⟨q0, q1, qP, qK, qD⟩ := q; exact ⟨q0, q1, qP, va_K.moved (u := U) (U := U.calling g mk a) (Vm.Alike.refl U.vm) qK, qD⟩, va_recv hKc hPc (ci := 4) (q0 := 0) rfl rfl, fun U hU hW => ⟨rfl, by rw [hU], by rw [hU]; exact hPc, va_K.moved hW.alike hKc, hDc.weaken (fun _ _ _ _ => trivial)⟩⟩ rfl rfl hl.1 rfl (lv_room (Nat.le_of_ble_eq_true rfl)) dX4_compare_23 ⟨show 0 + 0 + 0 + 0 ≤ 0 from by omega, show 0 + 0 + 0 + 0 ≤ 0 from by omega⟩) hS (fun q _ h => hFc q h) hFc (fun v34 u k32 n33 tS H1 locs ht hvm hw hB hz1 hk1 hS => ?_)
      obtain ⟨hP1, hK1, hD1⟩ := hB
      rw [ht] at hP1
      have hK1 := va_K.moved hvm.symm hK1
      try dsimp only at hw
      obtain ⟨hP, hD⟩ := va_join (wr := [(ka, .inl (cK, 4096, .inl (fun j => bI (kt j)))), (da, .inl (cD, 16400, .inl (fun j => iI (Vt j))))]) (w1 := [(mm, .inr (4, [.int (iI 1), .ref ta, .int (iI tz), .ref ka, .int (iI nn), .ref da, .ref ya, .int (iI pt), .int (iI md), .int (iI sx)]))]) hP hD [2] [0, 1] rfl rfl (by decide) (by decide) hk1 hFc hP1 hD1
      have hK := (hK.sub (tys' := [(cK, .byte), (cD, .int)]) [0, 1] rfl).app hK1
      generalize H1 = H at hP hS ⊢
      have hP : va_P (dC, dI) vwCl [(ka, .inl (cK, 4096, .inl (fun j => bI (kt j)))), (da, .inl (cD, 16400, .inl (fun j => iI (Vt j)))), (mm, .inr (4, [.int (iI 1), .ref ta, .int (iI tz), .ref ka, .int (iI nn), .ref da, .ref ya, .int (iI pt), .int (iI md), .int (iI sx)]))] H := hP
      have hD : va_D A [(ka, .inl (cK, 4096, .inl (fun j => bI (kt j)))), (da, .inl (cD, 16400, .inl (fun j => iI (Vt j)))), (mm, .inr (4, [.int (iI 1), .ref ta, .int (iI tz), .ref ka, .int (iI nn), .ref da, .ref ya, .int (iI pt), .int (iI md), .int (iI sx)]))] := hD
      have hK : va_K (dC, dI) vwCl [(cK, .byte), (cD, .int)] s := hK
      obtain ⟨rfl, rfl, rfl⟩ := hw
      refine W.eq (g2 := F0 m 26 ls [.int (iI 0)]) rfl ?_
      subst hQ9
      have hP9 := hP.sub (ws' := [(mm, .inr (4, [.int (iI 1), .ref ta, .int (iI tz), .ref ka, .int (iI nn), .ref da, .ref ya, .int (iI pt), .int (iI md), .int (iI sx)])), (ka, .inl (cK, 4096, .inl (fun j => bI (kt j)))), (da, .inl (cD, 16400, .inl (fun j => iI (Vt j))))]) [2, 0, 1] rfl
      have hD9 := hD.sub (ws' := [(mm, .inr (4, [.int (iI 1), .ref ta, .int (iI tz), .ref ka, .int (iI nn), .ref da, .ref ya, .int (iI pt), .int (iI md), .int (iI sx)])), (ka, .inl (cK, 4096, .inl (fun j => bI (kt j)))), (da, .inl (cD, 16400, .inl (fun j => iI (Vt j))))]) [2, 0, 1] (by decide) rfl
      have hK9 := hK.sub (tys' := [(cK, .byte), (cD, .int)]) [0, 1] rfl
      exact mv_iret hx hb hr hlocks (fun tS ht hW => ⟨⟨_, (1, 0), rfl, ⟨rfl, Or.inr (⟨rfl, by omega⟩), by omega, by omega⟩, by rw [ht]; exact hP9, va_K.moved hW.alike hK9, hD9⟩, hS.F ht⟩) hS.2.2 dX4_compare_26
