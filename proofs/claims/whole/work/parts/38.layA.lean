def CV (l : Launch) (dC : Nat → ClassId) (dI : Nat → Nat → Nat) (d : Nat) : Prop := ∀ (sz : Nat) (nd : Nat) (b : Nat) (h : Nat) (rw : Nat) (mn : Int) (sx : Int) (cR : ClassId) (M : Nat) (V : Nat → Int) (kd : Int) (cs : Int) (tg : Int) (op : Int) (sz1 : Int) (ct : Int) (r : Nat) (cA : ClassId) (w : Nat) (t : Nat → Int) (z : Int) (L : List Int) (Vs : Nat → Int) (i : Int) (x : Int) (pr : Int) (dp : Int) (hoN : okN M V mn) (hVs : eqN V Vs mn) (hok : okB w t z L) (hsx : sx = 0 ∨ sx = 1) (hi : 0 ≤ i ∧ i ≤ x ∧ x ≤ z) (hpr : -1 ≤ pr ∧ pr < mn) (hdp : dp = 41 - ((d : Nat) : Int) ∧ 1 ≤ dp), mv_Met l yX2_layOutValue wsX2_layOutValue ({ frames := (2 * d + 5), cells := (phR M), slots := (phR M), locals := (53 * d + 200) }) (va_Pc [.ref nd, .int (iI i), .int (iI x), .int (iI pr), .int (iI dp)] (fun U => U.heap.size = sz ∧ va_P (dC, dI) vwCl [(nd, .inr (2, [.ref b, .ref h, .ref rw, .int (iI mn), .int (iI sx)])), (rw, .inl (cR, M, .inl (fun j => iI (V j)))), (h, .inr (1, [.int (iI kd), .int (iI cs), .int (iI tg), .int (iI op), .int (iI sz1), .int (iI ct)])), (b, .inr (0, [.ref r, .int (iI z)])), (r, .inl (cA, w, .inl (fun j => bI (t j))))] U.heap ∧ va_K (dC, dI) vwCl [(cR, .int), (cA, .byte)] U ∧ va_D (fun _ => True) [(nd, .inr (2, [.ref b, .ref h, .ref rw, .int (iI mn), .int (iI sx)])), (rw, .inl (cR, M, .inl (fun j => iI (V j)))), (h, .inr (1, [.int (iI kd), .int (iI cs), .int (iI tg), .int (iI op), .int (iI sz1), .int (iI ct)])), (b, .inr (0, [.ref r, .int (iI z)])), (r, .inl (cA, w, .inl (fun j => bI (t j))))] ∧ nsW U)) (mv_Q (fun (v : Option Value) (u : Nat × ClassId × Nat × (Nat → Int) × Int × Int × Int × Int × Int × Int × Int × Int) (k n : Nat) => match u with | (rw', cR', M', V', mn', kd', cs', tg', op', sz1', ct', q') => v = some (.int (iI q')) ∧ (layV (gd L) sx d i x pr mn Vs = none ∧ q' = -1 ∧ okM M' V' mn' ∨ ∃ W : Nat → Int, layV (gd L) sx d i x pr mn Vs = some (q', mn', W) ∧ eqN V' W mn' ∧ okN M' V' mn' ∧ mn < mn' ∧ i + 2 ≤ q' ∧ q' ≤ x) ∧ (-1 ≤ q' ∧ q' ≤ 4096) ∧ n + phR M' ≤ phR M ∧ k ≤ n) (fun (u : Nat × ClassId × Nat × (Nat → Int) × Int × Int × Int × Int × Int × Int × Int × Int) (tS : State) => match u with | (rw', cR', M', V', mn', kd', cs', tg', op', sz1', ct', q') => va_P (dC, dI) vwCl [(nd, .inr (2, [.ref b, .ref h, .ref rw', .int (iI mn'), .int (iI sx)])), (rw', .inl (cR', M', .inl (fun j => iI (V' j)))), (h, .inr (1, [.int (iI kd'), .int (iI cs'), .int (iI tg'), .int (iI op'), .int (iI sz1'), .int (iI ct')])), (b, .inr (0, [.ref r, .int (iI z)])), (r, .inl (cA, w, .inl (fun j => bI (t j))))] tS.heap ∧ va_K (dC, dI) vwCl [(cR', .int), (cA, .byte)] tS ∧ va_D (va_A [(nd, .inr (2, [.ref b, .ref h, .ref rw, .int (iI mn), .int (iI sx)])), (rw, .inl (cR, M, .inl (fun j => iI (V j)))), (h, .inr (1, [.int (iI kd), .int (iI cs), .int (iI tg), .int (iI op), .int (iI sz1), .int (iI ct)])), (b, .inr (0, [.ref r, .int (iI z)])), (r, .inl (cA, w, .inl (fun j => bI (t j))))] sz) [(nd, .inr (2, [.ref b, .ref h, .ref rw', .int (iI mn'), .int (iI sx)])), (rw', .inl (cR', M', .inl (fun j => iI (V' j)))), (h, .inr (1, [.int (iI kd'), .int (iI cs'), .int (iI tg'), .int (iI op'), .int (iI sz1'), .int (iI ct')])), (b, .inr (0, [.ref r, .int (iI z)])), (r, .inl (cA, w, .inl (fun j => bI (t j))))]) (va_A [(nd, .inr (2, [.ref b, .ref h, .ref rw, .int (iI mn), .int (iI sx)])), (rw, .inl (cR, M, .inl (fun j => iI (V j)))), (h, .inr (1, [.int (iI kd), .int (iI cs), .int (iI tg), .int (iI op), .int (iI sz1), .int (iI ct)])), (b, .inr (0, [.ref r, .int (iI z)])), (r, .inl (cA, w, .inl (fun j => bI (t j))))] sz)) (va_A [(nd, .inr (2, [.ref b, .ref h, .ref rw, .int (iI mn), .int (iI sx)])), (rw, .inl (cR, M, .inl (fun j => iI (V j)))), (h, .inr (1, [.int (iI kd), .int (iI cs), .int (iI tg), .int (iI op), .int (iI sz1), .int (iI ct)])), (b, .inr (0, [.ref r, .int (iI z)])), (r, .inl (cA, w, .inl (fun j => bI (t j))))] sz)
def CU (l : Launch) (dC : Nat → ClassId) (dI : Nat → Nat → Nat) (d : Nat) : Prop := ∀ (sz : Nat) (nd : Nat) (b : Nat) (h : Nat) (rw : Nat) (mn : Int) (sx : Int) (cR : ClassId) (M : Nat) (V : Nat → Int) (kd : Int) (cs : Int) (tg : Int) (op : Int) (sz1 : Int) (ct : Int) (r : Nat) (cA : ClassId) (w : Nat) (t : Nat → Int) (z : Int) (L : List Int) (Vs : Nat → Int) (i : Int) (x : Int) (pr : Int) (dp : Int) (hoN : okN M V mn) (hVs : eqN V Vs mn) (hok : okB w t z L) (hsx : sx = 0 ∨ sx = 1) (hi : 0 ≤ i ∧ i ≤ x ∧ x ≤ z) (hpr : -1 ≤ pr ∧ pr < mn) (hdp : dp = 41 - ((d : Nat) : Int) ∧ 1 ≤ dp), mv_Met l yX2_layOutUpTo wsX2_layOutUpTo ({ frames := (2 * d + 6), cells := (phR M), slots := (phR M), locals := (53 * d + 227) }) (va_Pc [.ref nd, .int (iI i), .int (iI x), .int (iI pr), .int (iI dp)] (fun U => U.heap.size = sz ∧ va_P (dC, dI) vwCl [(nd, .inr (2, [.ref b, .ref h, .ref rw, .int (iI mn), .int (iI sx)])), (rw, .inl (cR, M, .inl (fun j => iI (V j)))), (h, .inr (1, [.int (iI kd), .int (iI cs), .int (iI tg), .int (iI op), .int (iI sz1), .int (iI ct)])), (b, .inr (0, [.ref r, .int (iI z)])), (r, .inl (cA, w, .inl (fun j => bI (t j))))] U.heap ∧ va_K (dC, dI) vwCl [(cR, .int), (cA, .byte)] U ∧ va_D (fun _ => True) [(nd, .inr (2, [.ref b, .ref h, .ref rw, .int (iI mn), .int (iI sx)])), (rw, .inl (cR, M, .inl (fun j => iI (V j)))), (h, .inr (1, [.int (iI kd), .int (iI cs), .int (iI tg), .int (iI op), .int (iI sz1), .int (iI ct)])), (b, .inr (0, [.ref r, .int (iI z)])), (r, .inl (cA, w, .inl (fun j => bI (t j))))] ∧ nsW U)) (mv_Q (fun (v : Option Value) (u : Nat × ClassId × Nat × (Nat → Int) × Int × Int × Int × Int × Int × Int × Int × Int) (k n : Nat) => match u with | (rw', cR', M', V', mn', kd', cs', tg', op', sz1', ct', q') => v = some (.int (iI q')) ∧ (loopU (layV (gd L) sx d) x pr 4096 i mn Vs = none ∧ q' = 0 ∧ okM M' V' mn' ∨ ∃ W : Nat → Int, loopU (layV (gd L) sx d) x pr 4096 i mn Vs = some (mn', W) ∧ q' = 1 ∧ eqN V' W mn' ∧ okN M' V' mn' ∧ mn ≤ mn') ∧ (-1 ≤ q' ∧ q' ≤ 4096) ∧ n + phR M' ≤ phR M ∧ k ≤ n) (fun (u : Nat × ClassId × Nat × (Nat → Int) × Int × Int × Int × Int × Int × Int × Int × Int) (tS : State) => match u with | (rw', cR', M', V', mn', kd', cs', tg', op', sz1', ct', q') => va_P (dC, dI) vwCl [(nd, .inr (2, [.ref b, .ref h, .ref rw', .int (iI mn'), .int (iI sx)])), (rw', .inl (cR', M', .inl (fun j => iI (V' j)))), (h, .inr (1, [.int (iI kd'), .int (iI cs'), .int (iI tg'), .int (iI op'), .int (iI sz1'), .int (iI ct')])), (b, .inr (0, [.ref r, .int (iI z)])), (r, .inl (cA, w, .inl (fun j => bI (t j))))] tS.heap ∧ va_K (dC, dI) vwCl [(cR', .int), (cA, .byte)] tS ∧ va_D (va_A [(nd, .inr (2, [.ref b, .ref h, .ref rw, .int (iI mn), .int (iI sx)])), (rw, .inl (cR, M, .inl (fun j => iI (V j)))), (h, .inr (1, [.int (iI kd), .int (iI cs), .int (iI tg), .int (iI op), .int (iI sz1), .int (iI ct)])), (b, .inr (0, [.ref r, .int (iI z)])), (r, .inl (cA, w, .inl (fun j => bI (t j))))] sz) [(nd, .inr (2, [.ref b, .ref h, .ref rw', .int (iI mn'), .int (iI sx)])), (rw', .inl (cR', M', .inl (fun j => iI (V' j)))), (h, .inr (1, [.int (iI kd'), .int (iI cs'), .int (iI tg'), .int (iI op'), .int (iI sz1'), .int (iI ct')])), (b, .inr (0, [.ref r, .int (iI z)])), (r, .inl (cA, w, .inl (fun j => bI (t j))))]) (va_A [(nd, .inr (2, [.ref b, .ref h, .ref rw, .int (iI mn), .int (iI sx)])), (rw, .inl (cR, M, .inl (fun j => iI (V j)))), (h, .inr (1, [.int (iI kd), .int (iI cs), .int (iI tg), .int (iI op), .int (iI sz1), .int (iI ct)])), (b, .inr (0, [.ref r, .int (iI z)])), (r, .inl (cA, w, .inl (fun j => bI (t j))))] sz)) (va_A [(nd, .inr (2, [.ref b, .ref h, .ref rw, .int (iI mn), .int (iI sx)])), (rw, .inl (cR, M, .inl (fun j => iI (V j)))), (h, .inr (1, [.int (iI kd), .int (iI cs), .int (iI tg), .int (iI op), .int (iI sz1), .int (iI ct)])), (b, .inr (0, [.ref r, .int (iI z)])), (r, .inl (cA, w, .inl (fun j => bI (t j))))] sz)
def CZ (l : Launch) (dC : Nat → ClassId) (dI : Nat → Nat → Nat) (d : Nat) : Prop := ∀ (sz : Nat) (nd : Nat) (b : Nat) (h : Nat) (rw : Nat) (mn : Int) (sx : Int) (cR : ClassId) (M : Nat) (V : Nat → Int) (kd : Int) (cs : Int) (tg : Int) (op : Int) (sz1 : Int) (ct : Int) (r : Nat) (cA : ClassId) (w : Nat) (t : Nat → Int) (z : Int) (L : List Int) (Vs : Nat → Int) (i : Int) (x : Int) (pr : Int) (dp : Int) (hoN : okN M V mn) (hVs : eqN V Vs mn) (hok : okB w t z L) (hsx : sx = 0 ∨ sx = 1) (hi : 0 ≤ i ∧ i ≤ x ∧ x ≤ z) (hpr : -1 ≤ pr ∧ pr < mn) (hdp : dp = 41 - ((d : Nat) : Int) ∧ 1 ≤ dp), mv_Met l yX2_layOutUpToZeros wsX2_layOutUpToZeros ({ frames := (2 * d + 6), cells := (phR M), slots := (phR M), locals := (53 * d + 227) }) (va_Pc [.ref nd, .int (iI i), .int (iI x), .int (iI pr), .int (iI dp)] (fun U => U.heap.size = sz ∧ va_P (dC, dI) vwCl [(nd, .inr (2, [.ref b, .ref h, .ref rw, .int (iI mn), .int (iI sx)])), (rw, .inl (cR, M, .inl (fun j => iI (V j)))), (h, .inr (1, [.int (iI kd), .int (iI cs), .int (iI tg), .int (iI op), .int (iI sz1), .int (iI ct)])), (b, .inr (0, [.ref r, .int (iI z)])), (r, .inl (cA, w, .inl (fun j => bI (t j))))] U.heap ∧ va_K (dC, dI) vwCl [(cR, .int), (cA, .byte)] U ∧ va_D (fun _ => True) [(nd, .inr (2, [.ref b, .ref h, .ref rw, .int (iI mn), .int (iI sx)])), (rw, .inl (cR, M, .inl (fun j => iI (V j)))), (h, .inr (1, [.int (iI kd), .int (iI cs), .int (iI tg), .int (iI op), .int (iI sz1), .int (iI ct)])), (b, .inr (0, [.ref r, .int (iI z)])), (r, .inl (cA, w, .inl (fun j => bI (t j))))] ∧ nsW U)) (mv_Q (fun (v : Option Value) (u : Nat × ClassId × Nat × (Nat → Int) × Int × Int × Int × Int × Int × Int × Int × Int) (k n : Nat) => match u with | (rw', cR', M', V', mn', kd', cs', tg', op', sz1', ct', q') => v = some (.int (iI q')) ∧ (loopZ (gd L) (layV (gd L) sx d) x pr 4096 i mn Vs = none ∧ q' = -1 ∧ okM M' V' mn' ∨ ∃ W : Nat → Int, loopZ (gd L) (layV (gd L) sx d) x pr 4096 i mn Vs = some (q', mn', W) ∧ eqN V' W mn' ∧ okN M' V' mn' ∧ mn ≤ mn' ∧ i ≤ q' ∧ q' + 2 ≤ x) ∧ (-1 ≤ q' ∧ q' ≤ 4096) ∧ n + phR M' ≤ phR M ∧ k ≤ n) (fun (u : Nat × ClassId × Nat × (Nat → Int) × Int × Int × Int × Int × Int × Int × Int × Int) (tS : State) => match u with | (rw', cR', M', V', mn', kd', cs', tg', op', sz1', ct', q') => va_P (dC, dI) vwCl [(nd, .inr (2, [.ref b, .ref h, .ref rw', .int (iI mn'), .int (iI sx)])), (rw', .inl (cR', M', .inl (fun j => iI (V' j)))), (h, .inr (1, [.int (iI kd'), .int (iI cs'), .int (iI tg'), .int (iI op'), .int (iI sz1'), .int (iI ct')])), (b, .inr (0, [.ref r, .int (iI z)])), (r, .inl (cA, w, .inl (fun j => bI (t j))))] tS.heap ∧ va_K (dC, dI) vwCl [(cR', .int), (cA, .byte)] tS ∧ va_D (va_A [(nd, .inr (2, [.ref b, .ref h, .ref rw, .int (iI mn), .int (iI sx)])), (rw, .inl (cR, M, .inl (fun j => iI (V j)))), (h, .inr (1, [.int (iI kd), .int (iI cs), .int (iI tg), .int (iI op), .int (iI sz1), .int (iI ct)])), (b, .inr (0, [.ref r, .int (iI z)])), (r, .inl (cA, w, .inl (fun j => bI (t j))))] sz) [(nd, .inr (2, [.ref b, .ref h, .ref rw', .int (iI mn'), .int (iI sx)])), (rw', .inl (cR', M', .inl (fun j => iI (V' j)))), (h, .inr (1, [.int (iI kd'), .int (iI cs'), .int (iI tg'), .int (iI op'), .int (iI sz1'), .int (iI ct')])), (b, .inr (0, [.ref r, .int (iI z)])), (r, .inl (cA, w, .inl (fun j => bI (t j))))]) (va_A [(nd, .inr (2, [.ref b, .ref h, .ref rw, .int (iI mn), .int (iI sx)])), (rw, .inl (cR, M, .inl (fun j => iI (V j)))), (h, .inr (1, [.int (iI kd), .int (iI cs), .int (iI tg), .int (iI op), .int (iI sz1), .int (iI ct)])), (b, .inr (0, [.ref r, .int (iI z)])), (r, .inl (cA, w, .inl (fun j => bI (t j))))] sz)) (va_A [(nd, .inr (2, [.ref b, .ref h, .ref rw, .int (iI mn), .int (iI sx)])), (rw, .inl (cR, M, .inl (fun j => iI (V j)))), (h, .inr (1, [.int (iI kd), .int (iI cs), .int (iI tg), .int (iI op), .int (iI sz1), .int (iI ct)])), (b, .inr (0, [.ref r, .int (iI z)])), (r, .inl (cA, w, .inl (fun j => bI (t j))))] sz)
set_option maxHeartbeats 4000000 in
set_option maxRecDepth 100000 in
theorem CV_0 (l : Launch) (dC : Nat → ClassId) (dI : Nat → Nat → Nat) : CV l dC dI 0 := by
  intro sz nd b h rw mn sx cR M V kd cs tg op sz1 ct r cA w t z L Vs i x pr dp hoN hVs hok hsx hi hpr hdp
  refine mv_ofW (cc := cX2_layOutValue) (maxL := 8) (ret := (some .int)) (by decide) rfl ?_
  intro p e s m args below meth c s₁ B hml hv
  obtain ⟨rfl, hsz, hP, hK, hD0, hN⟩ := hv
  have hx := B.exec
  have hb := B.bytes
  have hr := B.returns
  have hT : ∀ w ∈ wT, w.before _ s = true := fun w h => atoms_spec (ws := wsX2_layOutValue) B.pre w (List.mem_cons_of_mem _ h)
  have hown : s.vm.findClass RX2 = some m.cls := findClass_of_methodNamed B.named
  have hlocks := B.notSynchronized
  subst hsz
  have hD := hD0.self (sz := s.heap.size)
  generalize hAe : va_A [(nd, .inr (2, [.ref b, .ref h, .ref rw, .int (iI mn), .int (iI sx)])), (rw, .inl (cR, M, .inl (fun j => iI (V j)))), (h, .inr (1, [.int (iI kd), .int (iI cs), .int (iI tg), .int (iI op), .int (iI sz1), .int (iI ct)])), (b, .inr (0, [.ref r, .int (iI z)])), (r, .inl (cA, w, .inl (fun j => bI (t j))))] s.heap.size = A at hD ⊢
  have hA : ∀ q : Nat, s.heap.size ≤ q → A q := fun q h => by rw [← hAe]; exact Or.inr h
  have hS : va_S A s.heap s.heap [] := va_S.rf
  have hP : va_P (dC, dI) vwCl [(nd, .inr (2, [.ref b, .ref h, .ref rw, .int (iI mn), .int (iI sx)])), (rw, .inl (cR, M, .inl (fun j => iI (V j)))), (h, .inr (1, [.int (iI kd), .int (iI cs), .int (iI tg), .int (iI op), .int (iI sz1), .int (iI ct)])), (b, .inr (0, [.ref r, .int (iI z)])), (r, .inl (cA, w, .inl (fun j => bI (t j))))] s.heap := hP
  have hl := lv_entry ([.ref nd, .int (iI i), .int (iI x), .int (iI pr), .int (iI dp)]) (n := 8) (Nat.le_of_ble_eq_true rfl)
  rw [lg_entry_eq]
  generalize (lg_sl ([.ref nd, .int (iI i), .int (iI x), .int (iI pr), .int (iI dp)]) ++ List.replicate (8 - (lg_sl ([.ref nd, .int (iI i), .int (iI x), .int (iI pr), .int (iI dp)])).length) Slot.unset).toArray = ls at hl ⊢
  have hl : lv_has ls 8 [(0, .ref nd), (1, .int (iI i)), (2, .int (iI x)), (3, .int (iI pr)), (4, .int (iI dp))] := hl
  obtain ⟨hn1, hn2, hn3, hn4, hn5, hn6, hn7⟩ := id hoN
  obtain ⟨hw1, hw2, hw3, hw4, hw5, hw6⟩ := id hok
  have hg8 := gd_rng hok
  refine lv_iload hx hb dX2_layOutValue_0 (lv_at hl 4 rfl) ?_
  refine lv_bipush (v := iI 40) hx hb dX2_layOutValue_2 (by decide +kernel) ?_
  refine li_icmp_gt (tgt := 37) hx hb (by omega) (by omega) dX2_layOutValue_4 (by decide) (fun c1 => ?_) (fun c1 => absurd c1 (by omega))
  refine lv_iconst (v := iI (-1)) hx hb dX2_layOutValue_37 rfl ?_
  have hP9 := hP.sub (ws' := [(nd, .inr (2, [.ref b, .ref h, .ref rw, .int (iI mn), .int (iI sx)])), (rw, .inl (cR, M, .inl (fun j => iI (V j)))), (h, .inr (1, [.int (iI kd), .int (iI cs), .int (iI tg), .int (iI op), .int (iI sz1), .int (iI ct)])), (b, .inr (0, [.ref r, .int (iI z)])), (r, .inl (cA, w, .inl (fun j => bI (t j))))]) [0, 1, 2, 3, 4] rfl
  have hD9 := hD.sub (ws' := [(nd, .inr (2, [.ref b, .ref h, .ref rw, .int (iI mn), .int (iI sx)])), (rw, .inl (cR, M, .inl (fun j => iI (V j)))), (h, .inr (1, [.int (iI kd), .int (iI cs), .int (iI tg), .int (iI op), .int (iI sz1), .int (iI ct)])), (b, .inr (0, [.ref r, .int (iI z)])), (r, .inl (cA, w, .inl (fun j => bI (t j))))]) [0, 1, 2, 3, 4] (by decide) rfl
  have hK9 := hK.sub (tys' := [(cR, .int), (cA, .byte)]) [0, 1] rfl
  exact mv_iret hx hb hr hlocks (fun tS ht hW => ⟨⟨_, (rw, cR, M, V, mn, kd, cs, tg, op, sz1, ct, (-1)), rfl, ⟨rfl, Or.inl ⟨rfl, rfl, okN_m hoN⟩, by omega, by omega, by omega⟩, by rw [ht]; exact hP9, va_K.moved hW.alike hK9, hD9⟩, hS.F ht⟩) hS.2.2 dX2_layOutValue_38
set_option maxHeartbeats 4000000 in
set_option maxRecDepth 100000 in
theorem CU_of (l : Launch) (dC : Nat → ClassId) (dI : Nat → Nat → Nat) (d : Nat) (hCV : CV l dC dI d) : CU l dC dI d := by
  intro sz nd b h rw mn sx cR M V kd cs tg op sz1 ct r cA w t z L Vs i x pr dp hoN hVs hok hsx hi hpr hdp
  refine mv_ofW (cc := cX2_layOutUpTo) (maxL := 7) (ret := (some .boolean)) (by decide) rfl ?_
  intro p e s m args below meth c s₁ B hml hv
  obtain ⟨rfl, hsz, hP, hK, hD0, hN⟩ := hv
  have hx := B.exec
  have hb := B.bytes
  have hr := B.returns
  have hT : ∀ w ∈ wT, w.before _ s = true := fun w h => atoms_spec (ws := wsX2_layOutUpTo) B.pre w (List.mem_cons_of_mem _ h)
  have hown : s.vm.findClass RX2 = some m.cls := findClass_of_methodNamed B.named
  have hlocks := B.notSynchronized
  subst hsz
  have hD := hD0.self (sz := s.heap.size)
  generalize hAe : va_A [(nd, .inr (2, [.ref b, .ref h, .ref rw, .int (iI mn), .int (iI sx)])), (rw, .inl (cR, M, .inl (fun j => iI (V j)))), (h, .inr (1, [.int (iI kd), .int (iI cs), .int (iI tg), .int (iI op), .int (iI sz1), .int (iI ct)])), (b, .inr (0, [.ref r, .int (iI z)])), (r, .inl (cA, w, .inl (fun j => bI (t j))))] s.heap.size = A at hD ⊢
  have hA : ∀ q : Nat, s.heap.size ≤ q → A q := fun q h => by rw [← hAe]; exact Or.inr h
  have hS : va_S A s.heap s.heap [] := va_S.rf
  have hP : va_P (dC, dI) vwCl [(nd, .inr (2, [.ref b, .ref h, .ref rw, .int (iI mn), .int (iI sx)])), (rw, .inl (cR, M, .inl (fun j => iI (V j)))), (h, .inr (1, [.int (iI kd), .int (iI cs), .int (iI tg), .int (iI op), .int (iI sz1), .int (iI ct)])), (b, .inr (0, [.ref r, .int (iI z)])), (r, .inl (cA, w, .inl (fun j => bI (t j))))] s.heap := hP
  have hl := lv_entry ([.ref nd, .int (iI i), .int (iI x), .int (iI pr), .int (iI dp)]) (n := 7) (Nat.le_of_ble_eq_true rfl)
  rw [lg_entry_eq]
  generalize (lg_sl ([.ref nd, .int (iI i), .int (iI x), .int (iI pr), .int (iI dp)]) ++ List.replicate (7 - (lg_sl ([.ref nd, .int (iI i), .int (iI x), .int (iI pr), .int (iI dp)])).length) Slot.unset).toArray = ls at hl ⊢
  have hl : lv_has ls 7 [(0, .ref nd), (1, .int (iI i)), (2, .int (iI x)), (3, .int (iI pr)), (4, .int (iI dp))] := hl
  obtain ⟨hn1, hn2, hn3, hn4, hn5, hn6, hn7⟩ := id hoN
  obtain ⟨hw1, hw2, hw3, hw4, hw5, hw6⟩ := id hok
  have hg8 := gd_rng hok
  refine mv_nameQ (fun Q9 hQ9 => ?_)
  have LP : ∀ (fu : Nat) (a : Int) (j : Int) (rw1 : Nat) (cR1 : ClassId) (M1 : Nat) (V1 : Nat → Int) (mn1 : Int) (kd9 : Int) (cs9 : Int) (tg9 : Int) (op9 : Int) (sz19 : Int) (ct9 : Int) (V2 : Nat → Int) (H : Heap) (locs : List Loc) (ls : Array Slot) (kc ks : Nat), (4096 - j < (fu : Int)) → (0 ≤ j ∧ j ≤ 4096) → (-1 ≤ a ∧ a ≤ 4096) → (a = -1 ∧ loopU (layV (gd L) sx d) x pr 4096 i mn Vs = none ∧ okM M1 V1 mn1 ∨ i ≤ a ∧ a ≤ x ∧ loopU (layV (gd L) sx d) x pr 4096 i mn Vs = loopU (layV (gd L) sx d) x pr (4096 - j).toNat a mn1 V2 ∧ eqN V1 V2 mn1 ∧ okN M1 V1 mn1 ∧ mn ≤ mn1) → (ks + phR M1 ≤ phR M) → (kc ≤ ks) → va_K (dC, dI) vwCl [(cR1, .int), (cA, .byte)] s → va_P (dC, dI) vwCl [(nd, .inr (2, [.ref b, .ref h, .ref rw1, .int (iI mn1), .int (iI sx)])), (rw1, .inl (cR1, M1, .inl (fun j => iI (V1 j)))), (h, .inr (1, [.int (iI kd9), .int (iI cs9), .int (iI tg9), .int (iI op9), .int (iI sz19), .int (iI ct9)])), (b, .inr (0, [.ref r, .int (iI z)])), (r, .inl (cA, w, .inl (fun j => bI (t j))))] H → va_D A [(nd, .inr (2, [.ref b, .ref h, .ref rw1, .int (iI mn1), .int (iI sx)])), (rw1, .inl (cR1, M1, .inl (fun j => iI (V1 j)))), (h, .inr (1, [.int (iI kd9), .int (iI cs9), .int (iI tg9), .int (iI op9), .int (iI sz19), .int (iI ct9)])), (b, .inr (0, [.ref r, .int (iI z)])), (r, .inl (cA, w, .inl (fun j => bI (t j))))] → va_S A s.heap H locs → lv_has ls 7 [(0, .ref nd), (1, .int (iI i)), (2, .int (iI x)), (3, .int (iI pr)), (4, .int (iI dp)), (5, .int (iI a)), (6, .int (iI j))] → W p l e ({ frames := (2 * d + 6), cells := (phR M), slots := (phR M), locals := (53 * d + 227) }) s m ([.ref nd, .int (iI i), .int (iI x), .int (iI pr), .int (iI dp)] : List Value).toArray below meth c H locs kc ks Q9 (F0 m 6 ls []) := by
    intro fu
    induction fu with
    | zero =>
      intro a j rw1 cR1 M1 V1 mn1 kd9 cs9 tg9 op9 sz19 ct9 V2 H locs ls kc ks hfu hj ha hI hks hkc hK hP hD hS hl
      exfalso
      omega
    | succ fu ih =>
      intro a j rw1 cR1 M1 V1 mn1 kd9 cs9 tg9 op9 sz19 ct9 V2 H locs ls kc ks hfu hj ha hI hks hkc hK hP hD hS hl
      refine lv_iload hx hb dX2_layOutUpTo_6 (lv_at hl 6 rfl) ?_
      refine lv_sipush (v := iI 4096) hx hb dX2_layOutUpTo_8 (by decide +kernel) ?_
      refine li_icmp_ge (tgt := 44) hx hb (by omega) (by omega) dX2_layOutUpTo_11 (by decide) (fun c1 => ?_) (fun c1 => ?_)
      · skip
        refine lv_iload hx hb dX2_layOutUpTo_44 (lv_at hl 5 rfl) ?_
        refine lv_iload_n hx hb dX2_layOutUpTo_46 rfl (lv_at hl 2 rfl) ?_
        refine li_icmp_ne (tgt := 54) hx hb (by omega) (by omega) dX2_layOutUpTo_47 (by decide) (fun c2 => ?_) (fun c2 => ?_)
        · skip
          refine lv_iconst (v := iI 0) hx hb dX2_layOutUpTo_54 rfl ?_
          rcases hI with ⟨h1, h2, h3⟩ | ⟨h1, h2, hgW, hgE, hgN, hgm⟩
          · skip
            subst hQ9
            have hP9 := hP.sub (ws' := [(nd, .inr (2, [.ref b, .ref h, .ref rw1, .int (iI mn1), .int (iI sx)])), (rw1, .inl (cR1, M1, .inl (fun j => iI (V1 j)))), (h, .inr (1, [.int (iI kd9), .int (iI cs9), .int (iI tg9), .int (iI op9), .int (iI sz19), .int (iI ct9)])), (b, .inr (0, [.ref r, .int (iI z)])), (r, .inl (cA, w, .inl (fun j => bI (t j))))]) [0, 1, 2, 3, 4] rfl
            have hD9 := hD.sub (ws' := [(nd, .inr (2, [.ref b, .ref h, .ref rw1, .int (iI mn1), .int (iI sx)])), (rw1, .inl (cR1, M1, .inl (fun j => iI (V1 j)))), (h, .inr (1, [.int (iI kd9), .int (iI cs9), .int (iI tg9), .int (iI op9), .int (iI sz19), .int (iI ct9)])), (b, .inr (0, [.ref r, .int (iI z)])), (r, .inl (cA, w, .inl (fun j => bI (t j))))]) [0, 1, 2, 3, 4] (by decide) rfl
            have hK9 := hK.sub (tys' := [(cR1, .int), (cA, .byte)]) [0, 1] rfl
            exact mv_zret hx hb hr (zb_n (by omega)) hlocks (fun tS ht hW => ⟨⟨_, (rw1, cR1, M1, V1, mn1, kd9, cs9, tg9, op9, sz19, ct9, 0), rfl, ⟨rfl, Or.inl ⟨h2, rfl, h3⟩, by omega, by omega, by omega⟩, by rw [ht]; exact hP9, va_K.moved hW.alike hK9, hD9⟩, hS.F ht⟩) hS.2.2 dX2_layOutUpTo_55
          · skip
            subst hQ9
            have hP9 := hP.sub (ws' := [(nd, .inr (2, [.ref b, .ref h, .ref rw1, .int (iI mn1), .int (iI sx)])), (rw1, .inl (cR1, M1, .inl (fun j => iI (V1 j)))), (h, .inr (1, [.int (iI kd9), .int (iI cs9), .int (iI tg9), .int (iI op9), .int (iI sz19), .int (iI ct9)])), (b, .inr (0, [.ref r, .int (iI z)])), (r, .inl (cA, w, .inl (fun j => bI (t j))))]) [0, 1, 2, 3, 4] rfl
            have hD9 := hD.sub (ws' := [(nd, .inr (2, [.ref b, .ref h, .ref rw1, .int (iI mn1), .int (iI sx)])), (rw1, .inl (cR1, M1, .inl (fun j => iI (V1 j)))), (h, .inr (1, [.int (iI kd9), .int (iI cs9), .int (iI tg9), .int (iI op9), .int (iI sz19), .int (iI ct9)])), (b, .inr (0, [.ref r, .int (iI z)])), (r, .inl (cA, w, .inl (fun j => bI (t j))))]) [0, 1, 2, 3, 4] (by decide) rfl
            have hK9 := hK.sub (tys' := [(cR1, .int), (cA, .byte)]) [0, 1] rfl
            exact mv_zret hx hb hr (zb_n (by omega)) hlocks (fun tS ht hW => ⟨⟨_, (rw1, cR1, M1, V1, mn1, kd9, cs9, tg9, op9, sz19, ct9, 0), rfl, ⟨rfl, Or.inl ⟨by rw [hgW]; exact loopU_x (by omega) (by omega), rfl, okN_m hgN⟩, by omega, by omega, by omega⟩, by rw [ht]; exact hP9, va_K.moved hW.alike hK9, hD9⟩, hS.F ht⟩) hS.2.2 dX2_layOutUpTo_55
        · skip
          refine lv_iconst (v := iI 1) hx hb dX2_layOutUpTo_50 rfl ?_
          refine lv_goto (tgt := 55) hx hb dX2_layOutUpTo_51 (by decide) ?_
          obtain ⟨hg1, hg2, hgW, hgE, hgN, hgm⟩ := hI.resolve_left (fun h => absurd h.1 (by omega))
          subst hQ9
          have hP9 := hP.sub (ws' := [(nd, .inr (2, [.ref b, .ref h, .ref rw1, .int (iI mn1), .int (iI sx)])), (rw1, .inl (cR1, M1, .inl (fun j => iI (V1 j)))), (h, .inr (1, [.int (iI kd9), .int (iI cs9), .int (iI tg9), .int (iI op9), .int (iI sz19), .int (iI ct9)])), (b, .inr (0, [.ref r, .int (iI z)])), (r, .inl (cA, w, .inl (fun j => bI (t j))))]) [0, 1, 2, 3, 4] rfl
          have hD9 := hD.sub (ws' := [(nd, .inr (2, [.ref b, .ref h, .ref rw1, .int (iI mn1), .int (iI sx)])), (rw1, .inl (cR1, M1, .inl (fun j => iI (V1 j)))), (h, .inr (1, [.int (iI kd9), .int (iI cs9), .int (iI tg9), .int (iI op9), .int (iI sz19), .int (iI ct9)])), (b, .inr (0, [.ref r, .int (iI z)])), (r, .inl (cA, w, .inl (fun j => bI (t j))))]) [0, 1, 2, 3, 4] (by decide) rfl
          have hK9 := hK.sub (tys' := [(cR1, .int), (cA, .byte)]) [0, 1] rfl
          exact mv_zret hx hb hr (zb_n (by omega)) hlocks (fun tS ht hW => ⟨⟨_, (rw1, cR1, M1, V1, mn1, kd9, cs9, tg9, op9, sz19, ct9, 1), rfl, ⟨rfl, Or.inr ⟨V2, by rw [hgW]; exact loopU_y (by omega) _, rfl, hgE, hgN, hgm⟩, by omega, by omega, by omega⟩, by rw [ht]; exact hP9, va_K.moved hW.alike hK9, hD9⟩, hS.F ht⟩) hS.2.2 dX2_layOutUpTo_55
      · skip
        refine lv_iload hx hb dX2_layOutUpTo_14 (lv_at hl 5 rfl) ?_
        refine lv_iconst (v := iI (-1)) hx hb dX2_layOutUpTo_16 rfl ?_
        refine li_icmp_eq (tgt := 44) hx hb (by omega) (by omega) dX2_layOutUpTo_17 (by decide) (fun c3 => ?_) (fun c3 => ?_)
        · skip
          refine lv_iload hx hb dX2_layOutUpTo_44 (lv_at hl 5 rfl) ?_
          refine lv_iload_n hx hb dX2_layOutUpTo_46 rfl (lv_at hl 2 rfl) ?_
          refine li_icmp_ne (tgt := 54) hx hb (by omega) (by omega) dX2_layOutUpTo_47 (by decide) (fun c4 => ?_) (fun c4 => ?_)
          · skip
            refine lv_iconst (v := iI 0) hx hb dX2_layOutUpTo_54 rfl ?_
            rcases hI with ⟨h1, h2, h3⟩ | ⟨h1, h2, hgW, hgE, hgN, hgm⟩
            · skip
              subst hQ9
              have hP9 := hP.sub (ws' := [(nd, .inr (2, [.ref b, .ref h, .ref rw1, .int (iI mn1), .int (iI sx)])), (rw1, .inl (cR1, M1, .inl (fun j => iI (V1 j)))), (h, .inr (1, [.int (iI kd9), .int (iI cs9), .int (iI tg9), .int (iI op9), .int (iI sz19), .int (iI ct9)])), (b, .inr (0, [.ref r, .int (iI z)])), (r, .inl (cA, w, .inl (fun j => bI (t j))))]) [0, 1, 2, 3, 4] rfl
              have hD9 := hD.sub (ws' := [(nd, .inr (2, [.ref b, .ref h, .ref rw1, .int (iI mn1), .int (iI sx)])), (rw1, .inl (cR1, M1, .inl (fun j => iI (V1 j)))), (h, .inr (1, [.int (iI kd9), .int (iI cs9), .int (iI tg9), .int (iI op9), .int (iI sz19), .int (iI ct9)])), (b, .inr (0, [.ref r, .int (iI z)])), (r, .inl (cA, w, .inl (fun j => bI (t j))))]) [0, 1, 2, 3, 4] (by decide) rfl
              have hK9 := hK.sub (tys' := [(cR1, .int), (cA, .byte)]) [0, 1] rfl
              exact mv_zret hx hb hr (zb_n (by omega)) hlocks (fun tS ht hW => ⟨⟨_, (rw1, cR1, M1, V1, mn1, kd9, cs9, tg9, op9, sz19, ct9, 0), rfl, ⟨rfl, Or.inl ⟨h2, rfl, h3⟩, by omega, by omega, by omega⟩, by rw [ht]; exact hP9, va_K.moved hW.alike hK9, hD9⟩, hS.F ht⟩) hS.2.2 dX2_layOutUpTo_55
            · skip
              subst hQ9
              have hP9 := hP.sub (ws' := [(nd, .inr (2, [.ref b, .ref h, .ref rw1, .int (iI mn1), .int (iI sx)])), (rw1, .inl (cR1, M1, .inl (fun j => iI (V1 j)))), (h, .inr (1, [.int (iI kd9), .int (iI cs9), .int (iI tg9), .int (iI op9), .int (iI sz19), .int (iI ct9)])), (b, .inr (0, [.ref r, .int (iI z)])), (r, .inl (cA, w, .inl (fun j => bI (t j))))]) [0, 1, 2, 3, 4] rfl
              have hD9 := hD.sub (ws' := [(nd, .inr (2, [.ref b, .ref h, .ref rw1, .int (iI mn1), .int (iI sx)])), (rw1, .inl (cR1, M1, .inl (fun j => iI (V1 j)))), (h, .inr (1, [.int (iI kd9), .int (iI cs9), .int (iI tg9), .int (iI op9), .int (iI sz19), .int (iI ct9)])), (b, .inr (0, [.ref r, .int (iI z)])), (r, .inl (cA, w, .inl (fun j => bI (t j))))]) [0, 1, 2, 3, 4] (by decide) rfl
              have hK9 := hK.sub (tys' := [(cR1, .int), (cA, .byte)]) [0, 1] rfl
              exact mv_zret hx hb hr (zb_n (by omega)) hlocks (fun tS ht hW => ⟨⟨_, (rw1, cR1, M1, V1, mn1, kd9, cs9, tg9, op9, sz19, ct9, 0), rfl, ⟨rfl, Or.inl ⟨by rw [hgW]; exact loopU_x (by omega) (by omega), rfl, okN_m hgN⟩, by omega, by omega, by omega⟩, by rw [ht]; exact hP9, va_K.moved hW.alike hK9, hD9⟩, hS.F ht⟩) hS.2.2 dX2_layOutUpTo_55
          · skip
            refine lv_iconst (v := iI 1) hx hb dX2_layOutUpTo_50 rfl ?_
            refine lv_goto (tgt := 55) hx hb dX2_layOutUpTo_51 (by decide) ?_
            obtain ⟨hg1, hg2, hgW, hgE, hgN, hgm⟩ := hI.resolve_left (fun h => absurd h.1 (by omega))
            subst hQ9
            have hP9 := hP.sub (ws' := [(nd, .inr (2, [.ref b, .ref h, .ref rw1, .int (iI mn1), .int (iI sx)])), (rw1, .inl (cR1, M1, .inl (fun j => iI (V1 j)))), (h, .inr (1, [.int (iI kd9), .int (iI cs9), .int (iI tg9), .int (iI op9), .int (iI sz19), .int (iI ct9)])), (b, .inr (0, [.ref r, .int (iI z)])), (r, .inl (cA, w, .inl (fun j => bI (t j))))]) [0, 1, 2, 3, 4] rfl
            have hD9 := hD.sub (ws' := [(nd, .inr (2, [.ref b, .ref h, .ref rw1, .int (iI mn1), .int (iI sx)])), (rw1, .inl (cR1, M1, .inl (fun j => iI (V1 j)))), (h, .inr (1, [.int (iI kd9), .int (iI cs9), .int (iI tg9), .int (iI op9), .int (iI sz19), .int (iI ct9)])), (b, .inr (0, [.ref r, .int (iI z)])), (r, .inl (cA, w, .inl (fun j => bI (t j))))]) [0, 1, 2, 3, 4] (by decide) rfl
            have hK9 := hK.sub (tys' := [(cR1, .int), (cA, .byte)]) [0, 1] rfl
            exact mv_zret hx hb hr (zb_n (by omega)) hlocks (fun tS ht hW => ⟨⟨_, (rw1, cR1, M1, V1, mn1, kd9, cs9, tg9, op9, sz19, ct9, 1), rfl, ⟨rfl, Or.inr ⟨V2, by rw [hgW]; exact loopU_y (by omega) _, rfl, hgE, hgN, hgm⟩, by omega, by omega, by omega⟩, by rw [ht]; exact hP9, va_K.moved hW.alike hK9, hD9⟩, hS.F ht⟩) hS.2.2 dX2_layOutUpTo_55
        · skip
          refine lv_iload hx hb dX2_layOutUpTo_20 (lv_at hl 5 rfl) ?_
          refine lv_iload_n hx hb dX2_layOutUpTo_22 rfl (lv_at hl 2 rfl) ?_
          refine li_icmp_ge (tgt := 44) hx hb (by omega) (by omega) dX2_layOutUpTo_23 (by decide) (fun c5 => ?_) (fun c5 => ?_)
          · skip
            refine lv_iload hx hb dX2_layOutUpTo_44 (lv_at hl 5 rfl) ?_
            refine lv_iload_n hx hb dX2_layOutUpTo_46 rfl (lv_at hl 2 rfl) ?_
            refine li_icmp_ne (tgt := 54) hx hb (by omega) (by omega) dX2_layOutUpTo_47 (by decide) (fun c6 => ?_) (fun c6 => ?_)
            · skip
              refine lv_iconst (v := iI 0) hx hb dX2_layOutUpTo_54 rfl ?_
              rcases hI with ⟨h1, h2, h3⟩ | ⟨h1, h2, hgW, hgE, hgN, hgm⟩
              · skip
                subst hQ9
                have hP9 := hP.sub (ws' := [(nd, .inr (2, [.ref b, .ref h, .ref rw1, .int (iI mn1), .int (iI sx)])), (rw1, .inl (cR1, M1, .inl (fun j => iI (V1 j)))), (h, .inr (1, [.int (iI kd9), .int (iI cs9), .int (iI tg9), .int (iI op9), .int (iI sz19), .int (iI ct9)])), (b, .inr (0, [.ref r, .int (iI z)])), (r, .inl (cA, w, .inl (fun j => bI (t j))))]) [0, 1, 2, 3, 4] rfl
                have hD9 := hD.sub (ws' := [(nd, .inr (2, [.ref b, .ref h, .ref rw1, .int (iI mn1), .int (iI sx)])), (rw1, .inl (cR1, M1, .inl (fun j => iI (V1 j)))), (h, .inr (1, [.int (iI kd9), .int (iI cs9), .int (iI tg9), .int (iI op9), .int (iI sz19), .int (iI ct9)])), (b, .inr (0, [.ref r, .int (iI z)])), (r, .inl (cA, w, .inl (fun j => bI (t j))))]) [0, 1, 2, 3, 4] (by decide) rfl
                have hK9 := hK.sub (tys' := [(cR1, .int), (cA, .byte)]) [0, 1] rfl
                exact mv_zret hx hb hr (zb_n (by omega)) hlocks (fun tS ht hW => ⟨⟨_, (rw1, cR1, M1, V1, mn1, kd9, cs9, tg9, op9, sz19, ct9, 0), rfl, ⟨rfl, Or.inl ⟨h2, rfl, h3⟩, by omega, by omega, by omega⟩, by rw [ht]; exact hP9, va_K.moved hW.alike hK9, hD9⟩, hS.F ht⟩) hS.2.2 dX2_layOutUpTo_55
              · skip
                subst hQ9
                have hP9 := hP.sub (ws' := [(nd, .inr (2, [.ref b, .ref h, .ref rw1, .int (iI mn1), .int (iI sx)])), (rw1, .inl (cR1, M1, .inl (fun j => iI (V1 j)))), (h, .inr (1, [.int (iI kd9), .int (iI cs9), .int (iI tg9), .int (iI op9), .int (iI sz19), .int (iI ct9)])), (b, .inr (0, [.ref r, .int (iI z)])), (r, .inl (cA, w, .inl (fun j => bI (t j))))]) [0, 1, 2, 3, 4] rfl
                have hD9 := hD.sub (ws' := [(nd, .inr (2, [.ref b, .ref h, .ref rw1, .int (iI mn1), .int (iI sx)])), (rw1, .inl (cR1, M1, .inl (fun j => iI (V1 j)))), (h, .inr (1, [.int (iI kd9), .int (iI cs9), .int (iI tg9), .int (iI op9), .int (iI sz19), .int (iI ct9)])), (b, .inr (0, [.ref r, .int (iI z)])), (r, .inl (cA, w, .inl (fun j => bI (t j))))]) [0, 1, 2, 3, 4] (by decide) rfl
                have hK9 := hK.sub (tys' := [(cR1, .int), (cA, .byte)]) [0, 1] rfl
                exact mv_zret hx hb hr (zb_n (by omega)) hlocks (fun tS ht hW => ⟨⟨_, (rw1, cR1, M1, V1, mn1, kd9, cs9, tg9, op9, sz19, ct9, 0), rfl, ⟨rfl, Or.inl ⟨by rw [hgW]; exact loopU_x (by omega) (by omega), rfl, okN_m hgN⟩, by omega, by omega, by omega⟩, by rw [ht]; exact hP9, va_K.moved hW.alike hK9, hD9⟩, hS.F ht⟩) hS.2.2 dX2_layOutUpTo_55
            · skip
              refine lv_iconst (v := iI 1) hx hb dX2_layOutUpTo_50 rfl ?_
              refine lv_goto (tgt := 55) hx hb dX2_layOutUpTo_51 (by decide) ?_
              obtain ⟨hg1, hg2, hgW, hgE, hgN, hgm⟩ := hI.resolve_left (fun h => absurd h.1 (by omega))
              subst hQ9
              have hP9 := hP.sub (ws' := [(nd, .inr (2, [.ref b, .ref h, .ref rw1, .int (iI mn1), .int (iI sx)])), (rw1, .inl (cR1, M1, .inl (fun j => iI (V1 j)))), (h, .inr (1, [.int (iI kd9), .int (iI cs9), .int (iI tg9), .int (iI op9), .int (iI sz19), .int (iI ct9)])), (b, .inr (0, [.ref r, .int (iI z)])), (r, .inl (cA, w, .inl (fun j => bI (t j))))]) [0, 1, 2, 3, 4] rfl
              have hD9 := hD.sub (ws' := [(nd, .inr (2, [.ref b, .ref h, .ref rw1, .int (iI mn1), .int (iI sx)])), (rw1, .inl (cR1, M1, .inl (fun j => iI (V1 j)))), (h, .inr (1, [.int (iI kd9), .int (iI cs9), .int (iI tg9), .int (iI op9), .int (iI sz19), .int (iI ct9)])), (b, .inr (0, [.ref r, .int (iI z)])), (r, .inl (cA, w, .inl (fun j => bI (t j))))]) [0, 1, 2, 3, 4] (by decide) rfl
              have hK9 := hK.sub (tys' := [(cR1, .int), (cA, .byte)]) [0, 1] rfl
              exact mv_zret hx hb hr (zb_n (by omega)) hlocks (fun tS ht hW => ⟨⟨_, (rw1, cR1, M1, V1, mn1, kd9, cs9, tg9, op9, sz19, ct9, 1), rfl, ⟨rfl, Or.inr ⟨V2, by rw [hgW]; exact loopU_y (by omega) _, rfl, hgE, hgN, hgm⟩, by omega, by omega, by omega⟩, by rw [ht]; exact hP9, va_K.moved hW.alike hK9, hD9⟩, hS.F ht⟩) hS.2.2 dX2_layOutUpTo_55
          · skip
            refine lv_aload_n hx hb dX2_layOutUpTo_26 rfl (lv_at hl 0 rfl) ?_
            refine lv_iload hx hb dX2_layOutUpTo_27 (lv_at hl 5 rfl) ?_
            refine lv_iload_n hx hb dX2_layOutUpTo_29 rfl (lv_at hl 2 rfl) ?_
            refine lv_iload_n hx hb dX2_layOutUpTo_30 rfl (lv_at hl 3 rfl) ?_
            refine lv_iload hx hb dX2_layOutUpTo_31 (lv_at hl 4 rfl) ?_
            obtain ⟨hg1, hg2, hgW, hgE, hgN, hgm⟩ := hI.resolve_left (fun h => absurd h.1 (by omega))
            have hPc := hP.sub (ws' := [(nd, .inr (2, [.ref b, .ref h, .ref rw1, .int (iI mn1), .int (iI sx)])), (rw1, .inl (cR1, M1, .inl (fun j => iI (V1 j)))), (h, .inr (1, [.int (iI kd9), .int (iI cs9), .int (iI tg9), .int (iI op9), .int (iI sz19), .int (iI ct9)])), (b, .inr (0, [.ref r, .int (iI z)])), (r, .inl (cA, w, .inl (fun j => bI (t j))))]) [0, 1, 2, 3, 4] rfl
            have hDc := hD.sub (ws' := [(nd, .inr (2, [.ref b, .ref h, .ref rw1, .int (iI mn1), .int (iI sx)])), (rw1, .inl (cR1, M1, .inl (fun j => iI (V1 j)))), (h, .inr (1, [.int (iI kd9), .int (iI cs9), .int (iI tg9), .int (iI op9), .int (iI sz19), .int (iI ct9)])), (b, .inr (0, [.ref r, .int (iI z)])), (r, .inl (cA, w, .inl (fun j => bI (t j))))]) [0, 1, 2, 3, 4] (by decide) rfl
            have hKc := hK.sub (tys' := [(cR1, .int), (cA, .byte)]) [0, 1] rfl
            have hFc := va_free (wc := [(nd, .inr (2, [.ref b, .ref h, .ref rw1, .int (iI mn1), .int (iI sx)])), (rw1, .inl (cR1, M1, .inl (fun j => iI (V1 j)))), (h, .inr (1, [.int (iI kd9), .int (iI cs9), .int (iI tg9), .int (iI op9), .int (iI sz19), .int (iI ct9)])), (b, .inr (0, [.ref r, .int (iI z)])), (r, .inl (cA, w, .inl (fun j => bI (t j))))]) hD hS hA [0, 1, 2, 3, 4] rfl
            refine mv_call (mv_runV (As := [.int (iI a), .int (iI x), .int (iI pr), .int (iI dp)]) (rest := []) ⟨hx, hb, hml, hown, hT⟩ (hCV H.size nd b h rw1 mn1 sx cR1 M1 V1 kd9 cs9 tg9 op9 sz19 ct9 r cA w t z L V2 a x pr dp (hgN) (hgE) (hok) (hsx) (by omega) (by omega) (by omega)) (cwV 4 hT (gV wd309 wd311 wd4 wd28 wd312) rfl rfl rfl (by decide +kernel) ⟨show (2 * d + 5) + 1 ≤ (2 * d + 6) from by omega, show 8 + (8 + 11) + (53 * d + 200) ≤ (53 * d + 227) from by omega⟩) ⟨fun a U g mk q => by obtain ⟨q0, q1, qP, qK, qD, qN⟩ := q; exact ⟨q0, q1, qP, va_K.moved (u := U) (U := U.calling g mk a) (Vm.Alike.refl U.vm) qK, qD, nsW_same rfl qN⟩, va_recv hKc hPc (ci := 2) (q0 := 0) rfl rfl, fun U hU hW => ⟨rfl, by rw [hU], by rw [hU]; exact hPc, va_K.moved hW.alike hKc, hDc.weaken (fun _ _ _ _ => trivial), nsW_warm hW hN⟩⟩ rfl rfl hl.1 rfl (lv_room (Nat.le_of_ble_eq_true rfl)) dX2_layOutUpTo_33 ⟨show kc + (phR M1) ≤ (phR M) from by omega, show ks + (phR M1) ≤ (phR M) from by omega⟩) hS (fun q _ h => hFc q h) hFc (fun v9 u k7 n8 tS H1 locs ht hvm hw hB hz1 hk1 hS => ?_)
            obtain ⟨rw10, cR11, M12, V13, mn14, kd15, cs16, tg17, op18, sz19, ct20, q21⟩ := u
            obtain ⟨hP1, hK1, hD1⟩ := hB
            rw [ht] at hP1
            have hK1 := va_K.moved hvm.symm hK1
            try dsimp only at hw
            obtain ⟨hP, hD⟩ := va_join (wr := []) (w1 := [(nd, .inr (2, [.ref b, .ref h, .ref rw10, .int (iI mn14), .int (iI sx)])), (rw10, .inl (cR11, M12, .inl (fun j => iI (V13 j)))), (h, .inr (1, [.int (iI kd15), .int (iI cs16), .int (iI tg17), .int (iI op18), .int (iI sz19), .int (iI ct20)])), (b, .inr (0, [.ref r, .int (iI z)])), (r, .inl (cA, w, .inl (fun j => bI (t j))))]) hP hD [0, 1, 2, 3, 4] [] rfl rfl (by decide) (by decide) hk1 hFc hP1 hD1
            have hK := (hK.sub (tys' := []) [] rfl).app hK1
            generalize H1 = H at hP hS ⊢
            have hP : va_P (dC, dI) vwCl [(nd, .inr (2, [.ref b, .ref h, .ref rw10, .int (iI mn14), .int (iI sx)])), (rw10, .inl (cR11, M12, .inl (fun j => iI (V13 j)))), (h, .inr (1, [.int (iI kd15), .int (iI cs16), .int (iI tg17), .int (iI op18), .int (iI sz19), .int (iI ct20)])), (b, .inr (0, [.ref r, .int (iI z)])), (r, .inl (cA, w, .inl (fun j => bI (t j))))] H := hP
            have hD : va_D A [(nd, .inr (2, [.ref b, .ref h, .ref rw10, .int (iI mn14), .int (iI sx)])), (rw10, .inl (cR11, M12, .inl (fun j => iI (V13 j)))), (h, .inr (1, [.int (iI kd15), .int (iI cs16), .int (iI tg17), .int (iI op18), .int (iI sz19), .int (iI ct20)])), (b, .inr (0, [.ref r, .int (iI z)])), (r, .inl (cA, w, .inl (fun j => bI (t j))))] := hD
            have hK : va_K (dC, dI) vwCl [(cR11, .int), (cA, .byte)] s := hK
            obtain ⟨rfl, hqv9, hrv9, hFv9, hGv9⟩ := hw
            refine W.eq (g2 := F0 m 36 ls [.int (iI q21)]) rfl ?_
            refine lv_istore (lv' := [(5, .int (iI q21)), (0, .ref nd), (1, .int (iI i)), (2, .int (iI x)), (3, .int (iI pr)), (4, .int (iI dp)), (6, .int (iI j))]) hx hb dX2_layOutUpTo_36 hl (by decide) rfl (fun ls hl => ?_)
            obtain ⟨z22, ez22⟩ : ∃ y : Int, y = j + 1 := ⟨_, rfl⟩
            refine lv_iinc (v := iI z22) (lv' := [(6, .int (iI z22)), (5, .int (iI q21)), (0, .ref nd), (1, .int (iI i)), (2, .int (iI x)), (3, .int (iI pr)), (4, .int (iI dp))]) hx hb dX2_layOutUpTo_38 hl (k := 6) rfl (by rw [ez22]; exact iI_add _ _) (by decide) rfl (fun ls hl => ?_)
            refine lv_goto (tgt := 6) hx hb dX2_layOutUpTo_41 (by decide) ?_
            have ej2 : z22 = j + 1 := by omega
            rcases hqv9 with ⟨h1, h2, h3⟩ | ⟨V3, h1, h2, h3, h4, h5, h6⟩
            · skip
              exact ih q21 z22 rw10 cR11 M12 V13 mn14 kd15 cs16 tg17 op18 sz19 ct20 V2 _ _ _ _ _ (by omega) (by omega) (by omega) (Or.inl ⟨h2, by rw [hgW]; exact loopU_no (by omega) (by omega) h1, h3⟩) (by omega) (by omega) (hK.sub [0, 1] rfl) (hP.sub [0, 1, 2, 3, 4] rfl) (hD.sub [0, 1, 2, 3, 4] (by decide) rfl) hS (lv_sub hl [2, 3, 4, 5, 6, 1, 0] rfl)
            · skip
              exact ih q21 z22 rw10 cR11 M12 V13 mn14 kd15 cs16 tg17 op18 sz19 ct20 V3 _ _ _ _ _ (by omega) (by omega) (by omega) (Or.inr ⟨by omega, by omega, by rw [hgW, ej2]; exact loopU_go (by omega) (by omega) h1, h2, h3, by omega⟩) (by omega) (by omega) (hK.sub [0, 1] rfl) (hP.sub [0, 1, 2, 3, 4] rfl) (hD.sub [0, 1, 2, 3, 4] (by decide) rfl) hS (lv_sub hl [2, 3, 4, 5, 6, 1, 0] rfl)
  refine lv_iload_n hx hb dX2_layOutUpTo_0 rfl (lv_at hl 1 rfl) ?_
  refine lv_istore (lv' := [(5, .int (iI i)), (0, .ref nd), (1, .int (iI i)), (2, .int (iI x)), (3, .int (iI pr)), (4, .int (iI dp))]) hx hb dX2_layOutUpTo_1 hl (by decide) rfl (fun ls hl => ?_)
  refine lv_iconst (v := iI 0) hx hb dX2_layOutUpTo_3 rfl ?_
  refine lv_istore (lv' := [(6, .int (iI 0)), (5, .int (iI i)), (0, .ref nd), (1, .int (iI i)), (2, .int (iI x)), (3, .int (iI pr)), (4, .int (iI dp))]) hx hb dX2_layOutUpTo_4 hl (by decide) rfl (fun ls hl => ?_)
  exact LP (5000) i 0 rw cR M V mn kd cs tg op sz1 ct Vs _ _ _ _ _ (by omega) (by omega) (by omega) (Or.inr ⟨by omega, by omega, by rw [Int.sub_zero]; rfl, hVs, hoN, by omega⟩) (by omega) (by omega) (hK.sub [0, 1] rfl) (hP.sub [0, 1, 2, 3, 4] rfl) (hD.sub [0, 1, 2, 3, 4] (by decide) rfl) hS (lv_sub hl [2, 3, 4, 5, 6, 1, 0] rfl)
set_option maxHeartbeats 4000000 in
set_option maxRecDepth 100000 in
theorem CZ_of (l : Launch) (dC : Nat → ClassId) (dI : Nat → Nat → Nat) (d : Nat) (hCV : CV l dC dI d) : CZ l dC dI d := by
  intro sz nd b h rw mn sx cR M V kd cs tg op sz1 ct r cA w t z L Vs i x pr dp hoN hVs hok hsx hi hpr hdp
  refine mv_ofW (cc := cX2_layOutUpToZeros) (maxL := 7) (ret := (some .int)) (by decide) rfl ?_
  intro p e s m args below meth c s₁ B hml hv
  obtain ⟨rfl, hsz, hP, hK, hD0, hN⟩ := hv
  have hx := B.exec
  have hb := B.bytes
  have hr := B.returns
  have hT : ∀ w ∈ wT, w.before _ s = true := fun w h => atoms_spec (ws := wsX2_layOutUpToZeros) B.pre w (List.mem_cons_of_mem _ h)
  have hown : s.vm.findClass RX2 = some m.cls := findClass_of_methodNamed B.named
  have hlocks := B.notSynchronized
  subst hsz
  have hD := hD0.self (sz := s.heap.size)
  generalize hAe : va_A [(nd, .inr (2, [.ref b, .ref h, .ref rw, .int (iI mn), .int (iI sx)])), (rw, .inl (cR, M, .inl (fun j => iI (V j)))), (h, .inr (1, [.int (iI kd), .int (iI cs), .int (iI tg), .int (iI op), .int (iI sz1), .int (iI ct)])), (b, .inr (0, [.ref r, .int (iI z)])), (r, .inl (cA, w, .inl (fun j => bI (t j))))] s.heap.size = A at hD ⊢
  have hA : ∀ q : Nat, s.heap.size ≤ q → A q := fun q h => by rw [← hAe]; exact Or.inr h
  have hS : va_S A s.heap s.heap [] := va_S.rf
  have hP : va_P (dC, dI) vwCl [(nd, .inr (2, [.ref b, .ref h, .ref rw, .int (iI mn), .int (iI sx)])), (rw, .inl (cR, M, .inl (fun j => iI (V j)))), (h, .inr (1, [.int (iI kd), .int (iI cs), .int (iI tg), .int (iI op), .int (iI sz1), .int (iI ct)])), (b, .inr (0, [.ref r, .int (iI z)])), (r, .inl (cA, w, .inl (fun j => bI (t j))))] s.heap := hP
  have hl := lv_entry ([.ref nd, .int (iI i), .int (iI x), .int (iI pr), .int (iI dp)]) (n := 7) (Nat.le_of_ble_eq_true rfl)
  rw [lg_entry_eq]
  generalize (lg_sl ([.ref nd, .int (iI i), .int (iI x), .int (iI pr), .int (iI dp)]) ++ List.replicate (7 - (lg_sl ([.ref nd, .int (iI i), .int (iI x), .int (iI pr), .int (iI dp)])).length) Slot.unset).toArray = ls at hl ⊢
  have hl : lv_has ls 7 [(0, .ref nd), (1, .int (iI i)), (2, .int (iI x)), (3, .int (iI pr)), (4, .int (iI dp))] := hl
  obtain ⟨hn1, hn2, hn3, hn4, hn5, hn6, hn7⟩ := id hoN
  obtain ⟨hw1, hw2, hw3, hw4, hw5, hw6⟩ := id hok
  have hg8 := gd_rng hok
  refine mv_nameQ (fun Q9 hQ9 => ?_)
  have LP : ∀ (fu : Nat) (a : Int) (j : Int) (rw1 : Nat) (cR1 : ClassId) (M1 : Nat) (V1 : Nat → Int) (mn1 : Int) (kd9 : Int) (cs9 : Int) (tg9 : Int) (op9 : Int) (sz19 : Int) (ct9 : Int) (V2 : Nat → Int) (H : Heap) (locs : List Loc) (ls : Array Slot) (kc ks : Nat), (4096 - j < (fu : Int)) → (0 ≤ j ∧ j ≤ 4096) → (-1 ≤ a ∧ a ≤ 4096) → (a = -1 ∧ loopZ (gd L) (layV (gd L) sx d) x pr 4096 i mn Vs = none ∧ okM M1 V1 mn1 ∨ i ≤ a ∧ a ≤ x ∧ loopZ (gd L) (layV (gd L) sx d) x pr 4096 i mn Vs = loopZ (gd L) (layV (gd L) sx d) x pr (4096 - j).toNat a mn1 V2 ∧ eqN V1 V2 mn1 ∧ okN M1 V1 mn1 ∧ mn ≤ mn1) → (ks + phR M1 ≤ phR M) → (kc ≤ ks) → va_K (dC, dI) vwCl [(cR1, .int), (cA, .byte)] s → va_P (dC, dI) vwCl [(nd, .inr (2, [.ref b, .ref h, .ref rw1, .int (iI mn1), .int (iI sx)])), (rw1, .inl (cR1, M1, .inl (fun j => iI (V1 j)))), (h, .inr (1, [.int (iI kd9), .int (iI cs9), .int (iI tg9), .int (iI op9), .int (iI sz19), .int (iI ct9)])), (b, .inr (0, [.ref r, .int (iI z)])), (r, .inl (cA, w, .inl (fun j => bI (t j))))] H → va_D A [(nd, .inr (2, [.ref b, .ref h, .ref rw1, .int (iI mn1), .int (iI sx)])), (rw1, .inl (cR1, M1, .inl (fun j => iI (V1 j)))), (h, .inr (1, [.int (iI kd9), .int (iI cs9), .int (iI tg9), .int (iI op9), .int (iI sz19), .int (iI ct9)])), (b, .inr (0, [.ref r, .int (iI z)])), (r, .inl (cA, w, .inl (fun j => bI (t j))))] → va_S A s.heap H locs → lv_has ls 7 [(0, .ref nd), (1, .int (iI i)), (2, .int (iI x)), (3, .int (iI pr)), (4, .int (iI dp)), (5, .int (iI a)), (6, .int (iI j))] → W p l e ({ frames := (2 * d + 6), cells := (phR M), slots := (phR M), locals := (53 * d + 227) }) s m ([.ref nd, .int (iI i), .int (iI x), .int (iI pr), .int (iI dp)] : List Value).toArray below meth c H locs kc ks Q9 (F0 m 6 ls []) := by
    intro fu
    induction fu with
    | zero =>
      intro a j rw1 cR1 M1 V1 mn1 kd9 cs9 tg9 op9 sz19 ct9 V2 H locs ls kc ks hfu hj ha hI hks hkc hK hP hD hS hl
      exfalso
      omega
    | succ fu ih =>
      intro a j rw1 cR1 M1 V1 mn1 kd9 cs9 tg9 op9 sz19 ct9 V2 H locs ls kc ks hfu hj ha hI hks hkc hK hP hD hS hl
      refine lv_iload hx hb dX2_layOutUpToZeros_6 (lv_at hl 6 rfl) ?_
      refine lv_sipush (v := iI 4096) hx hb dX2_layOutUpToZeros_8 (by decide +kernel) ?_
      refine li_icmp_ge (tgt := 75) hx hb (by omega) (by omega) dX2_layOutUpToZeros_11 (by decide) (fun c1 => ?_) (fun c1 => ?_)
      · skip
        refine lv_iconst (v := iI (-1)) hx hb dX2_layOutUpToZeros_75 rfl ?_
        rcases hI with ⟨h1, h2, h3⟩ | ⟨h1, h2, hgW, hgE, hgN, hgm⟩
        · skip
          subst hQ9
          have hP9 := hP.sub (ws' := [(nd, .inr (2, [.ref b, .ref h, .ref rw1, .int (iI mn1), .int (iI sx)])), (rw1, .inl (cR1, M1, .inl (fun j => iI (V1 j)))), (h, .inr (1, [.int (iI kd9), .int (iI cs9), .int (iI tg9), .int (iI op9), .int (iI sz19), .int (iI ct9)])), (b, .inr (0, [.ref r, .int (iI z)])), (r, .inl (cA, w, .inl (fun j => bI (t j))))]) [0, 1, 2, 3, 4] rfl
          have hD9 := hD.sub (ws' := [(nd, .inr (2, [.ref b, .ref h, .ref rw1, .int (iI mn1), .int (iI sx)])), (rw1, .inl (cR1, M1, .inl (fun j => iI (V1 j)))), (h, .inr (1, [.int (iI kd9), .int (iI cs9), .int (iI tg9), .int (iI op9), .int (iI sz19), .int (iI ct9)])), (b, .inr (0, [.ref r, .int (iI z)])), (r, .inl (cA, w, .inl (fun j => bI (t j))))]) [0, 1, 2, 3, 4] (by decide) rfl
          have hK9 := hK.sub (tys' := [(cR1, .int), (cA, .byte)]) [0, 1] rfl
          exact mv_iret hx hb hr hlocks (fun tS ht hW => ⟨⟨_, (rw1, cR1, M1, V1, mn1, kd9, cs9, tg9, op9, sz19, ct9, (-1)), rfl, ⟨rfl, Or.inl ⟨h2, rfl, h3⟩, by omega, by omega, by omega⟩, by rw [ht]; exact hP9, va_K.moved hW.alike hK9, hD9⟩, hS.F ht⟩) hS.2.2 dX2_layOutUpToZeros_76
        · skip
          subst hQ9
          have hP9 := hP.sub (ws' := [(nd, .inr (2, [.ref b, .ref h, .ref rw1, .int (iI mn1), .int (iI sx)])), (rw1, .inl (cR1, M1, .inl (fun j => iI (V1 j)))), (h, .inr (1, [.int (iI kd9), .int (iI cs9), .int (iI tg9), .int (iI op9), .int (iI sz19), .int (iI ct9)])), (b, .inr (0, [.ref r, .int (iI z)])), (r, .inl (cA, w, .inl (fun j => bI (t j))))]) [0, 1, 2, 3, 4] rfl
          have hD9 := hD.sub (ws' := [(nd, .inr (2, [.ref b, .ref h, .ref rw1, .int (iI mn1), .int (iI sx)])), (rw1, .inl (cR1, M1, .inl (fun j => iI (V1 j)))), (h, .inr (1, [.int (iI kd9), .int (iI cs9), .int (iI tg9), .int (iI op9), .int (iI sz19), .int (iI ct9)])), (b, .inr (0, [.ref r, .int (iI z)])), (r, .inl (cA, w, .inl (fun j => bI (t j))))]) [0, 1, 2, 3, 4] (by decide) rfl
          have hK9 := hK.sub (tys' := [(cR1, .int), (cA, .byte)]) [0, 1] rfl
          exact mv_iret hx hb hr hlocks (fun tS ht hW => ⟨⟨_, (rw1, cR1, M1, V1, mn1, kd9, cs9, tg9, op9, sz19, ct9, (-1)), rfl, ⟨rfl, Or.inl ⟨by rw [hgW]; exact loopZ_x (by omega), rfl, okN_m hgN⟩, by omega, by omega, by omega⟩, by rw [ht]; exact hP9, va_K.moved hW.alike hK9, hD9⟩, hS.F ht⟩) hS.2.2 dX2_layOutUpToZeros_76
      · skip
        refine lv_iload hx hb dX2_layOutUpToZeros_14 (lv_at hl 5 rfl) ?_
        refine lv_iconst (v := iI (-1)) hx hb dX2_layOutUpToZeros_16 rfl ?_
        refine li_icmp_eq (tgt := 75) hx hb (by omega) (by omega) dX2_layOutUpToZeros_17 (by decide) (fun c2 => ?_) (fun c2 => ?_)
        · skip
          refine lv_iconst (v := iI (-1)) hx hb dX2_layOutUpToZeros_75 rfl ?_
          rcases hI with ⟨h1, h2, h3⟩ | ⟨h1, h2, hgW, hgE, hgN, hgm⟩
          · skip
            subst hQ9
            have hP9 := hP.sub (ws' := [(nd, .inr (2, [.ref b, .ref h, .ref rw1, .int (iI mn1), .int (iI sx)])), (rw1, .inl (cR1, M1, .inl (fun j => iI (V1 j)))), (h, .inr (1, [.int (iI kd9), .int (iI cs9), .int (iI tg9), .int (iI op9), .int (iI sz19), .int (iI ct9)])), (b, .inr (0, [.ref r, .int (iI z)])), (r, .inl (cA, w, .inl (fun j => bI (t j))))]) [0, 1, 2, 3, 4] rfl
            have hD9 := hD.sub (ws' := [(nd, .inr (2, [.ref b, .ref h, .ref rw1, .int (iI mn1), .int (iI sx)])), (rw1, .inl (cR1, M1, .inl (fun j => iI (V1 j)))), (h, .inr (1, [.int (iI kd9), .int (iI cs9), .int (iI tg9), .int (iI op9), .int (iI sz19), .int (iI ct9)])), (b, .inr (0, [.ref r, .int (iI z)])), (r, .inl (cA, w, .inl (fun j => bI (t j))))]) [0, 1, 2, 3, 4] (by decide) rfl
            have hK9 := hK.sub (tys' := [(cR1, .int), (cA, .byte)]) [0, 1] rfl
            exact mv_iret hx hb hr hlocks (fun tS ht hW => ⟨⟨_, (rw1, cR1, M1, V1, mn1, kd9, cs9, tg9, op9, sz19, ct9, (-1)), rfl, ⟨rfl, Or.inl ⟨h2, rfl, h3⟩, by omega, by omega, by omega⟩, by rw [ht]; exact hP9, va_K.moved hW.alike hK9, hD9⟩, hS.F ht⟩) hS.2.2 dX2_layOutUpToZeros_76
          · skip
            subst hQ9
            have hP9 := hP.sub (ws' := [(nd, .inr (2, [.ref b, .ref h, .ref rw1, .int (iI mn1), .int (iI sx)])), (rw1, .inl (cR1, M1, .inl (fun j => iI (V1 j)))), (h, .inr (1, [.int (iI kd9), .int (iI cs9), .int (iI tg9), .int (iI op9), .int (iI sz19), .int (iI ct9)])), (b, .inr (0, [.ref r, .int (iI z)])), (r, .inl (cA, w, .inl (fun j => bI (t j))))]) [0, 1, 2, 3, 4] rfl
            have hD9 := hD.sub (ws' := [(nd, .inr (2, [.ref b, .ref h, .ref rw1, .int (iI mn1), .int (iI sx)])), (rw1, .inl (cR1, M1, .inl (fun j => iI (V1 j)))), (h, .inr (1, [.int (iI kd9), .int (iI cs9), .int (iI tg9), .int (iI op9), .int (iI sz19), .int (iI ct9)])), (b, .inr (0, [.ref r, .int (iI z)])), (r, .inl (cA, w, .inl (fun j => bI (t j))))]) [0, 1, 2, 3, 4] (by decide) rfl
            have hK9 := hK.sub (tys' := [(cR1, .int), (cA, .byte)]) [0, 1] rfl
            exact mv_iret hx hb hr hlocks (fun tS ht hW => ⟨⟨_, (rw1, cR1, M1, V1, mn1, kd9, cs9, tg9, op9, sz19, ct9, (-1)), rfl, ⟨rfl, Or.inl ⟨by rw [hgW]; exact loopZ_x (by omega), rfl, okN_m hgN⟩, by omega, by omega, by omega⟩, by rw [ht]; exact hP9, va_K.moved hW.alike hK9, hD9⟩, hS.F ht⟩) hS.2.2 dX2_layOutUpToZeros_76
        · skip
          refine lv_iload hx hb dX2_layOutUpToZeros_20 (lv_at hl 5 rfl) ?_
          refine lv_iload_n hx hb dX2_layOutUpToZeros_22 rfl (lv_at hl 2 rfl) ?_
          refine lv_iconst (v := iI 1) hx hb dX2_layOutUpToZeros_23 rfl ?_
          refine li_isub hx hb dX2_layOutUpToZeros_24 ?_
          refine li_icmp_ge (tgt := 75) hx hb (by omega) (by omega) dX2_layOutUpToZeros_25 (by decide) (fun c3 => ?_) (fun c3 => ?_)
          · skip
            refine lv_iconst (v := iI (-1)) hx hb dX2_layOutUpToZeros_75 rfl ?_
            rcases hI with ⟨h1, h2, h3⟩ | ⟨h1, h2, hgW, hgE, hgN, hgm⟩
            · skip
              subst hQ9
              have hP9 := hP.sub (ws' := [(nd, .inr (2, [.ref b, .ref h, .ref rw1, .int (iI mn1), .int (iI sx)])), (rw1, .inl (cR1, M1, .inl (fun j => iI (V1 j)))), (h, .inr (1, [.int (iI kd9), .int (iI cs9), .int (iI tg9), .int (iI op9), .int (iI sz19), .int (iI ct9)])), (b, .inr (0, [.ref r, .int (iI z)])), (r, .inl (cA, w, .inl (fun j => bI (t j))))]) [0, 1, 2, 3, 4] rfl
              have hD9 := hD.sub (ws' := [(nd, .inr (2, [.ref b, .ref h, .ref rw1, .int (iI mn1), .int (iI sx)])), (rw1, .inl (cR1, M1, .inl (fun j => iI (V1 j)))), (h, .inr (1, [.int (iI kd9), .int (iI cs9), .int (iI tg9), .int (iI op9), .int (iI sz19), .int (iI ct9)])), (b, .inr (0, [.ref r, .int (iI z)])), (r, .inl (cA, w, .inl (fun j => bI (t j))))]) [0, 1, 2, 3, 4] (by decide) rfl
              have hK9 := hK.sub (tys' := [(cR1, .int), (cA, .byte)]) [0, 1] rfl
              exact mv_iret hx hb hr hlocks (fun tS ht hW => ⟨⟨_, (rw1, cR1, M1, V1, mn1, kd9, cs9, tg9, op9, sz19, ct9, (-1)), rfl, ⟨rfl, Or.inl ⟨h2, rfl, h3⟩, by omega, by omega, by omega⟩, by rw [ht]; exact hP9, va_K.moved hW.alike hK9, hD9⟩, hS.F ht⟩) hS.2.2 dX2_layOutUpToZeros_76
            · skip
              subst hQ9
              have hP9 := hP.sub (ws' := [(nd, .inr (2, [.ref b, .ref h, .ref rw1, .int (iI mn1), .int (iI sx)])), (rw1, .inl (cR1, M1, .inl (fun j => iI (V1 j)))), (h, .inr (1, [.int (iI kd9), .int (iI cs9), .int (iI tg9), .int (iI op9), .int (iI sz19), .int (iI ct9)])), (b, .inr (0, [.ref r, .int (iI z)])), (r, .inl (cA, w, .inl (fun j => bI (t j))))]) [0, 1, 2, 3, 4] rfl
              have hD9 := hD.sub (ws' := [(nd, .inr (2, [.ref b, .ref h, .ref rw1, .int (iI mn1), .int (iI sx)])), (rw1, .inl (cR1, M1, .inl (fun j => iI (V1 j)))), (h, .inr (1, [.int (iI kd9), .int (iI cs9), .int (iI tg9), .int (iI op9), .int (iI sz19), .int (iI ct9)])), (b, .inr (0, [.ref r, .int (iI z)])), (r, .inl (cA, w, .inl (fun j => bI (t j))))]) [0, 1, 2, 3, 4] (by decide) rfl
              have hK9 := hK.sub (tys' := [(cR1, .int), (cA, .byte)]) [0, 1] rfl
              exact mv_iret hx hb hr hlocks (fun tS ht hW => ⟨⟨_, (rw1, cR1, M1, V1, mn1, kd9, cs9, tg9, op9, sz19, ct9, (-1)), rfl, ⟨rfl, Or.inl ⟨by rw [hgW]; exact loopZ_x (by omega), rfl, okN_m hgN⟩, by omega, by omega, by omega⟩, by rw [ht]; exact hP9, va_K.moved hW.alike hK9, hD9⟩, hS.F ht⟩) hS.2.2 dX2_layOutUpToZeros_76
          · skip
            refine lv_aload_n hx hb dX2_layOutUpToZeros_28 rfl (lv_at hl 0 rfl) ?_
            refine va_get (D := (dC, dI)) (ci := 2) (v := .ref b) (C := RX2) (T := TX2) (N := 5) hx hb hT inX2 hown hK hP 0 rfl rfl 0 (by decide) (hT _ wd103) (fun _ h9 => h9) rfl dX2_layOutUpToZeros_29 ?_
            refine lv_iload hx hb dX2_layOutUpToZeros_32 (lv_at hl 5 rfl) ?_
            have hga := hg8 a
            have hga1 := hg8 (a + 1)
            have hPc := hP.sub (ws' := [(b, .inr (0, [.ref r, .int (iI z)])), (r, .inl (cA, w, .inl (fun j => bI (t j))))]) [3, 4] rfl
            have hDc := hD.sub (ws' := [(b, .inr (0, [.ref r, .int (iI z)])), (r, .inl (cA, w, .inl (fun j => bI (t j))))]) [3, 4] (by decide) rfl
            have hKc := hK.sub (tys' := [(cA, .byte)]) [1] rfl
            have hFc := va_free (wc := [(b, .inr (0, [.ref r, .int (iI z)])), (r, .inl (cA, w, .inl (fun j => bI (t j))))]) hD hS hA [3, 4] rfl
            refine mv_call (mv_runV (As := [.int (iI a)]) (rest := []) ⟨hx, hb, hml, hown, hT⟩ (c_B_at l dC dI H.size b r cA w t z L a (hok) (by omega)) (cwV 1 hT (gV wd369 wd322 wd323 wd27 wd324) rfl rfl rfl (by decide +kernel) ⟨show 0 + 1 ≤ (2 * d + 6) from by omega, show 8 + (2 + 11) + 0 ≤ (53 * d + 227) from by omega⟩) ⟨fun a U g mk q => by obtain ⟨q0, q1, qP, qK, qD⟩ := q; exact ⟨q0, q1, qP, va_K.moved (u := U) (U := U.calling g mk a) (Vm.Alike.refl U.vm) qK, qD⟩, va_recv hKc hPc (ci := 0) (q0 := 0) rfl rfl, fun U hU hW => ⟨rfl, by rw [hU], by rw [hU]; exact hPc, va_K.moved hW.alike hKc, hDc.weaken (fun _ _ _ _ => trivial)⟩⟩ rfl rfl hl.1 rfl (lv_room (Nat.le_of_ble_eq_true rfl)) dX2_layOutUpToZeros_34 ⟨show kc + 0 ≤ (phR M) from by omega, show ks + 0 ≤ (phR M) from by omega⟩) hS (fun q _ h => hFc q h) hFc (fun v6 u k4 n5 tS H1 locs ht hvm hw hB hz1 hk1 hS => ?_)
            obtain ⟨hP1, hK1, hD1⟩ := hB
            rw [ht] at hP1
            have hK1 := va_K.moved hvm.symm hK1
            try dsimp only at hw
            obtain ⟨hP, hD⟩ := va_join (wr := [(nd, .inr (2, [.ref b, .ref h, .ref rw1, .int (iI mn1), .int (iI sx)])), (rw1, .inl (cR1, M1, .inl (fun j => iI (V1 j)))), (h, .inr (1, [.int (iI kd9), .int (iI cs9), .int (iI tg9), .int (iI op9), .int (iI sz19), .int (iI ct9)]))]) (w1 := [(b, .inr (0, [.ref r, .int (iI z)])), (r, .inl (cA, w, .inl (fun j => bI (t j))))]) hP hD [3, 4] [0, 1, 2] rfl rfl (by decide) (by decide) hk1 hFc hP1 hD1
            have hK := (hK.sub (tys' := [(cR1, .int)]) [0] rfl).app hK1
            generalize H1 = H at hP hS ⊢
            have hP : va_P (dC, dI) vwCl [(nd, .inr (2, [.ref b, .ref h, .ref rw1, .int (iI mn1), .int (iI sx)])), (rw1, .inl (cR1, M1, .inl (fun j => iI (V1 j)))), (h, .inr (1, [.int (iI kd9), .int (iI cs9), .int (iI tg9), .int (iI op9), .int (iI sz19), .int (iI ct9)])), (b, .inr (0, [.ref r, .int (iI z)])), (r, .inl (cA, w, .inl (fun j => bI (t j))))] H := hP
            have hD : va_D A [(nd, .inr (2, [.ref b, .ref h, .ref rw1, .int (iI mn1), .int (iI sx)])), (rw1, .inl (cR1, M1, .inl (fun j => iI (V1 j)))), (h, .inr (1, [.int (iI kd9), .int (iI cs9), .int (iI tg9), .int (iI op9), .int (iI sz19), .int (iI ct9)])), (b, .inr (0, [.ref r, .int (iI z)])), (r, .inl (cA, w, .inl (fun j => bI (t j))))] := hD
            have hK : va_K (dC, dI) vwCl [(cR1, .int), (cA, .byte)] s := hK
            obtain ⟨rfl, rfl, rfl⟩ := hw
            refine W.eq (g2 := F0 m 37 ls [.int (iI (gd L a))]) rfl ?_
            refine li_if_ne (tgt := 57) hx hb (by omega) dX2_layOutUpToZeros_37 (by decide) (fun c7 => ?_) (fun c7 => ?_)
            · skip
              refine lv_aload_n hx hb dX2_layOutUpToZeros_57 rfl (lv_at hl 0 rfl) ?_
              refine lv_iload hx hb dX2_layOutUpToZeros_58 (lv_at hl 5 rfl) ?_
              refine lv_iload_n hx hb dX2_layOutUpToZeros_60 rfl (lv_at hl 2 rfl) ?_
              refine lv_iload_n hx hb dX2_layOutUpToZeros_61 rfl (lv_at hl 3 rfl) ?_
              refine lv_iload hx hb dX2_layOutUpToZeros_62 (lv_at hl 4 rfl) ?_
              obtain ⟨hg1, hg2, hgW, hgE, hgN, hgm⟩ := hI.resolve_left (fun h => absurd h.1 (by omega))
              have hPc := hP.sub (ws' := [(nd, .inr (2, [.ref b, .ref h, .ref rw1, .int (iI mn1), .int (iI sx)])), (rw1, .inl (cR1, M1, .inl (fun j => iI (V1 j)))), (h, .inr (1, [.int (iI kd9), .int (iI cs9), .int (iI tg9), .int (iI op9), .int (iI sz19), .int (iI ct9)])), (b, .inr (0, [.ref r, .int (iI z)])), (r, .inl (cA, w, .inl (fun j => bI (t j))))]) [0, 1, 2, 3, 4] rfl
              have hDc := hD.sub (ws' := [(nd, .inr (2, [.ref b, .ref h, .ref rw1, .int (iI mn1), .int (iI sx)])), (rw1, .inl (cR1, M1, .inl (fun j => iI (V1 j)))), (h, .inr (1, [.int (iI kd9), .int (iI cs9), .int (iI tg9), .int (iI op9), .int (iI sz19), .int (iI ct9)])), (b, .inr (0, [.ref r, .int (iI z)])), (r, .inl (cA, w, .inl (fun j => bI (t j))))]) [0, 1, 2, 3, 4] (by decide) rfl
              have hKc := hK.sub (tys' := [(cR1, .int), (cA, .byte)]) [0, 1] rfl
              have hFc := va_free (wc := [(nd, .inr (2, [.ref b, .ref h, .ref rw1, .int (iI mn1), .int (iI sx)])), (rw1, .inl (cR1, M1, .inl (fun j => iI (V1 j)))), (h, .inr (1, [.int (iI kd9), .int (iI cs9), .int (iI tg9), .int (iI op9), .int (iI sz19), .int (iI ct9)])), (b, .inr (0, [.ref r, .int (iI z)])), (r, .inl (cA, w, .inl (fun j => bI (t j))))]) hD hS hA [0, 1, 2, 3, 4] rfl
              refine mv_call (mv_runV (As := [.int (iI a), .int (iI x), .int (iI pr), .int (iI dp)]) (rest := []) ⟨hx, hb, hml, hown, hT⟩ (hCV H.size nd b h rw1 mn1 sx cR1 M1 V1 kd9 cs9 tg9 op9 sz19 ct9 r cA w t z L V2 a x pr dp (hgN) (hgE) (hok) (hsx) (by omega) (by omega) (by omega)) (cwV 4 hT (gV wd309 wd311 wd4 wd28 wd312) rfl rfl rfl (by decide +kernel) ⟨show (2 * d + 5) + 1 ≤ (2 * d + 6) from by omega, show 8 + (8 + 11) + (53 * d + 200) ≤ (53 * d + 227) from by omega⟩) ⟨fun a U g mk q => by obtain ⟨q0, q1, qP, qK, qD, qN⟩ := q; exact ⟨q0, q1, qP, va_K.moved (u := U) (U := U.calling g mk a) (Vm.Alike.refl U.vm) qK, qD, nsW_same rfl qN⟩, va_recv hKc hPc (ci := 2) (q0 := 0) rfl rfl, fun U hU hW => ⟨rfl, by rw [hU], by rw [hU]; exact hPc, va_K.moved hW.alike hKc, hDc.weaken (fun _ _ _ _ => trivial), nsW_warm hW hN⟩⟩ rfl rfl hl.1 rfl (lv_room (Nat.le_of_ble_eq_true rfl)) dX2_layOutUpToZeros_64 ⟨show kc + 0 + (phR M1) ≤ (phR M) from by omega, show ks + 0 + (phR M1) ≤ (phR M) from by omega⟩) hS (fun q _ h => hFc q h) hFc (fun v10 u k8 n9 tS H1 locs ht hvm hw hB hz1 hk1 hS => ?_)
              obtain ⟨rw11, cR12, M13, V14, mn15, kd16, cs17, tg18, op19, sz20, ct21, q22⟩ := u
              obtain ⟨hP1, hK1, hD1⟩ := hB
              rw [ht] at hP1
              have hK1 := va_K.moved hvm.symm hK1
              try dsimp only at hw
              obtain ⟨hP, hD⟩ := va_join (wr := []) (w1 := [(nd, .inr (2, [.ref b, .ref h, .ref rw11, .int (iI mn15), .int (iI sx)])), (rw11, .inl (cR12, M13, .inl (fun j => iI (V14 j)))), (h, .inr (1, [.int (iI kd16), .int (iI cs17), .int (iI tg18), .int (iI op19), .int (iI sz20), .int (iI ct21)])), (b, .inr (0, [.ref r, .int (iI z)])), (r, .inl (cA, w, .inl (fun j => bI (t j))))]) hP hD [0, 1, 2, 3, 4] [] rfl rfl (by decide) (by decide) hk1 hFc hP1 hD1
              have hK := (hK.sub (tys' := []) [] rfl).app hK1
              generalize H1 = H at hP hS ⊢
              have hP : va_P (dC, dI) vwCl [(nd, .inr (2, [.ref b, .ref h, .ref rw11, .int (iI mn15), .int (iI sx)])), (rw11, .inl (cR12, M13, .inl (fun j => iI (V14 j)))), (h, .inr (1, [.int (iI kd16), .int (iI cs17), .int (iI tg18), .int (iI op19), .int (iI sz20), .int (iI ct21)])), (b, .inr (0, [.ref r, .int (iI z)])), (r, .inl (cA, w, .inl (fun j => bI (t j))))] H := hP
              have hD : va_D A [(nd, .inr (2, [.ref b, .ref h, .ref rw11, .int (iI mn15), .int (iI sx)])), (rw11, .inl (cR12, M13, .inl (fun j => iI (V14 j)))), (h, .inr (1, [.int (iI kd16), .int (iI cs17), .int (iI tg18), .int (iI op19), .int (iI sz20), .int (iI ct21)])), (b, .inr (0, [.ref r, .int (iI z)])), (r, .inl (cA, w, .inl (fun j => bI (t j))))] := hD
              have hK : va_K (dC, dI) vwCl [(cR12, .int), (cA, .byte)] s := hK
              obtain ⟨rfl, hqv10, hrv10, hFv10, hGv10⟩ := hw
              refine W.eq (g2 := F0 m 67 ls [.int (iI q22)]) rfl ?_
              refine lv_istore (lv' := [(5, .int (iI q22)), (0, .ref nd), (1, .int (iI i)), (2, .int (iI x)), (3, .int (iI pr)), (4, .int (iI dp)), (6, .int (iI j))]) hx hb dX2_layOutUpToZeros_67 hl (by decide) rfl (fun ls hl => ?_)
              obtain ⟨z23, ez23⟩ : ∃ y : Int, y = j + 1 := ⟨_, rfl⟩
              refine lv_iinc (v := iI z23) (lv' := [(6, .int (iI z23)), (5, .int (iI q22)), (0, .ref nd), (1, .int (iI i)), (2, .int (iI x)), (3, .int (iI pr)), (4, .int (iI dp))]) hx hb dX2_layOutUpToZeros_69 hl (k := 6) rfl (by rw [ez23]; exact iI_add _ _) (by decide) rfl (fun ls hl => ?_)
              refine lv_goto (tgt := 6) hx hb dX2_layOutUpToZeros_72 (by decide) ?_
              have ej2 : z23 = j + 1 := by omega
              rcases hqv10 with ⟨h1, h2, h3⟩ | ⟨V3, h1, h2, h3, h4, h5, h6⟩
              · skip
                exact ih q22 z23 rw11 cR12 M13 V14 mn15 kd16 cs17 tg18 op19 sz20 ct21 V2 _ _ _ _ _ (by omega) (by omega) (by omega) (Or.inl ⟨h2, by rw [hgW]; exact loopZ_no (by omega) (by omega) (by omega) h1, h3⟩) (by omega) (by omega) (hK.sub [0, 1] rfl) (hP.sub [0, 1, 2, 3, 4] rfl) (hD.sub [0, 1, 2, 3, 4] (by decide) rfl) hS (lv_sub hl [2, 3, 4, 5, 6, 1, 0] rfl)
              · skip
                exact ih q22 z23 rw11 cR12 M13 V14 mn15 kd16 cs17 tg18 op19 sz20 ct21 V3 _ _ _ _ _ (by omega) (by omega) (by omega) (Or.inr ⟨by omega, by omega, by rw [hgW, ej2]; exact loopZ_go (by omega) (by omega) (by omega) h1, h2, h3, by omega⟩) (by omega) (by omega) (hK.sub [0, 1] rfl) (hP.sub [0, 1, 2, 3, 4] rfl) (hD.sub [0, 1, 2, 3, 4] (by decide) rfl) hS (lv_sub hl [2, 3, 4, 5, 6, 1, 0] rfl)
            · skip
              refine lv_aload_n hx hb dX2_layOutUpToZeros_40 rfl (lv_at hl 0 rfl) ?_
              refine va_get (D := (dC, dI)) (ci := 2) (v := .ref b) (C := RX2) (T := TX2) (N := 5) hx hb hT inX2 hown hK hP 0 rfl rfl 0 (by decide) (hT _ wd103) (fun _ h9 => h9) rfl dX2_layOutUpToZeros_41 ?_
              refine lv_iload hx hb dX2_layOutUpToZeros_44 (lv_at hl 5 rfl) ?_
              refine lv_iconst (v := iI 1) hx hb dX2_layOutUpToZeros_46 rfl ?_
              refine li_iadd hx hb dX2_layOutUpToZeros_47 ?_
              have hPc := hP.sub (ws' := [(b, .inr (0, [.ref r, .int (iI z)])), (r, .inl (cA, w, .inl (fun j => bI (t j))))]) [3, 4] rfl
              have hDc := hD.sub (ws' := [(b, .inr (0, [.ref r, .int (iI z)])), (r, .inl (cA, w, .inl (fun j => bI (t j))))]) [3, 4] (by decide) rfl
              have hKc := hK.sub (tys' := [(cA, .byte)]) [1] rfl
              have hFc := va_free (wc := [(b, .inr (0, [.ref r, .int (iI z)])), (r, .inl (cA, w, .inl (fun j => bI (t j))))]) hD hS hA [3, 4] rfl
              refine mv_call (mv_runV (As := [.int (iI (a + 1))]) (rest := []) ⟨hx, hb, hml, hown, hT⟩ (c_B_at l dC dI H.size b r cA w t z L (a + 1) (hok) (by omega)) (cwV 1 hT (gV wd369 wd322 wd323 wd27 wd324) rfl rfl rfl (by decide +kernel) ⟨show 0 + 1 ≤ (2 * d + 6) from by omega, show 8 + (2 + 11) + 0 ≤ (53 * d + 227) from by omega⟩) ⟨fun a U g mk q => by obtain ⟨q0, q1, qP, qK, qD⟩ := q; exact ⟨q0, q1, qP, va_K.moved (u := U) (U := U.calling g mk a) (Vm.Alike.refl U.vm) qK, qD⟩, va_recv hKc hPc (ci := 0) (q0 := 0) rfl rfl, fun U hU hW => ⟨rfl, by rw [hU], by rw [hU]; exact hPc, va_K.moved hW.alike hKc, hDc.weaken (fun _ _ _ _ => trivial)⟩⟩ rfl rfl hl.1 rfl (lv_room (Nat.le_of_ble_eq_true rfl)) dX2_layOutUpToZeros_48 ⟨show kc + 0 + 0 ≤ (phR M) from by omega, show ks + 0 + 0 ≤ (phR M) from by omega⟩) hS (fun q _ h => hFc q h) hFc (fun v26 u k24 n25 tS H1 locs ht hvm hw hB hz1 hk1 hS => ?_)
              obtain ⟨hP1, hK1, hD1⟩ := hB
              rw [ht] at hP1
              have hK1 := va_K.moved hvm.symm hK1
              try dsimp only at hw
              obtain ⟨hP, hD⟩ := va_join (wr := [(nd, .inr (2, [.ref b, .ref h, .ref rw1, .int (iI mn1), .int (iI sx)])), (rw1, .inl (cR1, M1, .inl (fun j => iI (V1 j)))), (h, .inr (1, [.int (iI kd9), .int (iI cs9), .int (iI tg9), .int (iI op9), .int (iI sz19), .int (iI ct9)]))]) (w1 := [(b, .inr (0, [.ref r, .int (iI z)])), (r, .inl (cA, w, .inl (fun j => bI (t j))))]) hP hD [3, 4] [0, 1, 2] rfl rfl (by decide) (by decide) hk1 hFc hP1 hD1
              have hK := (hK.sub (tys' := [(cR1, .int)]) [0] rfl).app hK1
              generalize H1 = H at hP hS ⊢
              have hP : va_P (dC, dI) vwCl [(nd, .inr (2, [.ref b, .ref h, .ref rw1, .int (iI mn1), .int (iI sx)])), (rw1, .inl (cR1, M1, .inl (fun j => iI (V1 j)))), (h, .inr (1, [.int (iI kd9), .int (iI cs9), .int (iI tg9), .int (iI op9), .int (iI sz19), .int (iI ct9)])), (b, .inr (0, [.ref r, .int (iI z)])), (r, .inl (cA, w, .inl (fun j => bI (t j))))] H := hP
              have hD : va_D A [(nd, .inr (2, [.ref b, .ref h, .ref rw1, .int (iI mn1), .int (iI sx)])), (rw1, .inl (cR1, M1, .inl (fun j => iI (V1 j)))), (h, .inr (1, [.int (iI kd9), .int (iI cs9), .int (iI tg9), .int (iI op9), .int (iI sz19), .int (iI ct9)])), (b, .inr (0, [.ref r, .int (iI z)])), (r, .inl (cA, w, .inl (fun j => bI (t j))))] := hD
              have hK : va_K (dC, dI) vwCl [(cR1, .int), (cA, .byte)] s := hK
              obtain ⟨rfl, rfl, rfl⟩ := hw
              refine W.eq (g2 := F0 m 51 ls [.int (iI (gd L (a + 1)))]) rfl ?_
              refine li_if_ne (tgt := 57) hx hb (by omega) dX2_layOutUpToZeros_51 (by decide) (fun c27 => ?_) (fun c27 => ?_)
              · skip
                refine lv_aload_n hx hb dX2_layOutUpToZeros_57 rfl (lv_at hl 0 rfl) ?_
                refine lv_iload hx hb dX2_layOutUpToZeros_58 (lv_at hl 5 rfl) ?_
                refine lv_iload_n hx hb dX2_layOutUpToZeros_60 rfl (lv_at hl 2 rfl) ?_
                refine lv_iload_n hx hb dX2_layOutUpToZeros_61 rfl (lv_at hl 3 rfl) ?_
                refine lv_iload hx hb dX2_layOutUpToZeros_62 (lv_at hl 4 rfl) ?_
                obtain ⟨hg1, hg2, hgW, hgE, hgN, hgm⟩ := hI.resolve_left (fun h => absurd h.1 (by omega))
                have hPc := hP.sub (ws' := [(nd, .inr (2, [.ref b, .ref h, .ref rw1, .int (iI mn1), .int (iI sx)])), (rw1, .inl (cR1, M1, .inl (fun j => iI (V1 j)))), (h, .inr (1, [.int (iI kd9), .int (iI cs9), .int (iI tg9), .int (iI op9), .int (iI sz19), .int (iI ct9)])), (b, .inr (0, [.ref r, .int (iI z)])), (r, .inl (cA, w, .inl (fun j => bI (t j))))]) [0, 1, 2, 3, 4] rfl
                have hDc := hD.sub (ws' := [(nd, .inr (2, [.ref b, .ref h, .ref rw1, .int (iI mn1), .int (iI sx)])), (rw1, .inl (cR1, M1, .inl (fun j => iI (V1 j)))), (h, .inr (1, [.int (iI kd9), .int (iI cs9), .int (iI tg9), .int (iI op9), .int (iI sz19), .int (iI ct9)])), (b, .inr (0, [.ref r, .int (iI z)])), (r, .inl (cA, w, .inl (fun j => bI (t j))))]) [0, 1, 2, 3, 4] (by decide) rfl
                have hKc := hK.sub (tys' := [(cR1, .int), (cA, .byte)]) [0, 1] rfl
                have hFc := va_free (wc := [(nd, .inr (2, [.ref b, .ref h, .ref rw1, .int (iI mn1), .int (iI sx)])), (rw1, .inl (cR1, M1, .inl (fun j => iI (V1 j)))), (h, .inr (1, [.int (iI kd9), .int (iI cs9), .int (iI tg9), .int (iI op9), .int (iI sz19), .int (iI ct9)])), (b, .inr (0, [.ref r, .int (iI z)])), (r, .inl (cA, w, .inl (fun j => bI (t j))))]) hD hS hA [0, 1, 2, 3, 4] rfl
                refine mv_call (mv_runV (As := [.int (iI a), .int (iI x), .int (iI pr), .int (iI dp)]) (rest := []) ⟨hx, hb, hml, hown, hT⟩ (hCV H.size nd b h rw1 mn1 sx cR1 M1 V1 kd9 cs9 tg9 op9 sz19 ct9 r cA w t z L V2 a x pr dp (hgN) (hgE) (hok) (hsx) (by omega) (by omega) (by omega)) (cwV 4 hT (gV wd309 wd311 wd4 wd28 wd312) rfl rfl rfl (by decide +kernel) ⟨show (2 * d + 5) + 1 ≤ (2 * d + 6) from by omega, show 8 + (8 + 11) + (53 * d + 200) ≤ (53 * d + 227) from by omega⟩) ⟨fun a U g mk q => by obtain ⟨q0, q1, qP, qK, qD, qN⟩ := q; exact ⟨q0, q1, qP, va_K.moved (u := U) (U := U.calling g mk a) (Vm.Alike.refl U.vm) qK, qD, nsW_same rfl qN⟩, va_recv hKc hPc (ci := 2) (q0 := 0) rfl rfl, fun U hU hW => ⟨rfl, by rw [hU], by rw [hU]; exact hPc, va_K.moved hW.alike hKc, hDc.weaken (fun _ _ _ _ => trivial), nsW_warm hW hN⟩⟩ rfl rfl hl.1 rfl (lv_room (Nat.le_of_ble_eq_true rfl)) dX2_layOutUpToZeros_64 ⟨show kc + 0 + 0 + (phR M1) ≤ (phR M) from by omega, show ks + 0 + 0 + (phR M1) ≤ (phR M) from by omega⟩) hS (fun q _ h => hFc q h) hFc (fun v30 u k28 n29 tS H1 locs ht hvm hw hB hz1 hk1 hS => ?_)
                obtain ⟨rw31, cR32, M33, V34, mn35, kd36, cs37, tg38, op39, sz40, ct41, q42⟩ := u
                obtain ⟨hP1, hK1, hD1⟩ := hB
                rw [ht] at hP1
                have hK1 := va_K.moved hvm.symm hK1
                try dsimp only at hw
                obtain ⟨hP, hD⟩ := va_join (wr := []) (w1 := [(nd, .inr (2, [.ref b, .ref h, .ref rw31, .int (iI mn35), .int (iI sx)])), (rw31, .inl (cR32, M33, .inl (fun j => iI (V34 j)))), (h, .inr (1, [.int (iI kd36), .int (iI cs37), .int (iI tg38), .int (iI op39), .int (iI sz40), .int (iI ct41)])), (b, .inr (0, [.ref r, .int (iI z)])), (r, .inl (cA, w, .inl (fun j => bI (t j))))]) hP hD [0, 1, 2, 3, 4] [] rfl rfl (by decide) (by decide) hk1 hFc hP1 hD1
                have hK := (hK.sub (tys' := []) [] rfl).app hK1
                generalize H1 = H at hP hS ⊢
                have hP : va_P (dC, dI) vwCl [(nd, .inr (2, [.ref b, .ref h, .ref rw31, .int (iI mn35), .int (iI sx)])), (rw31, .inl (cR32, M33, .inl (fun j => iI (V34 j)))), (h, .inr (1, [.int (iI kd36), .int (iI cs37), .int (iI tg38), .int (iI op39), .int (iI sz40), .int (iI ct41)])), (b, .inr (0, [.ref r, .int (iI z)])), (r, .inl (cA, w, .inl (fun j => bI (t j))))] H := hP
                have hD : va_D A [(nd, .inr (2, [.ref b, .ref h, .ref rw31, .int (iI mn35), .int (iI sx)])), (rw31, .inl (cR32, M33, .inl (fun j => iI (V34 j)))), (h, .inr (1, [.int (iI kd36), .int (iI cs37), .int (iI tg38), .int (iI op39), .int (iI sz40), .int (iI ct41)])), (b, .inr (0, [.ref r, .int (iI z)])), (r, .inl (cA, w, .inl (fun j => bI (t j))))] := hD
                have hK : va_K (dC, dI) vwCl [(cR32, .int), (cA, .byte)] s := hK
                obtain ⟨rfl, hqv30, hrv30, hFv30, hGv30⟩ := hw
                refine W.eq (g2 := F0 m 67 ls [.int (iI q42)]) rfl ?_
                refine lv_istore (lv' := [(5, .int (iI q42)), (0, .ref nd), (1, .int (iI i)), (2, .int (iI x)), (3, .int (iI pr)), (4, .int (iI dp)), (6, .int (iI j))]) hx hb dX2_layOutUpToZeros_67 hl (by decide) rfl (fun ls hl => ?_)
                obtain ⟨z43, ez43⟩ : ∃ y : Int, y = j + 1 := ⟨_, rfl⟩
                refine lv_iinc (v := iI z43) (lv' := [(6, .int (iI z43)), (5, .int (iI q42)), (0, .ref nd), (1, .int (iI i)), (2, .int (iI x)), (3, .int (iI pr)), (4, .int (iI dp))]) hx hb dX2_layOutUpToZeros_69 hl (k := 6) rfl (by rw [ez43]; exact iI_add _ _) (by decide) rfl (fun ls hl => ?_)
                refine lv_goto (tgt := 6) hx hb dX2_layOutUpToZeros_72 (by decide) ?_
                have ej2 : z43 = j + 1 := by omega
                rcases hqv30 with ⟨h1, h2, h3⟩ | ⟨V3, h1, h2, h3, h4, h5, h6⟩
                · skip
                  exact ih q42 z43 rw31 cR32 M33 V34 mn35 kd36 cs37 tg38 op39 sz40 ct41 V2 _ _ _ _ _ (by omega) (by omega) (by omega) (Or.inl ⟨h2, by rw [hgW]; exact loopZ_no (by omega) (by omega) (by omega) h1, h3⟩) (by omega) (by omega) (hK.sub [0, 1] rfl) (hP.sub [0, 1, 2, 3, 4] rfl) (hD.sub [0, 1, 2, 3, 4] (by decide) rfl) hS (lv_sub hl [2, 3, 4, 5, 6, 1, 0] rfl)
                · skip
                  exact ih q42 z43 rw31 cR32 M33 V34 mn35 kd36 cs37 tg38 op39 sz40 ct41 V3 _ _ _ _ _ (by omega) (by omega) (by omega) (Or.inr ⟨by omega, by omega, by rw [hgW, ej2]; exact loopZ_go (by omega) (by omega) (by omega) h1, h2, h3, by omega⟩) (by omega) (by omega) (hK.sub [0, 1] rfl) (hP.sub [0, 1, 2, 3, 4] rfl) (hD.sub [0, 1, 2, 3, 4] (by decide) rfl) hS (lv_sub hl [2, 3, 4, 5, 6, 1, 0] rfl)
              · skip
                refine lv_iload hx hb dX2_layOutUpToZeros_54 (lv_at hl 5 rfl) ?_
                obtain ⟨hg1, hg2, hgW, hgE, hgN, hgm⟩ := hI.resolve_left (fun h => absurd h.1 (by omega))
                subst hQ9
                have hP9 := hP.sub (ws' := [(nd, .inr (2, [.ref b, .ref h, .ref rw1, .int (iI mn1), .int (iI sx)])), (rw1, .inl (cR1, M1, .inl (fun j => iI (V1 j)))), (h, .inr (1, [.int (iI kd9), .int (iI cs9), .int (iI tg9), .int (iI op9), .int (iI sz19), .int (iI ct9)])), (b, .inr (0, [.ref r, .int (iI z)])), (r, .inl (cA, w, .inl (fun j => bI (t j))))]) [0, 1, 2, 3, 4] rfl
                have hD9 := hD.sub (ws' := [(nd, .inr (2, [.ref b, .ref h, .ref rw1, .int (iI mn1), .int (iI sx)])), (rw1, .inl (cR1, M1, .inl (fun j => iI (V1 j)))), (h, .inr (1, [.int (iI kd9), .int (iI cs9), .int (iI tg9), .int (iI op9), .int (iI sz19), .int (iI ct9)])), (b, .inr (0, [.ref r, .int (iI z)])), (r, .inl (cA, w, .inl (fun j => bI (t j))))]) [0, 1, 2, 3, 4] (by decide) rfl
                have hK9 := hK.sub (tys' := [(cR1, .int), (cA, .byte)]) [0, 1] rfl
                exact mv_iret hx hb hr hlocks (fun tS ht hW => ⟨⟨_, (rw1, cR1, M1, V1, mn1, kd9, cs9, tg9, op9, sz19, ct9, a), rfl, ⟨rfl, Or.inr ⟨V2, by rw [hgW]; exact loopZ_y (by omega) (by omega) (by omega), hgE, hgN, hgm, by omega, by omega⟩, by omega, by omega, by omega⟩, by rw [ht]; exact hP9, va_K.moved hW.alike hK9, hD9⟩, hS.F ht⟩) hS.2.2 dX2_layOutUpToZeros_56
  refine lv_iload_n hx hb dX2_layOutUpToZeros_0 rfl (lv_at hl 1 rfl) ?_
  refine lv_istore (lv' := [(5, .int (iI i)), (0, .ref nd), (1, .int (iI i)), (2, .int (iI x)), (3, .int (iI pr)), (4, .int (iI dp))]) hx hb dX2_layOutUpToZeros_1 hl (by decide) rfl (fun ls hl => ?_)
  refine lv_iconst (v := iI 0) hx hb dX2_layOutUpToZeros_3 rfl ?_
  refine lv_istore (lv' := [(6, .int (iI 0)), (5, .int (iI i)), (0, .ref nd), (1, .int (iI i)), (2, .int (iI x)), (3, .int (iI pr)), (4, .int (iI dp))]) hx hb dX2_layOutUpToZeros_4 hl (by decide) rfl (fun ls hl => ?_)
  exact LP (5000) i 0 rw cR M V mn kd cs tg op sz1 ct Vs _ _ _ _ _ (by omega) (by omega) (by omega) (Or.inr ⟨by omega, by omega, by rw [Int.sub_zero]; rfl, hVs, hoN, by omega⟩) (by omega) (by omega) (hK.sub [0, 1] rfl) (hP.sub [0, 1, 2, 3, 4] rfl) (hD.sub [0, 1, 2, 3, 4] (by decide) rfl) hS (lv_sub hl [2, 3, 4, 5, 6, 1, 0] rfl)
set_option maxHeartbeats 4000000 in
set_option maxRecDepth 100000 in
theorem CV_s (l : Launch) (dC : Nat → ClassId) (dI : Nat → Nat → Nat) (d : Nat) (hCU : CU l dC dI d) (hCZ : CZ l dC dI d) : CV l dC dI (d + 1) := by
  intro sz nd b h rw mn sx cR M V kd cs tg op sz1 ct r cA w t z L Vs i x pr dp hoN hVs hok hsx hi hpr hdp
  refine mv_ofW (cc := cX2_layOutValue) (maxL := 8) (ret := (some .int)) (by decide) rfl ?_
  intro p e s m args below meth c s₁ B hml hv
  obtain ⟨rfl, hsz, hP, hK, hD0, hN⟩ := hv
  have hx := B.exec
  have hb := B.bytes
  have hr := B.returns
  have hT : ∀ w ∈ wT, w.before _ s = true := fun w h => atoms_spec (ws := wsX2_layOutValue) B.pre w (List.mem_cons_of_mem _ h)
  have hown : s.vm.findClass RX2 = some m.cls := findClass_of_methodNamed B.named
  have hlocks := B.notSynchronized
  subst hsz
  have hD := hD0.self (sz := s.heap.size)
  generalize hAe : va_A [(nd, .inr (2, [.ref b, .ref h, .ref rw, .int (iI mn), .int (iI sx)])), (rw, .inl (cR, M, .inl (fun j => iI (V j)))), (h, .inr (1, [.int (iI kd), .int (iI cs), .int (iI tg), .int (iI op), .int (iI sz1), .int (iI ct)])), (b, .inr (0, [.ref r, .int (iI z)])), (r, .inl (cA, w, .inl (fun j => bI (t j))))] s.heap.size = A at hD ⊢
  have hA : ∀ q : Nat, s.heap.size ≤ q → A q := fun q h => by rw [← hAe]; exact Or.inr h
  have hS : va_S A s.heap s.heap [] := va_S.rf
  have hP : va_P (dC, dI) vwCl [(nd, .inr (2, [.ref b, .ref h, .ref rw, .int (iI mn), .int (iI sx)])), (rw, .inl (cR, M, .inl (fun j => iI (V j)))), (h, .inr (1, [.int (iI kd), .int (iI cs), .int (iI tg), .int (iI op), .int (iI sz1), .int (iI ct)])), (b, .inr (0, [.ref r, .int (iI z)])), (r, .inl (cA, w, .inl (fun j => bI (t j))))] s.heap := hP
  have hl := lv_entry ([.ref nd, .int (iI i), .int (iI x), .int (iI pr), .int (iI dp)]) (n := 8) (Nat.le_of_ble_eq_true rfl)
  rw [lg_entry_eq]
  generalize (lg_sl ([.ref nd, .int (iI i), .int (iI x), .int (iI pr), .int (iI dp)]) ++ List.replicate (8 - (lg_sl ([.ref nd, .int (iI i), .int (iI x), .int (iI pr), .int (iI dp)])).length) Slot.unset).toArray = ls at hl ⊢
  have hl : lv_has ls 8 [(0, .ref nd), (1, .int (iI i)), (2, .int (iI x)), (3, .int (iI pr)), (4, .int (iI dp))] := hl
  obtain ⟨hn1, hn2, hn3, hn4, hn5, hn6, hn7⟩ := id hoN
  obtain ⟨hw1, hw2, hw3, hw4, hw5, hw6⟩ := id hok
  have hg8 := gd_rng hok
  refine lv_iload hx hb dX2_layOutValue_0 (lv_at hl 4 rfl) ?_
  refine lv_bipush (v := iI 40) hx hb dX2_layOutValue_2 (by decide +kernel) ?_
  refine li_icmp_gt (tgt := 37) hx hb (by omega) (by omega) dX2_layOutValue_4 (by decide) (fun c1 => absurd c1 (by omega)) (fun c1 => ?_)
  refine lv_aload_n hx hb dX2_layOutValue_7 rfl (lv_at hl 0 rfl) ?_
  refine va_get (D := (dC, dI)) (ci := 2) (v := .int (iI mn)) (C := RX2) (T := TX2) (N := 5) hx hb hT inX2 hown hK hP 0 rfl rfl 3 (by decide) (hT _ wd106) (fun _ h9 => h9) rfl dX2_layOutValue_8 ?_
  refine lv_sipush (v := iI 2048) hx hb dX2_layOutValue_11 (by decide +kernel) ?_
  refine li_icmp_ge (tgt := 37) hx hb (by omega) (by omega) dX2_layOutValue_14 (by decide) (fun c2 => ?_) (fun c2 => ?_)
  · skip
    refine lv_iconst (v := iI (-1)) hx hb dX2_layOutValue_37 rfl ?_
    have hP9 := hP.sub (ws' := [(nd, .inr (2, [.ref b, .ref h, .ref rw, .int (iI mn), .int (iI sx)])), (rw, .inl (cR, M, .inl (fun j => iI (V j)))), (h, .inr (1, [.int (iI kd), .int (iI cs), .int (iI tg), .int (iI op), .int (iI sz1), .int (iI ct)])), (b, .inr (0, [.ref r, .int (iI z)])), (r, .inl (cA, w, .inl (fun j => bI (t j))))]) [0, 1, 2, 3, 4] rfl
    have hD9 := hD.sub (ws' := [(nd, .inr (2, [.ref b, .ref h, .ref rw, .int (iI mn), .int (iI sx)])), (rw, .inl (cR, M, .inl (fun j => iI (V j)))), (h, .inr (1, [.int (iI kd), .int (iI cs), .int (iI tg), .int (iI op), .int (iI sz1), .int (iI ct)])), (b, .inr (0, [.ref r, .int (iI z)])), (r, .inl (cA, w, .inl (fun j => bI (t j))))]) [0, 1, 2, 3, 4] (by decide) rfl
    have hK9 := hK.sub (tys' := [(cR, .int), (cA, .byte)]) [0, 1] rfl
    exact mv_iret hx hb hr hlocks (fun tS ht hW => ⟨⟨_, (rw, cR, M, V, mn, kd, cs, tg, op, sz1, ct, (-1)), rfl, ⟨rfl, Or.inl ⟨layV_n (by omega), rfl, okN_m hoN⟩, by omega, by omega, by omega⟩, by rw [ht]; exact hP9, va_K.moved hW.alike hK9, hD9⟩, hS.F ht⟩) hS.2.2 dX2_layOutValue_38
  · skip
    refine lv_aload_n hx hb dX2_layOutValue_17 rfl (lv_at hl 0 rfl) ?_
    refine va_get (D := (dC, dI)) (ci := 2) (v := .ref h) (C := RX2) (T := TX2) (N := 5) hx hb hT inX2 hown hK hP 0 rfl rfl 1 (by decide) (hT _ wd104) (fun _ h9 => h9) rfl dX2_layOutValue_18 ?_
    refine lv_aload_n hx hb dX2_layOutValue_21 rfl (lv_at hl 0 rfl) ?_
    refine va_get (D := (dC, dI)) (ci := 2) (v := .ref b) (C := RX2) (T := TX2) (N := 5) hx hb hT inX2 hown hK hP 0 rfl rfl 0 (by decide) (hT _ wd103) (fun _ h9 => h9) rfl dX2_layOutValue_22 ?_
    refine lv_iload_n hx hb dX2_layOutValue_25 rfl (lv_at hl 1 rfl) ?_
    refine lv_iload_n hx hb dX2_layOutValue_26 rfl (lv_at hl 2 rfl) ?_
    refine lv_aload_n hx hb dX2_layOutValue_27 rfl (lv_at hl 0 rfl) ?_
    refine va_get (D := (dC, dI)) (ci := 2) (v := .int (iI sx)) (C := RX2) (T := TX2) (N := 5) hx hb hT inX2 hown hK hP 0 rfl rfl 4 (by decide) (hT _ wd107) (fun _ h9 => h9) rfl dX2_layOutValue_28 ?_
    have hPc := hP.sub (ws' := [(h, .inr (1, [.int (iI kd), .int (iI cs), .int (iI tg), .int (iI op), .int (iI sz1), .int (iI ct)])), (b, .inr (0, [.ref r, .int (iI z)])), (r, .inl (cA, w, .inl (fun j => bI (t j))))]) [2, 3, 4] rfl
    have hDc := hD.sub (ws' := [(h, .inr (1, [.int (iI kd), .int (iI cs), .int (iI tg), .int (iI op), .int (iI sz1), .int (iI ct)])), (b, .inr (0, [.ref r, .int (iI z)])), (r, .inl (cA, w, .inl (fun j => bI (t j))))]) [2, 3, 4] (by decide) rfl
    have hKc := hK.sub (tys' := [(cA, .byte)]) [1] rfl
    have hFc := va_free (wc := [(h, .inr (1, [.int (iI kd), .int (iI cs), .int (iI tg), .int (iI op), .int (iI sz1), .int (iI ct)])), (b, .inr (0, [.ref r, .int (iI z)])), (r, .inl (cA, w, .inl (fun j => bI (t j))))]) hD hS hA [2, 3, 4] rfl
    refine mv_call (mv_runV (As := [.ref b, .int (iI i), .int (iI x), .int (iI sx)]) (rest := []) ⟨hx, hb, hml, hown, hT⟩ (c_H_hdr l dC dI s.heap.size h kd cs tg op sz1 ct b r cA w t z L i x sx (hok) (by omega) (by omega) (by omega)) (cwV 4 hT (gV wd313 wd314 wd315 wd29 wd316) rfl rfl rfl (by decide +kernel) ⟨show 3 + 1 ≤ (2 * (d + 1) + 5) from by omega, show 8 + (7 + 11) + 100 ≤ (53 * (d + 1) + 200) from by omega⟩) ⟨fun a U g mk q => by obtain ⟨q0, q1, qP, qK, qD⟩ := q; exact ⟨q0, q1, qP, va_K.moved (u := U) (U := U.calling g mk a) (Vm.Alike.refl U.vm) qK, qD⟩, va_recv hKc hPc (ci := 1) (q0 := 0) rfl rfl, fun U hU hW => ⟨rfl, by rw [hU], by rw [hU]; exact hPc, va_K.moved hW.alike hKc, hDc.weaken (fun _ _ _ _ => trivial)⟩⟩ rfl rfl hl.1 rfl (lv_room (Nat.le_of_ble_eq_true rfl)) dX2_layOutValue_31 ⟨show 0 + 0 ≤ (phR M) from by omega, show 0 + 0 ≤ (phR M) from by omega⟩) hS (fun q _ h => hFc q h) hFc (fun v5 u k3 n4 tS H1 locs ht hvm hw hB hz1 hk1 hS => ?_)
    obtain ⟨kd6, cs7, tg8, op9, sz10, ct11, q12⟩ := u
    obtain ⟨hP1, hK1, hD1⟩ := hB
    rw [ht] at hP1
    have hK1 := va_K.moved hvm.symm hK1
    try dsimp only at hw
    obtain ⟨hP, hD⟩ := va_join (wr := [(nd, .inr (2, [.ref b, .ref h, .ref rw, .int (iI mn), .int (iI sx)])), (rw, .inl (cR, M, .inl (fun j => iI (V j))))]) (w1 := [(h, .inr (1, [.int (iI kd6), .int (iI cs7), .int (iI tg8), .int (iI op9), .int (iI sz10), .int (iI ct11)])), (b, .inr (0, [.ref r, .int (iI z)])), (r, .inl (cA, w, .inl (fun j => bI (t j))))]) hP hD [2, 3, 4] [0, 1] rfl rfl (by decide) (by decide) hk1 hFc hP1 hD1
    have hK := (hK.sub (tys' := [(cR, .int)]) [0] rfl).app hK1
    generalize H1 = H at hP hS ⊢
    have hP : va_P (dC, dI) vwCl [(nd, .inr (2, [.ref b, .ref h, .ref rw, .int (iI mn), .int (iI sx)])), (rw, .inl (cR, M, .inl (fun j => iI (V j)))), (h, .inr (1, [.int (iI kd6), .int (iI cs7), .int (iI tg8), .int (iI op9), .int (iI sz10), .int (iI ct11)])), (b, .inr (0, [.ref r, .int (iI z)])), (r, .inl (cA, w, .inl (fun j => bI (t j))))] H := hP
    have hD : va_D A [(nd, .inr (2, [.ref b, .ref h, .ref rw, .int (iI mn), .int (iI sx)])), (rw, .inl (cR, M, .inl (fun j => iI (V j)))), (h, .inr (1, [.int (iI kd6), .int (iI cs7), .int (iI tg8), .int (iI op9), .int (iI sz10), .int (iI ct11)])), (b, .inr (0, [.ref r, .int (iI z)])), (r, .inl (cA, w, .inl (fun j => bI (t j))))] := hD
    have hK : va_K (dC, dI) vwCl [(cR, .int), (cA, .byte)] s := hK
    obtain ⟨rfl, hqv5, rfl, rfl⟩ := hw
    refine W.eq (g2 := F0 m 34 ls [.int (iI q12)]) rfl ?_
    refine li_if_ne (tgt := 39) hx hb (by omega) dX2_layOutValue_34 (by decide) (fun c13 => ?_) (fun c13 => ?_)
    · skip
      refine lv_aload_n hx hb dX2_layOutValue_39 rfl (lv_at hl 0 rfl) ?_
      refine lv_iload_n hx hb dX2_layOutValue_40 rfl (lv_at hl 1 rfl) ?_
      refine lv_iload_n hx hb dX2_layOutValue_41 rfl (lv_at hl 3 rfl) ?_
      obtain ⟨hh, hh1, hh2, hh3, hh4, hh5, hh6, hh7⟩ := hqv5.resolve_left (fun h => absurd h.2 (by omega))
      have hPc := hP.sub (ws' := [(nd, .inr (2, [.ref b, .ref h, .ref rw, .int (iI mn), .int (iI sx)])), (rw, .inl (cR, M, .inl (fun j => iI (V j)))), (h, .inr (1, [.int (iI kd6), .int (iI cs7), .int (iI tg8), .int (iI op9), .int (iI sz10), .int (iI ct11)]))]) [0, 1, 2] rfl
      have hDc := hD.sub (ws' := [(nd, .inr (2, [.ref b, .ref h, .ref rw, .int (iI mn), .int (iI sx)])), (rw, .inl (cR, M, .inl (fun j => iI (V j)))), (h, .inr (1, [.int (iI kd6), .int (iI cs7), .int (iI tg8), .int (iI op9), .int (iI sz10), .int (iI ct11)]))]) [0, 1, 2] (by decide) rfl
      have hKc := hK.sub (tys' := [(cR, .int)]) [0] rfl
      have hFc := va_free (wc := [(nd, .inr (2, [.ref b, .ref h, .ref rw, .int (iI mn), .int (iI sx)])), (rw, .inl (cR, M, .inl (fun j => iI (V j)))), (h, .inr (1, [.int (iI kd6), .int (iI cs7), .int (iI tg8), .int (iI op9), .int (iI sz10), .int (iI ct11)]))]) hD hS hA [0, 1, 2] rfl
      refine mv_call (mv_runV (As := [.int (iI i), .int (iI pr)]) (rest := []) ⟨hx, hb, hml, hown, hT⟩ (c_N_ent l dC dI H.size nd b h rw mn sx cR M V kd6 cs7 tg8 op9 sz10 ct11 i pr (hoN) (by omega) (by omega) (by omega) (by omega)) (cwV 2 hT (gV wd336 wd338 wd8 wd28 wd339) rfl rfl rfl (by decide +kernel) ⟨show 3 + 1 ≤ (2 * (d + 1) + 5) from by omega, show 8 + (4 + 11) + 130 ≤ (53 * (d + 1) + 200) from by omega⟩) ⟨fun a U g mk q => by obtain ⟨q0, q1, qP, qK, qD, qN⟩ := q; exact ⟨q0, q1, qP, va_K.moved (u := U) (U := U.calling g mk a) (Vm.Alike.refl U.vm) qK, qD, nsW_same rfl qN⟩, va_recv hKc hPc (ci := 2) (q0 := 0) rfl rfl, fun U hU hW => ⟨rfl, by rw [hU], by rw [hU]; exact hPc, va_K.moved hW.alike hKc, hDc.weaken (fun _ _ _ _ => trivial), nsW_warm hW hN⟩⟩ rfl rfl hl.1 rfl (lv_room (Nat.le_of_ble_eq_true rfl)) dX2_layOutValue_42 ⟨show 0 + 0 + (phR M) ≤ (phR M) from by omega, show 0 + 0 + (phR M) ≤ (phR M) from by omega⟩) hS (fun q _ h => hFc q h) hFc (fun v16 u k14 n15 tS H1 locs ht hvm hw hB hz1 hk1 hS => ?_)
      obtain ⟨rw17, cR18, M19, V20⟩ := u
      obtain ⟨hP1, hK1, hD1⟩ := hB
      rw [ht] at hP1
      have hK1 := va_K.moved hvm.symm hK1
      try dsimp only at hw
      obtain ⟨hP, hD⟩ := va_join (wr := [(b, .inr (0, [.ref r, .int (iI z)])), (r, .inl (cA, w, .inl (fun j => bI (t j))))]) (w1 := [(nd, .inr (2, [.ref b, .ref h, .ref rw17, .int (iI (mn + 1)), .int (iI sx)])), (rw17, .inl (cR18, M19, .inl (fun j => iI (V20 j)))), (h, .inr (1, [.int (iI kd6), .int (iI cs7), .int (iI tg8), .int (iI op9), .int (iI sz10), .int (iI ct11)]))]) hP hD [0, 1, 2] [3, 4] rfl rfl (by decide) (by decide) hk1 hFc hP1 hD1
      have hK := (hK.sub (tys' := [(cA, .byte)]) [1] rfl).app hK1
      generalize H1 = H at hP hS ⊢
      have hP : va_P (dC, dI) vwCl [(b, .inr (0, [.ref r, .int (iI z)])), (r, .inl (cA, w, .inl (fun j => bI (t j)))), (nd, .inr (2, [.ref b, .ref h, .ref rw17, .int (iI (mn + 1)), .int (iI sx)])), (rw17, .inl (cR18, M19, .inl (fun j => iI (V20 j)))), (h, .inr (1, [.int (iI kd6), .int (iI cs7), .int (iI tg8), .int (iI op9), .int (iI sz10), .int (iI ct11)]))] H := hP
      have hD : va_D A [(b, .inr (0, [.ref r, .int (iI z)])), (r, .inl (cA, w, .inl (fun j => bI (t j)))), (nd, .inr (2, [.ref b, .ref h, .ref rw17, .int (iI (mn + 1)), .int (iI sx)])), (rw17, .inl (cR18, M19, .inl (fun j => iI (V20 j)))), (h, .inr (1, [.int (iI kd6), .int (iI cs7), .int (iI tg8), .int (iI op9), .int (iI sz10), .int (iI ct11)]))] := hD
      have hK : va_K (dC, dI) vwCl [(cA, .byte), (cR18, .int)] s := hK
      obtain ⟨rfl, hoNv16, hev16, hFv16, hGv16⟩ := hw
      refine W.eq (g2 := F0 m 45 ls [.int (iI mn)]) rfl ?_
      refine lv_istore (lv' := [(5, .int (iI mn)), (0, .ref nd), (1, .int (iI i)), (2, .int (iI x)), (3, .int (iI pr)), (4, .int (iI dp))]) hx hb dX2_layOutValue_45 hl (by decide) rfl (fun ls hl => ?_)
      refine lv_aload_n hx hb dX2_layOutValue_47 rfl (lv_at hl 1 rfl) ?_
      refine va_get (D := (dC, dI)) (ci := 2) (v := .ref h) (C := RX2) (T := TX2) (N := 5) hx hb hT inX2 hown hK hP 2 rfl rfl 1 (by decide) (hT _ wd104) (fun _ h9 => h9) rfl dX2_layOutValue_48 ?_
      refine va_getN (D := (dC, dI)) (ci := 1) (v := .int (iI ct11)) (C := RX1) (T := TX1) (N := 6) hx hb hT inX1 hown hK hP 4 rfl rfl 5 (by decide) (va_Nw.use rfl hN.2.2.2.2.2) (fun _ h9 => h9) rfl dX2_layOutValue_51 ?_
      refine lv_istore (lv' := [(6, .int (iI ct11)), (5, .int (iI mn)), (0, .ref nd), (1, .int (iI i)), (2, .int (iI x)), (3, .int (iI pr)), (4, .int (iI dp))]) hx hb dX2_layOutValue_54 hl (by decide) rfl (fun ls hl => ?_)
      refine lv_aload_n hx hb dX2_layOutValue_56 rfl (lv_at hl 2 rfl) ?_
      refine va_get (D := (dC, dI)) (ci := 2) (v := .ref h) (C := RX2) (T := TX2) (N := 5) hx hb hT inX2 hown hK hP 2 rfl rfl 1 (by decide) (hT _ wd104) (fun _ h9 => h9) rfl dX2_layOutValue_57 ?_
      refine va_getN (D := (dC, dI)) (ci := 1) (v := .int (iI op9)) (C := RX1) (T := TX1) (N := 6) hx hb hT inX1 hown hK hP 4 rfl rfl 3 (by decide) (va_Nw.use rfl hN.2.2.2.1) (fun _ h9 => h9) rfl dX2_layOutValue_60 ?_
      refine li_if_eq (tgt := 106) hx hb (by omega) dX2_layOutValue_63 (by decide) (fun c21 => ?_) (fun c21 => ?_)
      · skip
        refine lv_iload hx hb dX2_layOutValue_106 (lv_at hl 0 rfl) ?_
        refine lv_aload_n hx hb dX2_layOutValue_108 rfl (lv_at hl 2 rfl) ?_
        refine va_get (D := (dC, dI)) (ci := 2) (v := .ref h) (C := RX2) (T := TX2) (N := 5) hx hb hT inX2 hown hK hP 2 rfl rfl 1 (by decide) (hT _ wd104) (fun _ h9 => h9) rfl dX2_layOutValue_109 ?_
        refine va_getN (D := (dC, dI)) (ci := 1) (v := .int (iI sz10)) (C := RX1) (T := TX1) (N := 6) hx hb hT inX1 hown hK hP 4 rfl rfl 4 (by decide) (va_Nw.use rfl hN.2.2.2.2.1) (fun _ h9 => h9) rfl dX2_layOutValue_112 ?_
        refine li_iadd hx hb dX2_layOutValue_115 ?_
        refine li_nm (fun z22 ez22 => ?_)
        refine lv_istore (lv' := [(7, .int (iI z22)), (6, .int (iI ct11)), (5, .int (iI mn)), (0, .ref nd), (1, .int (iI i)), (2, .int (iI x)), (3, .int (iI pr)), (4, .int (iI dp))]) hx hb dX2_layOutValue_116 hl (by decide) rfl (fun ls hl => ?_)
        refine lv_aload_n hx hb dX2_layOutValue_118 rfl (lv_at hl 3 rfl) ?_
        refine va_get (D := (dC, dI)) (ci := 2) (v := .ref h) (C := RX2) (T := TX2) (N := 5) hx hb hT inX2 hown hK hP 2 rfl rfl 1 (by decide) (hT _ wd104) (fun _ h9 => h9) rfl dX2_layOutValue_119 ?_
        refine va_getN (D := (dC, dI)) (ci := 1) (v := .int (iI cs7)) (C := RX1) (T := TX1) (N := 6) hx hb hT inX1 hown hK hP 4 rfl rfl 1 (by decide) (va_Nw.use rfl hN.2.1) (fun _ h9 => h9) rfl dX2_layOutValue_122 ?_
        refine li_if_eq (tgt := 147) hx hb (by omega) dX2_layOutValue_125 (by decide) (fun c23 => ?_) (fun c23 => ?_)
        · skip
          refine lv_iload hx hb dX2_layOutValue_147 (lv_at hl 0 rfl) ?_
          have eop : op9 = 0 := by omega
          rw [eop] at hh
          have ecs : cs7 = 0 := by omega
          rw [ecs] at hh
          have hE2 : eqN V20 (entV Vs mn kd6 tg8 0 i ct11 sz10 pr) (mn + 1) := fun j hj => by rw [hev16 j hj, ecs]; exact entV_cg hn3 (by omega) hVs j hj
          have hP9 := hP.sub (ws' := [(nd, .inr (2, [.ref b, .ref h, .ref rw17, .int (iI (mn + 1)), .int (iI sx)])), (rw17, .inl (cR18, M19, .inl (fun j => iI (V20 j)))), (h, .inr (1, [.int (iI kd6), .int (iI cs7), .int (iI tg8), .int (iI op9), .int (iI sz10), .int (iI ct11)])), (b, .inr (0, [.ref r, .int (iI z)])), (r, .inl (cA, w, .inl (fun j => bI (t j))))]) [2, 3, 4, 0, 1] rfl
          have hD9 := hD.sub (ws' := [(nd, .inr (2, [.ref b, .ref h, .ref rw17, .int (iI (mn + 1)), .int (iI sx)])), (rw17, .inl (cR18, M19, .inl (fun j => iI (V20 j)))), (h, .inr (1, [.int (iI kd6), .int (iI cs7), .int (iI tg8), .int (iI op9), .int (iI sz10), .int (iI ct11)])), (b, .inr (0, [.ref r, .int (iI z)])), (r, .inl (cA, w, .inl (fun j => bI (t j))))]) [2, 3, 4, 0, 1] (by decide) rfl
          have hK9 := hK.sub (tys' := [(cR18, .int), (cA, .byte)]) [1, 0] rfl
          exact mv_iret hx hb hr hlocks (fun tS ht hW => ⟨⟨_, (rw17, cR18, M19, V20, (mn + 1), kd6, cs7, tg8, op9, sz10, ct11, z22), rfl, ⟨rfl, Or.inr ⟨_, by rw [ez22]; exact layV_p (by omega) hh, hE2, hoNv16, by omega, by omega, by omega⟩, by omega, by omega, by omega⟩, by rw [ht]; exact hP9, va_K.moved hW.alike hK9, hD9⟩, hS.F ht⟩) hS.2.2 dX2_layOutValue_149
        · skip
          refine lv_aload_n hx hb dX2_layOutValue_128 rfl (lv_at hl 3 rfl) ?_
          refine lv_iload hx hb dX2_layOutValue_129 (lv_at hl 1 rfl) ?_
          refine lv_iload hx hb dX2_layOutValue_131 (lv_at hl 0 rfl) ?_
          refine lv_iload hx hb dX2_layOutValue_133 (lv_at hl 2 rfl) ?_
          refine lv_iload hx hb dX2_layOutValue_135 (lv_at hl 7 rfl) ?_
          refine lv_iconst (v := iI 1) hx hb dX2_layOutValue_137 rfl ?_
          refine li_iadd hx hb dX2_layOutValue_138 ?_
          have hE2 : eqN V20 (entV Vs mn kd6 tg8 cs7 i ct11 sz10 pr) (mn + 1) := fun j hj => (hev16 j hj).trans (entV_cg hn3 (by omega) hVs j hj)
          obtain ⟨o1, o2, o3, o4, o5, o6, o7⟩ := id hoNv16
          have hPc := hP.sub (ws' := [(nd, .inr (2, [.ref b, .ref h, .ref rw17, .int (iI (mn + 1)), .int (iI sx)])), (rw17, .inl (cR18, M19, .inl (fun j => iI (V20 j)))), (h, .inr (1, [.int (iI kd6), .int (iI cs7), .int (iI tg8), .int (iI op9), .int (iI sz10), .int (iI ct11)])), (b, .inr (0, [.ref r, .int (iI z)])), (r, .inl (cA, w, .inl (fun j => bI (t j))))]) [2, 3, 4, 0, 1] rfl
          have hDc := hD.sub (ws' := [(nd, .inr (2, [.ref b, .ref h, .ref rw17, .int (iI (mn + 1)), .int (iI sx)])), (rw17, .inl (cR18, M19, .inl (fun j => iI (V20 j)))), (h, .inr (1, [.int (iI kd6), .int (iI cs7), .int (iI tg8), .int (iI op9), .int (iI sz10), .int (iI ct11)])), (b, .inr (0, [.ref r, .int (iI z)])), (r, .inl (cA, w, .inl (fun j => bI (t j))))]) [2, 3, 4, 0, 1] (by decide) rfl
          have hKc := hK.sub (tys' := [(cR18, .int), (cA, .byte)]) [1, 0] rfl
          have hFc := va_free (wc := [(nd, .inr (2, [.ref b, .ref h, .ref rw17, .int (iI (mn + 1)), .int (iI sx)])), (rw17, .inl (cR18, M19, .inl (fun j => iI (V20 j)))), (h, .inr (1, [.int (iI kd6), .int (iI cs7), .int (iI tg8), .int (iI op9), .int (iI sz10), .int (iI ct11)])), (b, .inr (0, [.ref r, .int (iI z)])), (r, .inl (cA, w, .inl (fun j => bI (t j))))]) hD hS hA [2, 3, 4, 0, 1] rfl
          refine mv_call (mv_runV (As := [.int (iI ct11), .int (iI z22), .int (iI mn), .int (iI (dp + 1))]) (rest := []) ⟨hx, hb, hml, hown, hT⟩ (hCU H.size nd b h rw17 (mn + 1) sx cR18 M19 V20 kd6 cs7 tg8 op9 sz10 ct11 r cA w t z L (entV Vs mn kd6 tg8 cs7 i ct11 sz10 pr) ct11 z22 mn (dp + 1) (hoNv16) (hE2) (hok) (hsx) (by omega) (by omega) (by omega)) (cwV 4 hT (gV wd370 wd372 wd12 wd28 wd373) rfl rfl rfl (by decide +kernel) ⟨show (2 * d + 6) + 1 ≤ (2 * (d + 1) + 5) from by omega, show 8 + (7 + 11) + (53 * d + 227) ≤ (53 * (d + 1) + 200) from by omega⟩) ⟨fun a U g mk q => by obtain ⟨q0, q1, qP, qK, qD, qN⟩ := q; exact ⟨q0, q1, qP, va_K.moved (u := U) (U := U.calling g mk a) (Vm.Alike.refl U.vm) qK, qD, nsW_same rfl qN⟩, va_recv hKc hPc (ci := 2) (q0 := 0) rfl rfl, fun U hU hW => ⟨rfl, by rw [hU], by rw [hU]; exact hPc, va_K.moved hW.alike hKc, hDc.weaken (fun _ _ _ _ => trivial), nsW_warm hW hN⟩⟩ rfl rfl hl.1 rfl (lv_room (Nat.le_of_ble_eq_true rfl)) dX2_layOutValue_139 ⟨show 0 + 0 + k14 + (phR M19) ≤ (phR M) from by omega, show 0 + 0 + n15 + (phR M19) ≤ (phR M) from by omega⟩) hS (fun q _ h => hFc q h) hFc (fun v26 u k24 n25 tS H1 locs ht hvm hw hB hz1 hk1 hS => ?_)
          obtain ⟨rw27, cR28, M29, V30, mn31, kd32, cs33, tg34, op35, sz36, ct37, q38⟩ := u
          obtain ⟨hP1, hK1, hD1⟩ := hB
          rw [ht] at hP1
          have hK1 := va_K.moved hvm.symm hK1
          try dsimp only at hw
          obtain ⟨hP, hD⟩ := va_join (wr := []) (w1 := [(nd, .inr (2, [.ref b, .ref h, .ref rw27, .int (iI mn31), .int (iI sx)])), (rw27, .inl (cR28, M29, .inl (fun j => iI (V30 j)))), (h, .inr (1, [.int (iI kd32), .int (iI cs33), .int (iI tg34), .int (iI op35), .int (iI sz36), .int (iI ct37)])), (b, .inr (0, [.ref r, .int (iI z)])), (r, .inl (cA, w, .inl (fun j => bI (t j))))]) hP hD [2, 3, 4, 0, 1] [] rfl rfl (by decide) (by decide) hk1 hFc hP1 hD1
          have hK := (hK.sub (tys' := []) [] rfl).app hK1
          generalize H1 = H at hP hS ⊢
          have hP : va_P (dC, dI) vwCl [(nd, .inr (2, [.ref b, .ref h, .ref rw27, .int (iI mn31), .int (iI sx)])), (rw27, .inl (cR28, M29, .inl (fun j => iI (V30 j)))), (h, .inr (1, [.int (iI kd32), .int (iI cs33), .int (iI tg34), .int (iI op35), .int (iI sz36), .int (iI ct37)])), (b, .inr (0, [.ref r, .int (iI z)])), (r, .inl (cA, w, .inl (fun j => bI (t j))))] H := hP
          have hD : va_D A [(nd, .inr (2, [.ref b, .ref h, .ref rw27, .int (iI mn31), .int (iI sx)])), (rw27, .inl (cR28, M29, .inl (fun j => iI (V30 j)))), (h, .inr (1, [.int (iI kd32), .int (iI cs33), .int (iI tg34), .int (iI op35), .int (iI sz36), .int (iI ct37)])), (b, .inr (0, [.ref r, .int (iI z)])), (r, .inl (cA, w, .inl (fun j => bI (t j))))] := hD
          have hK : va_K (dC, dI) vwCl [(cR28, .int), (cA, .byte)] s := hK
          obtain ⟨rfl, hqv26, hrv26, hFv26, hGv26⟩ := hw
          refine W.eq (g2 := F0 m 142 ls [.int (iI q38)]) rfl ?_
          refine li_if_ne (tgt := 147) hx hb (by omega) dX2_layOutValue_142 (by decide) (fun c39 => ?_) (fun c39 => ?_)
          · skip
            refine lv_iload hx hb dX2_layOutValue_147 (lv_at hl 0 rfl) ?_
            have eop : op9 = 0 := by omega
            rw [eop] at hh
            have ecs : cs7 = 1 := by omega
            obtain ⟨W2, y1, y2, y3, y4, y5⟩ := hqv26.resolve_left (fun h => absurd h.2.1 (by omega))
            rw [ez22, ecs] at y1
            rw [ecs] at hh
            have hP9 := hP.sub (ws' := [(nd, .inr (2, [.ref b, .ref h, .ref rw27, .int (iI mn31), .int (iI sx)])), (rw27, .inl (cR28, M29, .inl (fun j => iI (V30 j)))), (h, .inr (1, [.int (iI kd32), .int (iI cs33), .int (iI tg34), .int (iI op35), .int (iI sz36), .int (iI ct37)])), (b, .inr (0, [.ref r, .int (iI z)])), (r, .inl (cA, w, .inl (fun j => bI (t j))))]) [0, 1, 2, 3, 4] rfl
            have hD9 := hD.sub (ws' := [(nd, .inr (2, [.ref b, .ref h, .ref rw27, .int (iI mn31), .int (iI sx)])), (rw27, .inl (cR28, M29, .inl (fun j => iI (V30 j)))), (h, .inr (1, [.int (iI kd32), .int (iI cs33), .int (iI tg34), .int (iI op35), .int (iI sz36), .int (iI ct37)])), (b, .inr (0, [.ref r, .int (iI z)])), (r, .inl (cA, w, .inl (fun j => bI (t j))))]) [0, 1, 2, 3, 4] (by decide) rfl
            have hK9 := hK.sub (tys' := [(cR28, .int), (cA, .byte)]) [0, 1] rfl
            exact mv_iret hx hb hr hlocks (fun tS ht hW => ⟨⟨_, (rw27, cR28, M29, V30, mn31, kd32, cs33, tg34, op35, sz36, ct37, z22), rfl, ⟨rfl, Or.inr ⟨W2, by rw [ez22]; exact layV_c1 (by omega) hh y1, y3, y4, by omega, by omega, by omega⟩, by omega, by omega, by omega⟩, by rw [ht]; exact hP9, va_K.moved hW.alike hK9, hD9⟩, hS.F ht⟩) hS.2.2 dX2_layOutValue_149
          · skip
            refine lv_iconst (v := iI (-1)) hx hb dX2_layOutValue_145 rfl ?_
            have eop : op9 = 0 := by omega
            rw [eop] at hh
            have ecs : cs7 = 1 := by omega
            obtain ⟨y1, y2, y3⟩ := hqv26.resolve_right (fun ⟨_, h⟩ => absurd h.2.1 (by omega))
            rw [ez22, ecs] at y1
            rw [ecs] at hh
            have hP9 := hP.sub (ws' := [(nd, .inr (2, [.ref b, .ref h, .ref rw27, .int (iI mn31), .int (iI sx)])), (rw27, .inl (cR28, M29, .inl (fun j => iI (V30 j)))), (h, .inr (1, [.int (iI kd32), .int (iI cs33), .int (iI tg34), .int (iI op35), .int (iI sz36), .int (iI ct37)])), (b, .inr (0, [.ref r, .int (iI z)])), (r, .inl (cA, w, .inl (fun j => bI (t j))))]) [0, 1, 2, 3, 4] rfl
            have hD9 := hD.sub (ws' := [(nd, .inr (2, [.ref b, .ref h, .ref rw27, .int (iI mn31), .int (iI sx)])), (rw27, .inl (cR28, M29, .inl (fun j => iI (V30 j)))), (h, .inr (1, [.int (iI kd32), .int (iI cs33), .int (iI tg34), .int (iI op35), .int (iI sz36), .int (iI ct37)])), (b, .inr (0, [.ref r, .int (iI z)])), (r, .inl (cA, w, .inl (fun j => bI (t j))))]) [0, 1, 2, 3, 4] (by decide) rfl
            have hK9 := hK.sub (tys' := [(cR28, .int), (cA, .byte)]) [0, 1] rfl
            exact mv_iret hx hb hr hlocks (fun tS ht hW => ⟨⟨_, (rw27, cR28, M29, V30, mn31, kd32, cs33, tg34, op35, sz36, ct37, (-1)), rfl, ⟨rfl, Or.inl ⟨layV_c0 (by omega) hh y1, rfl, y3⟩, by omega, by omega, by omega⟩, by rw [ht]; exact hP9, va_K.moved hW.alike hK9, hD9⟩, hS.F ht⟩) hS.2.2 dX2_layOutValue_146
      · skip
        refine lv_aload_n hx hb dX2_layOutValue_66 rfl (lv_at hl 2 rfl) ?_
        refine lv_iload hx hb dX2_layOutValue_67 (lv_at hl 0 rfl) ?_
        refine lv_iload_n hx hb dX2_layOutValue_69 rfl (lv_at hl 4 rfl) ?_
        refine lv_iload hx hb dX2_layOutValue_70 (lv_at hl 1 rfl) ?_
        refine lv_iload hx hb dX2_layOutValue_72 (lv_at hl 6 rfl) ?_
        refine lv_iconst (v := iI 1) hx hb dX2_layOutValue_74 rfl ?_
        refine li_iadd hx hb dX2_layOutValue_75 ?_
        have hE2 : eqN V20 (entV Vs mn kd6 tg8 cs7 i ct11 sz10 pr) (mn + 1) := fun j hj => (hev16 j hj).trans (entV_cg hn3 (by omega) hVs j hj)
        obtain ⟨o1, o2, o3, o4, o5, o6, o7⟩ := id hoNv16
        have hPc := hP.sub (ws' := [(nd, .inr (2, [.ref b, .ref h, .ref rw17, .int (iI (mn + 1)), .int (iI sx)])), (rw17, .inl (cR18, M19, .inl (fun j => iI (V20 j)))), (h, .inr (1, [.int (iI kd6), .int (iI cs7), .int (iI tg8), .int (iI op9), .int (iI sz10), .int (iI ct11)])), (b, .inr (0, [.ref r, .int (iI z)])), (r, .inl (cA, w, .inl (fun j => bI (t j))))]) [2, 3, 4, 0, 1] rfl
        have hDc := hD.sub (ws' := [(nd, .inr (2, [.ref b, .ref h, .ref rw17, .int (iI (mn + 1)), .int (iI sx)])), (rw17, .inl (cR18, M19, .inl (fun j => iI (V20 j)))), (h, .inr (1, [.int (iI kd6), .int (iI cs7), .int (iI tg8), .int (iI op9), .int (iI sz10), .int (iI ct11)])), (b, .inr (0, [.ref r, .int (iI z)])), (r, .inl (cA, w, .inl (fun j => bI (t j))))]) [2, 3, 4, 0, 1] (by decide) rfl
        have hKc := hK.sub (tys' := [(cR18, .int), (cA, .byte)]) [1, 0] rfl
        have hFc := va_free (wc := [(nd, .inr (2, [.ref b, .ref h, .ref rw17, .int (iI (mn + 1)), .int (iI sx)])), (rw17, .inl (cR18, M19, .inl (fun j => iI (V20 j)))), (h, .inr (1, [.int (iI kd6), .int (iI cs7), .int (iI tg8), .int (iI op9), .int (iI sz10), .int (iI ct11)])), (b, .inr (0, [.ref r, .int (iI z)])), (r, .inl (cA, w, .inl (fun j => bI (t j))))]) hD hS hA [2, 3, 4, 0, 1] rfl
        refine mv_call (mv_runV (As := [.int (iI ct11), .int (iI x), .int (iI mn), .int (iI (dp + 1))]) (rest := []) ⟨hx, hb, hml, hown, hT⟩ (hCZ H.size nd b h rw17 (mn + 1) sx cR18 M19 V20 kd6 cs7 tg8 op9 sz10 ct11 r cA w t z L (entV Vs mn kd6 tg8 cs7 i ct11 sz10 pr) ct11 x mn (dp + 1) (hoNv16) (hE2) (hok) (hsx) (by omega) (by omega) (by omega)) (cwV 4 hT (gV wd365 wd367 wd11 wd28 wd368) rfl rfl rfl (by decide +kernel) ⟨show (2 * d + 6) + 1 ≤ (2 * (d + 1) + 5) from by omega, show 8 + (7 + 11) + (53 * d + 227) ≤ (53 * (d + 1) + 200) from by omega⟩) ⟨fun a U g mk q => by obtain ⟨q0, q1, qP, qK, qD, qN⟩ := q; exact ⟨q0, q1, qP, va_K.moved (u := U) (U := U.calling g mk a) (Vm.Alike.refl U.vm) qK, qD, nsW_same rfl qN⟩, va_recv hKc hPc (ci := 2) (q0 := 0) rfl rfl, fun U hU hW => ⟨rfl, by rw [hU], by rw [hU]; exact hPc, va_K.moved hW.alike hKc, hDc.weaken (fun _ _ _ _ => trivial), nsW_warm hW hN⟩⟩ rfl rfl hl.1 rfl (lv_room (Nat.le_of_ble_eq_true rfl)) dX2_layOutValue_76 ⟨show 0 + 0 + k14 + (phR M19) ≤ (phR M) from by omega, show 0 + 0 + n15 + (phR M19) ≤ (phR M) from by omega⟩) hS (fun q _ h => hFc q h) hFc (fun v42 u k40 n41 tS H1 locs ht hvm hw hB hz1 hk1 hS => ?_)
        obtain ⟨rw43, cR44, M45, V46, mn47, kd48, cs49, tg50, op51, sz52, ct53, q54⟩ := u
        obtain ⟨hP1, hK1, hD1⟩ := hB
        rw [ht] at hP1
        have hK1 := va_K.moved hvm.symm hK1
        try dsimp only at hw
        obtain ⟨hP, hD⟩ := va_join (wr := []) (w1 := [(nd, .inr (2, [.ref b, .ref h, .ref rw43, .int (iI mn47), .int (iI sx)])), (rw43, .inl (cR44, M45, .inl (fun j => iI (V46 j)))), (h, .inr (1, [.int (iI kd48), .int (iI cs49), .int (iI tg50), .int (iI op51), .int (iI sz52), .int (iI ct53)])), (b, .inr (0, [.ref r, .int (iI z)])), (r, .inl (cA, w, .inl (fun j => bI (t j))))]) hP hD [2, 3, 4, 0, 1] [] rfl rfl (by decide) (by decide) hk1 hFc hP1 hD1
        have hK := (hK.sub (tys' := []) [] rfl).app hK1
        generalize H1 = H at hP hS ⊢
        have hP : va_P (dC, dI) vwCl [(nd, .inr (2, [.ref b, .ref h, .ref rw43, .int (iI mn47), .int (iI sx)])), (rw43, .inl (cR44, M45, .inl (fun j => iI (V46 j)))), (h, .inr (1, [.int (iI kd48), .int (iI cs49), .int (iI tg50), .int (iI op51), .int (iI sz52), .int (iI ct53)])), (b, .inr (0, [.ref r, .int (iI z)])), (r, .inl (cA, w, .inl (fun j => bI (t j))))] H := hP
        have hD : va_D A [(nd, .inr (2, [.ref b, .ref h, .ref rw43, .int (iI mn47), .int (iI sx)])), (rw43, .inl (cR44, M45, .inl (fun j => iI (V46 j)))), (h, .inr (1, [.int (iI kd48), .int (iI cs49), .int (iI tg50), .int (iI op51), .int (iI sz52), .int (iI ct53)])), (b, .inr (0, [.ref r, .int (iI z)])), (r, .inl (cA, w, .inl (fun j => bI (t j))))] := hD
        have hK : va_K (dC, dI) vwCl [(cR44, .int), (cA, .byte)] s := hK
        obtain ⟨rfl, hqv42, hrv42, hFv42, hGv42⟩ := hw
        refine W.eq (g2 := F0 m 79 ls [.int (iI q54)]) rfl ?_
        refine lv_istore (lv' := [(7, .int (iI q54)), (6, .int (iI ct11)), (5, .int (iI mn)), (0, .ref nd), (1, .int (iI i)), (2, .int (iI x)), (3, .int (iI pr)), (4, .int (iI dp))]) hx hb dX2_layOutValue_79 hl (by decide) rfl (fun ls hl => ?_)
        refine lv_iload hx hb dX2_layOutValue_81 (lv_at hl 0 rfl) ?_
        refine lv_iconst (v := iI (-1)) hx hb dX2_layOutValue_83 rfl ?_
        refine li_icmp_ne (tgt := 89) hx hb (by omega) (by omega) dX2_layOutValue_84 (by decide) (fun c55 => ?_) (fun c55 => ?_)
        · skip
          obtain ⟨W2, hy1, hy2, hy3, hy4, hy5, hy6⟩ := hqv42.resolve_left (fun h => absurd h.2.1 (by omega))
          obtain ⟨u1, u2, u3, u4, u5, u6, u7⟩ := id hy3
          refine lv_aload_n hx hb dX2_layOutValue_89 rfl (lv_at hl 3 rfl) ?_
          refine lv_iload hx hb dX2_layOutValue_90 (lv_at hl 2 rfl) ?_
          refine lv_iconst (v := iI 5) hx hb dX2_layOutValue_92 rfl ?_
          refine lv_iload hx hb dX2_layOutValue_93 (lv_at hl 0 rfl) ?_
          refine lv_iload hx hb dX2_layOutValue_95 (lv_at hl 1 rfl) ?_
          refine li_isub hx hb dX2_layOutValue_97 ?_
          have hPc := hP.sub (ws' := [(nd, .inr (2, [.ref b, .ref h, .ref rw43, .int (iI mn47), .int (iI sx)])), (rw43, .inl (cR44, M45, .inl (fun j => iI (V46 j))))]) [0, 1] rfl
          have hDc := hD.sub (ws' := [(nd, .inr (2, [.ref b, .ref h, .ref rw43, .int (iI mn47), .int (iI sx)])), (rw43, .inl (cR44, M45, .inl (fun j => iI (V46 j))))]) [0, 1] (by decide) rfl
          have hKc := hK.sub (tys' := [(cR44, .int)]) [0] rfl
          have hFc := va_free (wc := [(nd, .inr (2, [.ref b, .ref h, .ref rw43, .int (iI mn47), .int (iI sx)])), (rw43, .inl (cR44, M45, .inl (fun j => iI (V46 j))))]) hD hS hA [0, 1] rfl
          refine mv_call (mv_runV (As := [.int (iI mn), .int (iI 5), .int (iI (q54 - ct11))]) (rest := []) ⟨hx, hb, hml, hown, hT⟩ (c_N_putV l dC dI H.size nd b h rw43 mn47 sx cR44 M45 V46 mn 5 (q54 - ct11) (by omega) (by omega) (by omega) (by omega) (by omega)) (cwV 3 hT (gV wd349 wd351 wd9 wd28 wd352) rfl rfl rfl (by decide +kernel) ⟨show 2 + 1 ≤ (2 * (d + 1) + 5) from by omega, show 8 + (5 + 11) + 70 ≤ (53 * (d + 1) + 200) from by omega⟩) ⟨fun a U g mk q => by obtain ⟨q0, q1, qP, qK, qD⟩ := q; exact ⟨q0, q1, qP, va_K.moved (u := U) (U := U.calling g mk a) (Vm.Alike.refl U.vm) qK, qD⟩, va_recv hKc hPc (ci := 2) (q0 := 0) rfl rfl, fun U hU hW => ⟨rfl, by rw [hU], by rw [hU]; exact hPc, va_K.moved hW.alike hKc, hDc.weaken (fun _ _ _ _ => trivial)⟩⟩ rfl rfl hl.1 rfl (lv_room (Nat.le_of_ble_eq_true rfl)) dX2_layOutValue_98 ⟨show 0 + 0 + k14 + k40 + 0 ≤ (phR M) from by omega, show 0 + 0 + n15 + n41 + 0 ≤ (phR M) from by omega⟩) hS (fun q _ h => hFc q h) hFc (fun v58 u k56 n57 tS H1 locs ht hvm hw hB hz1 hk1 hS => ?_)
          obtain ⟨hP1, hK1, hD1⟩ := hB
          rw [ht] at hP1
          have hK1 := va_K.moved hvm.symm hK1
          try dsimp only at hw
          obtain ⟨hP, hD⟩ := va_join (wr := [(h, .inr (1, [.int (iI kd48), .int (iI cs49), .int (iI tg50), .int (iI op51), .int (iI sz52), .int (iI ct53)])), (b, .inr (0, [.ref r, .int (iI z)])), (r, .inl (cA, w, .inl (fun j => bI (t j))))]) (w1 := [(nd, .inr (2, [.ref b, .ref h, .ref rw43, .int (iI mn47), .int (iI sx)])), (rw43, .inl (cR44, M45, .inl (fun j => iI ((vf_upd V46 (mn * 8 + 5).toNat (q54 - ct11)) j))))]) hP hD [0, 1] [2, 3, 4] rfl rfl (by decide) (by decide) hk1 hFc hP1 hD1
          have hK := (hK.sub (tys' := [(cA, .byte)]) [1] rfl).app hK1
          generalize H1 = H at hP hS ⊢
          have hP : va_P (dC, dI) vwCl [(h, .inr (1, [.int (iI kd48), .int (iI cs49), .int (iI tg50), .int (iI op51), .int (iI sz52), .int (iI ct53)])), (b, .inr (0, [.ref r, .int (iI z)])), (r, .inl (cA, w, .inl (fun j => bI (t j)))), (nd, .inr (2, [.ref b, .ref h, .ref rw43, .int (iI mn47), .int (iI sx)])), (rw43, .inl (cR44, M45, .inl (fun j => iI ((vf_upd V46 (mn * 8 + 5).toNat (q54 - ct11)) j))))] H := hP
          have hD : va_D A [(h, .inr (1, [.int (iI kd48), .int (iI cs49), .int (iI tg50), .int (iI op51), .int (iI sz52), .int (iI ct53)])), (b, .inr (0, [.ref r, .int (iI z)])), (r, .inl (cA, w, .inl (fun j => bI (t j)))), (nd, .inr (2, [.ref b, .ref h, .ref rw43, .int (iI mn47), .int (iI sx)])), (rw43, .inl (cR44, M45, .inl (fun j => iI ((vf_upd V46 (mn * 8 + 5).toNat (q54 - ct11)) j))))] := hD
          have hK : va_K (dC, dI) vwCl [(cA, .byte), (cR44, .int)] s := hK
          obtain ⟨rfl, rfl, rfl⟩ := hw
          refine W.eq (g2 := F0 m 101 ls []) rfl ?_
          refine lv_iload hx hb dX2_layOutValue_101 (lv_at hl 0 rfl) ?_
          refine lv_iconst (v := iI 2) hx hb dX2_layOutValue_103 rfl ?_
          refine li_iadd hx hb dX2_layOutValue_104 ?_
          have eop : op9 = 1 := by omega
          rw [eop] at hh
          have hP9 := hP.sub (ws' := [(nd, .inr (2, [.ref b, .ref h, .ref rw43, .int (iI mn47), .int (iI sx)])), (rw43, .inl (cR44, M45, .inl (fun j => iI ((vf_upd V46 (mn * 8 + 5).toNat (q54 - ct11)) j)))), (h, .inr (1, [.int (iI kd48), .int (iI cs49), .int (iI tg50), .int (iI op51), .int (iI sz52), .int (iI ct53)])), (b, .inr (0, [.ref r, .int (iI z)])), (r, .inl (cA, w, .inl (fun j => bI (t j))))]) [3, 4, 0, 1, 2] rfl
          have hD9 := hD.sub (ws' := [(nd, .inr (2, [.ref b, .ref h, .ref rw43, .int (iI mn47), .int (iI sx)])), (rw43, .inl (cR44, M45, .inl (fun j => iI ((vf_upd V46 (mn * 8 + 5).toNat (q54 - ct11)) j)))), (h, .inr (1, [.int (iI kd48), .int (iI cs49), .int (iI tg50), .int (iI op51), .int (iI sz52), .int (iI ct53)])), (b, .inr (0, [.ref r, .int (iI z)])), (r, .inl (cA, w, .inl (fun j => bI (t j))))]) [3, 4, 0, 1, 2] (by decide) rfl
          have hK9 := hK.sub (tys' := [(cR44, .int), (cA, .byte)]) [1, 0] rfl
          exact mv_iret hx hb hr hlocks (fun tS ht hW => ⟨⟨_, (rw43, cR44, M45, (vf_upd V46 (mn * 8 + 5).toNat (q54 - ct11)), mn47, kd48, cs49, tg50, op51, sz52, ct53, (q54 + 2)), rfl, ⟨rfl, Or.inr ⟨_, layV_o1 (by omega) hh hy1, eqN_upd hy2, okN_p5 hy3 (by omega) (by omega), by omega, by omega, by omega⟩, by omega, by omega, by omega⟩, by rw [ht]; exact hP9, va_K.moved hW.alike hK9, hD9⟩, hS.F ht⟩) hS.2.2 dX2_layOutValue_105
        · skip
          refine lv_iconst (v := iI (-1)) hx hb dX2_layOutValue_87 rfl ?_
          have eop : op9 = 1 := by omega
          rw [eop] at hh
          obtain ⟨y1, y2, y3⟩ := hqv42.resolve_right (fun ⟨_, h⟩ => absurd h.2.2.2.2.1 (by omega))
          have hP9 := hP.sub (ws' := [(nd, .inr (2, [.ref b, .ref h, .ref rw43, .int (iI mn47), .int (iI sx)])), (rw43, .inl (cR44, M45, .inl (fun j => iI (V46 j)))), (h, .inr (1, [.int (iI kd48), .int (iI cs49), .int (iI tg50), .int (iI op51), .int (iI sz52), .int (iI ct53)])), (b, .inr (0, [.ref r, .int (iI z)])), (r, .inl (cA, w, .inl (fun j => bI (t j))))]) [0, 1, 2, 3, 4] rfl
          have hD9 := hD.sub (ws' := [(nd, .inr (2, [.ref b, .ref h, .ref rw43, .int (iI mn47), .int (iI sx)])), (rw43, .inl (cR44, M45, .inl (fun j => iI (V46 j)))), (h, .inr (1, [.int (iI kd48), .int (iI cs49), .int (iI tg50), .int (iI op51), .int (iI sz52), .int (iI ct53)])), (b, .inr (0, [.ref r, .int (iI z)])), (r, .inl (cA, w, .inl (fun j => bI (t j))))]) [0, 1, 2, 3, 4] (by decide) rfl
          have hK9 := hK.sub (tys' := [(cR44, .int), (cA, .byte)]) [0, 1] rfl
          exact mv_iret hx hb hr hlocks (fun tS ht hW => ⟨⟨_, (rw43, cR44, M45, V46, mn47, kd48, cs49, tg50, op51, sz52, ct53, (-1)), rfl, ⟨rfl, Or.inl ⟨layV_o0 (by omega) hh y1, rfl, y3⟩, by omega, by omega, by omega⟩, by rw [ht]; exact hP9, va_K.moved hW.alike hK9, hD9⟩, hS.F ht⟩) hS.2.2 dX2_layOutValue_88
    · skip
      refine lv_iconst (v := iI (-1)) hx hb dX2_layOutValue_37 rfl ?_
      have hP9 := hP.sub (ws' := [(nd, .inr (2, [.ref b, .ref h, .ref rw, .int (iI mn), .int (iI sx)])), (rw, .inl (cR, M, .inl (fun j => iI (V j)))), (h, .inr (1, [.int (iI kd6), .int (iI cs7), .int (iI tg8), .int (iI op9), .int (iI sz10), .int (iI ct11)])), (b, .inr (0, [.ref r, .int (iI z)])), (r, .inl (cA, w, .inl (fun j => bI (t j))))]) [0, 1, 2, 3, 4] rfl
      have hD9 := hD.sub (ws' := [(nd, .inr (2, [.ref b, .ref h, .ref rw, .int (iI mn), .int (iI sx)])), (rw, .inl (cR, M, .inl (fun j => iI (V j)))), (h, .inr (1, [.int (iI kd6), .int (iI cs7), .int (iI tg8), .int (iI op9), .int (iI sz10), .int (iI ct11)])), (b, .inr (0, [.ref r, .int (iI z)])), (r, .inl (cA, w, .inl (fun j => bI (t j))))]) [0, 1, 2, 3, 4] (by decide) rfl
      have hK9 := hK.sub (tys' := [(cR, .int), (cA, .byte)]) [0, 1] rfl
      exact mv_iret hx hb hr hlocks (fun tS ht hW => ⟨⟨_, (rw, cR, M, V, mn, kd6, cs7, tg8, op9, sz10, ct11, (-1)), rfl, ⟨rfl, Or.inl ⟨layV_h (by omega) (hqv5.resolve_right (fun h => absurd h.2.1 (show ¬ _ by omega))).1, rfl, okN_m hoN⟩, by omega, by omega, by omega⟩, by rw [ht]; exact hP9, va_K.moved hW.alike hK9, hD9⟩, hS.F ht⟩) hS.2.2 dX2_layOutValue_38
theorem CV_all (l : Launch) (dC : Nat → ClassId) (dI : Nat → Nat → Nat) : ∀ d : Nat, CV l dC dI d
  | 0 => CV_0 l dC dI
  | d + 1 => CV_s l dC dI d (CU_of l dC dI d (CV_all l dC dI d)) (CZ_of l dC dI d (CV_all l dC dI d))
