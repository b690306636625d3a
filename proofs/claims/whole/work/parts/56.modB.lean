set_option maxHeartbeats 4000000 in
set_option maxRecDepth 100000 in
theorem c_M_head (l : Launch) (dC : Nat → ClassId) (dI : Nat → Nat → Nat) (sz : Nat) (mm : Nat) (fl : Int) (ta : Nat) (tz : Int) (ka : Nat) (nn : Int) (da : Nat) (ya : Nat) (pt : Int) (md : Int) (sx : Int) (cT : ClassId) (t : Nat → Int) (pl : Int) (x : Int) (y : Int) (cs : Int) (i : Int) (hpl : 0 ≤ pl ∧ pl + idLen y + lnLen i ≤ 4096) (hx4 : 0 ≤ x ∧ x ≤ 3) (hy : 0 ≤ y ∧ y < 2147483648) (hcs : cs = 0 ∨ cs = 1) (hi : 0 ≤ i ∧ i ≤ 4096) : mv_Met l yX4_head wsX4_head ({ frames := 1, cells := 0, slots := 0, locals := 60 }) (va_Pc [.ref mm, .int (iI pl), .int (iI x), .int (iI y), .int (iI cs), .int (iI i)] (fun U => U.heap.size = sz ∧ va_P (dC, dI) vwCl [(mm, .inr (4, [.int (iI fl), .ref ta, .int (iI tz), .ref ka, .int (iI nn), .ref da, .ref ya, .int (iI pt), .int (iI md), .int (iI sx)])), (ta, .inl (cT, 4096, .inl (fun j => bI (t j))))] U.heap ∧ va_K (dC, dI) vwCl [(cT, .byte)] U ∧ va_D (fun _ => True) [(mm, .inr (4, [.int (iI fl), .ref ta, .int (iI tz), .ref ka, .int (iI nn), .ref da, .ref ya, .int (iI pt), .int (iI md), .int (iI sx)])), (ta, .inl (cT, 4096, .inl (fun j => bI (t j))))])) (mv_Q (fun (v : Option Value) (u : (Nat → Int) × Int) (k n : Nat) => match u with | (t', q') => v = some (.int (iI q')) ∧ t' = wrB t (pl : Int).toNat (idB x y cs ++ lnB i) ∧ q' = pl + idLen y + lnLen i ∧ k = 0 ∧ n = 0) (fun (u : (Nat → Int) × Int) (tS : State) => match u with | (t', q') => va_P (dC, dI) vwCl [(mm, .inr (4, [.int (iI fl), .ref ta, .int (iI tz), .ref ka, .int (iI nn), .ref da, .ref ya, .int (iI pt), .int (iI md), .int (iI sx)])), (ta, .inl (cT, 4096, .inl (fun j => bI (t' j))))] tS.heap ∧ va_K (dC, dI) vwCl [(cT, .byte)] tS ∧ va_D (va_A [(mm, .inr (4, [.int (iI fl), .ref ta, .int (iI tz), .ref ka, .int (iI nn), .ref da, .ref ya, .int (iI pt), .int (iI md), .int (iI sx)])), (ta, .inl (cT, 4096, .inl (fun j => bI (t j))))] sz) [(mm, .inr (4, [.int (iI fl), .ref ta, .int (iI tz), .ref ka, .int (iI nn), .ref da, .ref ya, .int (iI pt), .int (iI md), .int (iI sx)])), (ta, .inl (cT, 4096, .inl (fun j => bI (t' j))))]) (va_A [(mm, .inr (4, [.int (iI fl), .ref ta, .int (iI tz), .ref ka, .int (iI nn), .ref da, .ref ya, .int (iI pt), .int (iI md), .int (iI sx)])), (ta, .inl (cT, 4096, .inl (fun j => bI (t j))))] sz)) (va_A [(mm, .inr (4, [.int (iI fl), .ref ta, .int (iI tz), .ref ka, .int (iI nn), .ref da, .ref ya, .int (iI pt), .int (iI md), .int (iI sx)])), (ta, .inl (cT, 4096, .inl (fun j => bI (t j))))] sz) := by
  refine mv_ofW (cc := cX4_head) (maxL := 11) (ret := (some .int)) (by decide) rfl ?_
  intro p e s m args below meth c s₁ B hml hv
  obtain ⟨rfl, hsz, hP, hK, hD0⟩ := hv
  have hx := B.exec
  have hb := B.bytes
  have hr := B.returns
  have hT : ∀ w ∈ wT, w.before _ s = true := fun w h => atoms_spec (ws := wsX4_head) B.pre w (List.mem_cons_of_mem _ h)
  have hown : s.vm.findClass RX4 = some m.cls := findClass_of_methodNamed B.named
  have hlocks := B.notSynchronized
  subst hsz
  have hD := hD0.self (sz := s.heap.size)
  generalize hAe : va_A [(mm, .inr (4, [.int (iI fl), .ref ta, .int (iI tz), .ref ka, .int (iI nn), .ref da, .ref ya, .int (iI pt), .int (iI md), .int (iI sx)])), (ta, .inl (cT, 4096, .inl (fun j => bI (t j))))] s.heap.size = A at hD ⊢
  have hA : ∀ q : Nat, s.heap.size ≤ q → A q := fun q h => by rw [← hAe]; exact Or.inr h
  have hS : va_S A s.heap s.heap [] := va_S.rf
  have hP : va_P (dC, dI) vwCl [(mm, .inr (4, [.int (iI fl), .ref ta, .int (iI tz), .ref ka, .int (iI nn), .ref da, .ref ya, .int (iI pt), .int (iI md), .int (iI sx)])), (ta, .inl (cT, 4096, .inl (fun j => bI (t j))))] s.heap := hP
  have hl := lv_entry ([.ref mm, .int (iI pl), .int (iI x), .int (iI y), .int (iI cs), .int (iI i)]) (n := 11) (Nat.le_of_ble_eq_true rfl)
  rw [lg_entry_eq]
  generalize (lg_sl ([.ref mm, .int (iI pl), .int (iI x), .int (iI y), .int (iI cs), .int (iI i)]) ++ List.replicate (11 - (lg_sl ([.ref mm, .int (iI pl), .int (iI x), .int (iI y), .int (iI cs), .int (iI i)])).length) Slot.unset).toArray = ls at hl ⊢
  have hl : lv_has ls 11 [(0, .ref mm), (1, .int (iI pl)), (2, .int (iI x)), (3, .int (iI y)), (4, .int (iI cs)), (5, .int (iI i))] := hl
  refine mv_nameQ (fun Q9 hQ9 => ?_)
  have J139 : ∀ (fu : Nat) (g : Int) (lh : List Int) (H : Heap) (locs : List Loc) (ls : Array Slot) (kc ks : Nat), (0 < (fu : Int)) → (lh = idB x y cs) → (g = pl + (lh.length : Int)) → (kc = 0 ∧ ks = 0) → va_K (dC, dI) vwCl [(cT, .byte)] s → va_P (dC, dI) vwCl [(mm, .inr (4, [.int (iI fl), .ref ta, .int (iI tz), .ref ka, .int (iI nn), .ref da, .ref ya, .int (iI pt), .int (iI md), .int (iI sx)])), (ta, .inl (cT, 4096, .inl (fun j => bI ((wrB t ((pl : Int).toNat) lh) j))))] H → va_D A [(mm, .inr (4, [.int (iI fl), .ref ta, .int (iI tz), .ref ka, .int (iI nn), .ref da, .ref ya, .int (iI pt), .int (iI md), .int (iI sx)])), (ta, .inl (cT, 4096, .inl (fun j => bI ((wrB t ((pl : Int).toNat) lh) j))))] → va_S A s.heap H locs → lv_has ls 11 [(0, .ref mm), (1, .int (iI pl)), (2, .int (iI x)), (3, .int (iI y)), (4, .int (iI cs)), (5, .int (iI i)), (6, .int (iI g))] → W p l e ({ frames := 1, cells := 0, slots := 0, locals := 60 }) s m ([.ref mm, .int (iI pl), .int (iI x), .int (iI y), .int (iI cs), .int (iI i)] : List Value).toArray below meth c H locs kc ks Q9 (F0 m 139 ls []) := by
    intro fu
    induction fu with
    | zero =>
      intro g lh H locs ls kc ks hfu hlh hg hkc hK hP hD hS hl
      exfalso
      omega
    | succ fu ih =>
      intro g lh H locs ls kc ks hfu hlh hg hkc hK hP hD hS hl
      have hlg := idB_len (x := x) (y := y) (cs := cs) hy.1
      have hle : 1 ≤ lnLen i ∧ (128 ≤ i → 2 ≤ lnLen i) ∧ (256 ≤ i → 3 ≤ lnLen i) := by unfold lnLen; (repeat' split) <;> omega
      rw [← hlh] at hlg
      refine lv_iload hx hb dX4_head_139 (lv_at hl 5 rfl) ?_
      refine lv_sipush (v := iI 128) hx hb dX4_head_141 (by decide +kernel) ?_
      refine li_icmp_ge (tgt := 163) hx hb (by omega) (by omega) dX4_head_144 (by decide) (fun c1 => ?_) (fun c1 => ?_)
      · skip
        refine lv_iconst (v := iI 0) hx hb dX4_head_163 rfl ?_
        refine lv_istore (lv' := [(8, .int (iI 0)), (0, .ref mm), (1, .int (iI pl)), (2, .int (iI x)), (3, .int (iI y)), (4, .int (iI cs)), (5, .int (iI i)), (6, .int (iI g))]) hx hb dX4_head_164 hl (by decide) rfl (fun ls hl => ?_)
        refine lv_iload hx hb dX4_head_166 (lv_at hl 6 rfl) ?_
        refine lv_istore (lv' := [(9, .int (iI i)), (8, .int (iI 0)), (0, .ref mm), (1, .int (iI pl)), (2, .int (iI x)), (3, .int (iI y)), (4, .int (iI cs)), (5, .int (iI i)), (6, .int (iI g))]) hx hb dX4_head_168 hl (by decide) rfl (fun ls hl => ?_)
        refine lv_iload hx hb dX4_head_170 (lv_at hl 0 rfl) ?_
        refine li_if_le (tgt := 188) hx hb (by omega) dX4_head_172 (by decide) (fun c2 => absurd c2 (by omega)) (fun c2 => ?_)
        refine lv_iinc (v := iI 1) (lv' := [(8, .int (iI 1)), (9, .int (iI i)), (0, .ref mm), (1, .int (iI pl)), (2, .int (iI x)), (3, .int (iI y)), (4, .int (iI cs)), (5, .int (iI i)), (6, .int (iI g))]) hx hb dX4_head_175 hl (k := 1) rfl (by decide +kernel) (by decide) rfl (fun ls hl => ?_)
        refine lv_iload hx hb dX4_head_178 (lv_at hl 1 rfl) ?_
        refine lv_bipush (v := iI 8) hx hb dX4_head_180 (by decide +kernel) ?_
        refine li_ishrK hx hb 256 (by decide) (by omega) (by omega) dX4_head_182 ?_
        refine li_nm (fun z3 ez3 => ?_)
        refine lv_istore (lv' := [(9, .int (iI z3)), (8, .int (iI 1)), (0, .ref mm), (1, .int (iI pl)), (2, .int (iI x)), (3, .int (iI y)), (4, .int (iI cs)), (5, .int (iI i)), (6, .int (iI g))]) hx hb dX4_head_183 hl (by decide) rfl (fun ls hl => ?_)
        refine lv_goto (tgt := 170) hx hb dX4_head_185 (by decide) ?_
        refine lv_iload hx hb dX4_head_170 (lv_at hl 0 rfl) ?_
        refine li_if_le (tgt := 188) hx hb (by omega) dX4_head_172 (by decide) (fun c4 => ?_) (fun c4 => ?_)
        · skip
          refine lv_aload_n hx hb dX4_head_188 rfl (lv_at hl 2 rfl) ?_
          refine va_get (D := (dC, dI)) (ci := 4) (v := .ref ta) (C := RX4) (T := TX4) (N := 10) hx hb hT inX4 hown hK hP 0 rfl rfl 1 (by decide) (hT _ wd518) (fun _ h9 => h9) rfl dX4_head_189 ?_
          refine lv_iload hx hb dX4_head_192 (lv_at hl 8 rfl) ?_
          obtain ⟨z5, ez5⟩ : ∃ y : Int, y = g + 1 := ⟨_, rfl⟩
          refine lv_iinc (v := iI z5) (lv' := [(6, .int (iI z5)), (9, .int (iI z3)), (8, .int (iI 1)), (0, .ref mm), (1, .int (iI pl)), (2, .int (iI x)), (3, .int (iI y)), (4, .int (iI cs)), (5, .int (iI i))]) hx hb dX4_head_194 hl (k := 8) rfl (by rw [ez5]; exact iI_add _ _) (by decide) rfl (fun ls hl => ?_)
          refine lv_sipush (v := iI 128) hx hb dX4_head_197 (by decide +kernel) ?_
          refine lv_iload hx hb dX4_head_200 (lv_at hl 2 rfl) ?_
          refine li_iadd hx hb dX4_head_202 ?_
          refine li_re (show ((128) + (1) : Int) = 129 by decide) ?_
          refine li_i2b hx hb dX4_head_203 ?_
          refine li_bastW (y := 129) hx hb hK hP hD hS 1 0 rfl rfl (z := g) (by omega) (by omega) (by (try simp only [List.length_append, List.length_cons, List.length_nil]); omega) (by omega) dX4_head_204 (fun H locs hP hD hS => ?_)
          have hP : va_P (dC, dI) vwCl [(mm, .inr (4, [.int (iI fl), .ref ta, .int (iI tz), .ref ka, .int (iI nn), .ref da, .ref ya, .int (iI pt), .int (iI md), .int (iI sx)])), (ta, .inl (cT, 4096, .inl (fun j => bI ((wrB t ((pl : Int).toNat) (lh ++ [129])) j))))] H := hP
          have hD : va_D A [(mm, .inr (4, [.int (iI fl), .ref ta, .int (iI tz), .ref ka, .int (iI nn), .ref da, .ref ya, .int (iI pt), .int (iI md), .int (iI sx)])), (ta, .inl (cT, 4096, .inl (fun j => bI ((wrB t ((pl : Int).toNat) (lh ++ [129])) j))))] := hD
          refine lv_iload hx hb dX4_head_205 (lv_at hl 2 rfl) ?_
          refine lv_iconst (v := iI 1) hx hb dX4_head_207 rfl ?_
          refine li_isub hx hb dX4_head_208 ?_
          refine li_re (show ((1) - (1) : Int) = 0 by decide) ?_
          refine lv_istore (lv' := [(9, .int (iI 0)), (6, .int (iI z5)), (8, .int (iI 1)), (0, .ref mm), (1, .int (iI pl)), (2, .int (iI x)), (3, .int (iI y)), (4, .int (iI cs)), (5, .int (iI i))]) hx hb dX4_head_209 hl (by decide) rfl (fun ls hl => ?_)
          refine lv_iload hx hb dX4_head_211 (lv_at hl 0 rfl) ?_
          refine li_if_lt (tgt := 241) hx hb (by omega) dX4_head_213 (by decide) (fun c6 => absurd c6 (by omega)) (fun c6 => ?_)
          refine lv_aload_n hx hb dX4_head_216 rfl (lv_at hl 3 rfl) ?_
          refine va_get (D := (dC, dI)) (ci := 4) (v := .ref ta) (C := RX4) (T := TX4) (N := 10) hx hb hT inX4 hown hK hP 0 rfl rfl 1 (by decide) (hT _ wd518) (fun _ h9 => h9) rfl dX4_head_217 ?_
          refine lv_iload hx hb dX4_head_220 (lv_at hl 1 rfl) ?_
          obtain ⟨z7, ez7⟩ : ∃ y : Int, y = z5 + 1 := ⟨_, rfl⟩
          refine lv_iinc (v := iI z7) (lv' := [(6, .int (iI z7)), (9, .int (iI 0)), (8, .int (iI 1)), (0, .ref mm), (1, .int (iI pl)), (2, .int (iI x)), (3, .int (iI y)), (4, .int (iI cs)), (5, .int (iI i))]) hx hb dX4_head_222 hl (k := 1) rfl (by rw [ez7]; exact iI_add _ _) (by decide) rfl (fun ls hl => ?_)
          refine lv_iload hx hb dX4_head_225 (lv_at hl 8 rfl) ?_
          refine lv_bipush (v := iI 8) hx hb dX4_head_227 (by decide +kernel) ?_
          refine lv_iload hx hb dX4_head_229 (lv_at hl 1 rfl) ?_
          refine li_imul hx hb dX4_head_231 ?_
          refine li_re (show ((8) * (0) : Int) = 0 by decide) ?_
          refine li_ishrK hx hb 1 (by decide) (by omega) (by omega) dX4_head_232 ?_
          refine li_i2b hx hb dX4_head_233 ?_
          refine li_bastW (y := i) hx hb hK hP hD hS 1 0 rfl rfl (z := z5) (by omega) (by omega) (by (try simp only [List.length_append, List.length_cons, List.length_nil]); omega) (by omega) dX4_head_234 (fun H locs hP hD hS => ?_)
          have hP : va_P (dC, dI) vwCl [(mm, .inr (4, [.int (iI fl), .ref ta, .int (iI tz), .ref ka, .int (iI nn), .ref da, .ref ya, .int (iI pt), .int (iI md), .int (iI sx)])), (ta, .inl (cT, 4096, .inl (fun j => bI ((wrB t ((pl : Int).toNat) ((lh ++ [129]) ++ [i])) j))))] H := hP
          have hD : va_D A [(mm, .inr (4, [.int (iI fl), .ref ta, .int (iI tz), .ref ka, .int (iI nn), .ref da, .ref ya, .int (iI pt), .int (iI md), .int (iI sx)])), (ta, .inl (cT, 4096, .inl (fun j => bI ((wrB t ((pl : Int).toNat) ((lh ++ [129]) ++ [i])) j))))] := hD
          refine lv_iinc (v := iI (-1)) (lv' := [(9, .int (iI (-1))), (6, .int (iI z7)), (8, .int (iI 1)), (0, .ref mm), (1, .int (iI pl)), (2, .int (iI x)), (3, .int (iI y)), (4, .int (iI cs)), (5, .int (iI i))]) hx hb dX4_head_235 hl (k := 1) rfl (by decide +kernel) (by decide) rfl (fun ls hl => ?_)
          refine lv_goto (tgt := 211) hx hb dX4_head_238 (by decide) ?_
          refine lv_iload hx hb dX4_head_211 (lv_at hl 0 rfl) ?_
          refine li_if_lt (tgt := 241) hx hb (by omega) dX4_head_213 (by decide) (fun c8 => ?_) (fun c8 => absurd c8 (by omega))
          refine lv_iload hx hb dX4_head_241 (lv_at hl 1 rfl) ?_
          have hll := idB_len (x := x) (cs := cs) hy.1
          have heq : ((lh ++ [129]) ++ [i]) = idB x y cs ++ lnB i := by rw [hlh]; first | (rw [lnB_0 (by omega)]; done) | (rw [lnB_1 (by omega) (by omega)]; simp only [List.append_assoc]; done) | (rw [lnB_1 (by omega) (by omega)]; simp only [List.append_assoc]; rfl) | (rw [lnB_2 (by omega)]; simp only [List.append_assoc]; done) | (rw [lnB_2 (by omega)]; simp only [List.append_assoc]; rfl)
          rw [← hlh] at hll
          subst hQ9
          have hP9 := hP.sub (ws' := [(mm, .inr (4, [.int (iI fl), .ref ta, .int (iI tz), .ref ka, .int (iI nn), .ref da, .ref ya, .int (iI pt), .int (iI md), .int (iI sx)])), (ta, .inl (cT, 4096, .inl (fun j => bI ((wrB t ((pl : Int).toNat) ((lh ++ [129]) ++ [i])) j))))]) [0, 1] rfl
          have hD9 := hD.sub (ws' := [(mm, .inr (4, [.int (iI fl), .ref ta, .int (iI tz), .ref ka, .int (iI nn), .ref da, .ref ya, .int (iI pt), .int (iI md), .int (iI sx)])), (ta, .inl (cT, 4096, .inl (fun j => bI ((wrB t ((pl : Int).toNat) ((lh ++ [129]) ++ [i])) j))))]) [0, 1] (by decide) rfl
          have hK9 := hK.sub (tys' := [(cT, .byte)]) [0] rfl
          exact mv_iret hx hb hr hlocks (fun tS ht hW => ⟨⟨_, ((wrB t ((pl : Int).toNat) ((lh ++ [129]) ++ [i])), z7), rfl, ⟨rfl, by rw [← heq], by unfold lnLen; (repeat' split) <;> omega, by omega, by omega⟩, by rw [ht]; exact hP9, va_K.moved hW.alike hK9, hD9⟩, hS.F ht⟩) hS.2.2 dX4_head_243
        · skip
          refine lv_iinc (v := iI 2) (lv' := [(8, .int (iI 2)), (9, .int (iI z3)), (0, .ref mm), (1, .int (iI pl)), (2, .int (iI x)), (3, .int (iI y)), (4, .int (iI cs)), (5, .int (iI i)), (6, .int (iI g))]) hx hb dX4_head_175 hl (k := 1) rfl (by decide +kernel) (by decide) rfl (fun ls hl => ?_)
          refine lv_iload hx hb dX4_head_178 (lv_at hl 1 rfl) ?_
          refine lv_bipush (v := iI 8) hx hb dX4_head_180 (by decide +kernel) ?_
          refine li_ishrK hx hb 256 (by decide) (by omega) (by omega) dX4_head_182 ?_
          refine li_nm (fun z9 ez9 => ?_)
          refine lv_istore (lv' := [(9, .int (iI z9)), (8, .int (iI 2)), (0, .ref mm), (1, .int (iI pl)), (2, .int (iI x)), (3, .int (iI y)), (4, .int (iI cs)), (5, .int (iI i)), (6, .int (iI g))]) hx hb dX4_head_183 hl (by decide) rfl (fun ls hl => ?_)
          refine lv_goto (tgt := 170) hx hb dX4_head_185 (by decide) ?_
          refine lv_iload hx hb dX4_head_170 (lv_at hl 0 rfl) ?_
          refine li_if_le (tgt := 188) hx hb (by omega) dX4_head_172 (by decide) (fun c10 => ?_) (fun c10 => absurd c10 (by omega))
          refine lv_aload_n hx hb dX4_head_188 rfl (lv_at hl 2 rfl) ?_
          refine va_get (D := (dC, dI)) (ci := 4) (v := .ref ta) (C := RX4) (T := TX4) (N := 10) hx hb hT inX4 hown hK hP 0 rfl rfl 1 (by decide) (hT _ wd518) (fun _ h9 => h9) rfl dX4_head_189 ?_
          refine lv_iload hx hb dX4_head_192 (lv_at hl 8 rfl) ?_
          obtain ⟨z11, ez11⟩ : ∃ y : Int, y = g + 1 := ⟨_, rfl⟩
          refine lv_iinc (v := iI z11) (lv' := [(6, .int (iI z11)), (9, .int (iI z9)), (8, .int (iI 2)), (0, .ref mm), (1, .int (iI pl)), (2, .int (iI x)), (3, .int (iI y)), (4, .int (iI cs)), (5, .int (iI i))]) hx hb dX4_head_194 hl (k := 8) rfl (by rw [ez11]; exact iI_add _ _) (by decide) rfl (fun ls hl => ?_)
          refine lv_sipush (v := iI 128) hx hb dX4_head_197 (by decide +kernel) ?_
          refine lv_iload hx hb dX4_head_200 (lv_at hl 2 rfl) ?_
          refine li_iadd hx hb dX4_head_202 ?_
          refine li_re (show ((128) + (2) : Int) = 130 by decide) ?_
          refine li_i2b hx hb dX4_head_203 ?_
          refine li_bastW (y := 130) hx hb hK hP hD hS 1 0 rfl rfl (z := g) (by omega) (by omega) (by (try simp only [List.length_append, List.length_cons, List.length_nil]); omega) (by omega) dX4_head_204 (fun H locs hP hD hS => ?_)
          have hP : va_P (dC, dI) vwCl [(mm, .inr (4, [.int (iI fl), .ref ta, .int (iI tz), .ref ka, .int (iI nn), .ref da, .ref ya, .int (iI pt), .int (iI md), .int (iI sx)])), (ta, .inl (cT, 4096, .inl (fun j => bI ((wrB t ((pl : Int).toNat) (lh ++ [130])) j))))] H := hP
          have hD : va_D A [(mm, .inr (4, [.int (iI fl), .ref ta, .int (iI tz), .ref ka, .int (iI nn), .ref da, .ref ya, .int (iI pt), .int (iI md), .int (iI sx)])), (ta, .inl (cT, 4096, .inl (fun j => bI ((wrB t ((pl : Int).toNat) (lh ++ [130])) j))))] := hD
          refine lv_iload hx hb dX4_head_205 (lv_at hl 2 rfl) ?_
          refine lv_iconst (v := iI 1) hx hb dX4_head_207 rfl ?_
          refine li_isub hx hb dX4_head_208 ?_
          refine li_re (show ((2) - (1) : Int) = 1 by decide) ?_
          refine lv_istore (lv' := [(9, .int (iI 1)), (6, .int (iI z11)), (8, .int (iI 2)), (0, .ref mm), (1, .int (iI pl)), (2, .int (iI x)), (3, .int (iI y)), (4, .int (iI cs)), (5, .int (iI i))]) hx hb dX4_head_209 hl (by decide) rfl (fun ls hl => ?_)
          refine lv_iload hx hb dX4_head_211 (lv_at hl 0 rfl) ?_
          refine li_if_lt (tgt := 241) hx hb (by omega) dX4_head_213 (by decide) (fun c12 => absurd c12 (by omega)) (fun c12 => ?_)
          refine lv_aload_n hx hb dX4_head_216 rfl (lv_at hl 3 rfl) ?_
          refine va_get (D := (dC, dI)) (ci := 4) (v := .ref ta) (C := RX4) (T := TX4) (N := 10) hx hb hT inX4 hown hK hP 0 rfl rfl 1 (by decide) (hT _ wd518) (fun _ h9 => h9) rfl dX4_head_217 ?_
          refine lv_iload hx hb dX4_head_220 (lv_at hl 1 rfl) ?_
          obtain ⟨z13, ez13⟩ : ∃ y : Int, y = z11 + 1 := ⟨_, rfl⟩
          refine lv_iinc (v := iI z13) (lv' := [(6, .int (iI z13)), (9, .int (iI 1)), (8, .int (iI 2)), (0, .ref mm), (1, .int (iI pl)), (2, .int (iI x)), (3, .int (iI y)), (4, .int (iI cs)), (5, .int (iI i))]) hx hb dX4_head_222 hl (k := 1) rfl (by rw [ez13]; exact iI_add _ _) (by decide) rfl (fun ls hl => ?_)
          refine lv_iload hx hb dX4_head_225 (lv_at hl 8 rfl) ?_
          refine lv_bipush (v := iI 8) hx hb dX4_head_227 (by decide +kernel) ?_
          refine lv_iload hx hb dX4_head_229 (lv_at hl 1 rfl) ?_
          refine li_imul hx hb dX4_head_231 ?_
          refine li_re (show ((8) * (1) : Int) = 8 by decide) ?_
          refine li_ishrK hx hb 256 (by decide) (by omega) (by omega) dX4_head_232 ?_
          refine li_i2b hx hb dX4_head_233 ?_
          refine li_bastW (y := (i / 256 % 256)) hx hb hK hP hD hS 1 0 rfl rfl (z := z11) (by omega) (by omega) (by (try simp only [List.length_append, List.length_cons, List.length_nil]); omega) (by omega) dX4_head_234 (fun H locs hP hD hS => ?_)
          have hP : va_P (dC, dI) vwCl [(mm, .inr (4, [.int (iI fl), .ref ta, .int (iI tz), .ref ka, .int (iI nn), .ref da, .ref ya, .int (iI pt), .int (iI md), .int (iI sx)])), (ta, .inl (cT, 4096, .inl (fun j => bI ((wrB t ((pl : Int).toNat) ((lh ++ [130]) ++ [(i / 256 % 256)])) j))))] H := hP
          have hD : va_D A [(mm, .inr (4, [.int (iI fl), .ref ta, .int (iI tz), .ref ka, .int (iI nn), .ref da, .ref ya, .int (iI pt), .int (iI md), .int (iI sx)])), (ta, .inl (cT, 4096, .inl (fun j => bI ((wrB t ((pl : Int).toNat) ((lh ++ [130]) ++ [(i / 256 % 256)])) j))))] := hD
          refine lv_iinc (v := iI 0) (lv' := [(9, .int (iI 0)), (6, .int (iI z13)), (8, .int (iI 2)), (0, .ref mm), (1, .int (iI pl)), (2, .int (iI x)), (3, .int (iI y)), (4, .int (iI cs)), (5, .int (iI i))]) hx hb dX4_head_235 hl (k := 1) rfl (by decide +kernel) (by decide) rfl (fun ls hl => ?_)
          refine lv_goto (tgt := 211) hx hb dX4_head_238 (by decide) ?_
          refine lv_iload hx hb dX4_head_211 (lv_at hl 0 rfl) ?_
          refine li_if_lt (tgt := 241) hx hb (by omega) dX4_head_213 (by decide) (fun c14 => absurd c14 (by omega)) (fun c14 => ?_)
          refine lv_aload_n hx hb dX4_head_216 rfl (lv_at hl 3 rfl) ?_
          refine va_get (D := (dC, dI)) (ci := 4) (v := .ref ta) (C := RX4) (T := TX4) (N := 10) hx hb hT inX4 hown hK hP 0 rfl rfl 1 (by decide) (hT _ wd518) (fun _ h9 => h9) rfl dX4_head_217 ?_
          refine lv_iload hx hb dX4_head_220 (lv_at hl 1 rfl) ?_
          obtain ⟨z15, ez15⟩ : ∃ y : Int, y = z13 + 1 := ⟨_, rfl⟩
          refine lv_iinc (v := iI z15) (lv' := [(6, .int (iI z15)), (9, .int (iI 0)), (8, .int (iI 2)), (0, .ref mm), (1, .int (iI pl)), (2, .int (iI x)), (3, .int (iI y)), (4, .int (iI cs)), (5, .int (iI i))]) hx hb dX4_head_222 hl (k := 1) rfl (by rw [ez15]; exact iI_add _ _) (by decide) rfl (fun ls hl => ?_)
          refine lv_iload hx hb dX4_head_225 (lv_at hl 8 rfl) ?_
          refine lv_bipush (v := iI 8) hx hb dX4_head_227 (by decide +kernel) ?_
          refine lv_iload hx hb dX4_head_229 (lv_at hl 1 rfl) ?_
          refine li_imul hx hb dX4_head_231 ?_
          refine li_re (show ((8) * (0) : Int) = 0 by decide) ?_
          refine li_ishrK hx hb 1 (by decide) (by omega) (by omega) dX4_head_232 ?_
          refine li_i2b hx hb dX4_head_233 ?_
          refine li_bastW (y := (i % 256)) hx hb hK hP hD hS 1 0 rfl rfl (z := z13) (by omega) (by omega) (by (try simp only [List.length_append, List.length_cons, List.length_nil]); omega) (by omega) dX4_head_234 (fun H locs hP hD hS => ?_)
          have hP : va_P (dC, dI) vwCl [(mm, .inr (4, [.int (iI fl), .ref ta, .int (iI tz), .ref ka, .int (iI nn), .ref da, .ref ya, .int (iI pt), .int (iI md), .int (iI sx)])), (ta, .inl (cT, 4096, .inl (fun j => bI ((wrB t ((pl : Int).toNat) (((lh ++ [130]) ++ [(i / 256 % 256)]) ++ [(i % 256)])) j))))] H := hP
          have hD : va_D A [(mm, .inr (4, [.int (iI fl), .ref ta, .int (iI tz), .ref ka, .int (iI nn), .ref da, .ref ya, .int (iI pt), .int (iI md), .int (iI sx)])), (ta, .inl (cT, 4096, .inl (fun j => bI ((wrB t ((pl : Int).toNat) (((lh ++ [130]) ++ [(i / 256 % 256)]) ++ [(i % 256)])) j))))] := hD
          refine lv_iinc (v := iI (-1)) (lv' := [(9, .int (iI (-1))), (6, .int (iI z15)), (8, .int (iI 2)), (0, .ref mm), (1, .int (iI pl)), (2, .int (iI x)), (3, .int (iI y)), (4, .int (iI cs)), (5, .int (iI i))]) hx hb dX4_head_235 hl (k := 1) rfl (by decide +kernel) (by decide) rfl (fun ls hl => ?_)
          refine lv_goto (tgt := 211) hx hb dX4_head_238 (by decide) ?_
          refine lv_iload hx hb dX4_head_211 (lv_at hl 0 rfl) ?_
          refine li_if_lt (tgt := 241) hx hb (by omega) dX4_head_213 (by decide) (fun c16 => ?_) (fun c16 => absurd c16 (by omega))
          refine lv_iload hx hb dX4_head_241 (lv_at hl 1 rfl) ?_
          have hll := idB_len (x := x) (cs := cs) hy.1
          have heq : (((lh ++ [130]) ++ [(i / 256 % 256)]) ++ [(i % 256)]) = idB x y cs ++ lnB i := by rw [hlh]; first | (rw [lnB_0 (by omega)]; done) | (rw [lnB_1 (by omega) (by omega)]; simp only [List.append_assoc]; done) | (rw [lnB_1 (by omega) (by omega)]; simp only [List.append_assoc]; rfl) | (rw [lnB_2 (by omega)]; simp only [List.append_assoc]; done) | (rw [lnB_2 (by omega)]; simp only [List.append_assoc]; rfl)
          rw [← hlh] at hll
          subst hQ9
          have hP9 := hP.sub (ws' := [(mm, .inr (4, [.int (iI fl), .ref ta, .int (iI tz), .ref ka, .int (iI nn), .ref da, .ref ya, .int (iI pt), .int (iI md), .int (iI sx)])), (ta, .inl (cT, 4096, .inl (fun j => bI ((wrB t ((pl : Int).toNat) (((lh ++ [130]) ++ [(i / 256 % 256)]) ++ [(i % 256)])) j))))]) [0, 1] rfl
          have hD9 := hD.sub (ws' := [(mm, .inr (4, [.int (iI fl), .ref ta, .int (iI tz), .ref ka, .int (iI nn), .ref da, .ref ya, .int (iI pt), .int (iI md), .int (iI sx)])), (ta, .inl (cT, 4096, .inl (fun j => bI ((wrB t ((pl : Int).toNat) (((lh ++ [130]) ++ [(i / 256 % 256)]) ++ [(i % 256)])) j))))]) [0, 1] (by decide) rfl
          have hK9 := hK.sub (tys' := [(cT, .byte)]) [0] rfl
          exact mv_iret hx hb hr hlocks (fun tS ht hW => ⟨⟨_, ((wrB t ((pl : Int).toNat) (((lh ++ [130]) ++ [(i / 256 % 256)]) ++ [(i % 256)])), z15), rfl, ⟨rfl, by rw [← heq], by unfold lnLen; (repeat' split) <;> omega, by omega, by omega⟩, by rw [ht]; exact hP9, va_K.moved hW.alike hK9, hD9⟩, hS.F ht⟩) hS.2.2 dX4_head_243
      · skip
        refine lv_aload_n hx hb dX4_head_147 rfl (lv_at hl 0 rfl) ?_
        refine va_get (D := (dC, dI)) (ci := 4) (v := .ref ta) (C := RX4) (T := TX4) (N := 10) hx hb hT inX4 hown hK hP 0 rfl rfl 1 (by decide) (hT _ wd518) (fun _ h9 => h9) rfl dX4_head_148 ?_
        refine lv_iload hx hb dX4_head_151 (lv_at hl 6 rfl) ?_
        obtain ⟨z17, ez17⟩ : ∃ y : Int, y = g + 1 := ⟨_, rfl⟩
        refine lv_iinc (v := iI z17) (lv' := [(6, .int (iI z17)), (0, .ref mm), (1, .int (iI pl)), (2, .int (iI x)), (3, .int (iI y)), (4, .int (iI cs)), (5, .int (iI i))]) hx hb dX4_head_153 hl (k := 6) rfl (by rw [ez17]; exact iI_add _ _) (by decide) rfl (fun ls hl => ?_)
        refine lv_iload hx hb dX4_head_156 (lv_at hl 6 rfl) ?_
        refine li_i2b hx hb dX4_head_158 ?_
        refine li_bastW (y := i) hx hb hK hP hD hS 1 0 rfl rfl (z := g) (by omega) (by omega) (by (try simp only [List.length_append, List.length_cons, List.length_nil]); omega) (by omega) dX4_head_159 (fun H locs hP hD hS => ?_)
        have hP : va_P (dC, dI) vwCl [(mm, .inr (4, [.int (iI fl), .ref ta, .int (iI tz), .ref ka, .int (iI nn), .ref da, .ref ya, .int (iI pt), .int (iI md), .int (iI sx)])), (ta, .inl (cT, 4096, .inl (fun j => bI ((wrB t ((pl : Int).toNat) (lh ++ [i])) j))))] H := hP
        have hD : va_D A [(mm, .inr (4, [.int (iI fl), .ref ta, .int (iI tz), .ref ka, .int (iI nn), .ref da, .ref ya, .int (iI pt), .int (iI md), .int (iI sx)])), (ta, .inl (cT, 4096, .inl (fun j => bI ((wrB t ((pl : Int).toNat) (lh ++ [i])) j))))] := hD
        refine lv_goto (tgt := 241) hx hb dX4_head_160 (by decide) ?_
        refine lv_iload hx hb dX4_head_241 (lv_at hl 0 rfl) ?_
        have hll := idB_len (x := x) (cs := cs) hy.1
        have heq : (lh ++ [i]) = idB x y cs ++ lnB i := by rw [hlh]; first | (rw [lnB_0 (by omega)]; done) | (rw [lnB_1 (by omega) (by omega)]; simp only [List.append_assoc]; done) | (rw [lnB_1 (by omega) (by omega)]; simp only [List.append_assoc]; rfl) | (rw [lnB_2 (by omega)]; simp only [List.append_assoc]; done) | (rw [lnB_2 (by omega)]; simp only [List.append_assoc]; rfl)
        rw [← hlh] at hll
        subst hQ9
        have hP9 := hP.sub (ws' := [(mm, .inr (4, [.int (iI fl), .ref ta, .int (iI tz), .ref ka, .int (iI nn), .ref da, .ref ya, .int (iI pt), .int (iI md), .int (iI sx)])), (ta, .inl (cT, 4096, .inl (fun j => bI ((wrB t ((pl : Int).toNat) (lh ++ [i])) j))))]) [0, 1] rfl
        have hD9 := hD.sub (ws' := [(mm, .inr (4, [.int (iI fl), .ref ta, .int (iI tz), .ref ka, .int (iI nn), .ref da, .ref ya, .int (iI pt), .int (iI md), .int (iI sx)])), (ta, .inl (cT, 4096, .inl (fun j => bI ((wrB t ((pl : Int).toNat) (lh ++ [i])) j))))]) [0, 1] (by decide) rfl
        have hK9 := hK.sub (tys' := [(cT, .byte)]) [0] rfl
        exact mv_iret hx hb hr hlocks (fun tS ht hW => ⟨⟨_, ((wrB t ((pl : Int).toNat) (lh ++ [i])), z17), rfl, ⟨rfl, by rw [← heq], by unfold lnLen; (repeat' split) <;> omega, by omega, by omega⟩, by rw [ht]; exact hP9, va_K.moved hW.alike hK9, hD9⟩, hS.F ht⟩) hS.2.2 dX4_head_243
  have J21 : ∀ (fu : Nat) (g : Int) (H : Heap) (locs : List Loc) (ls : Array Slot) (kc ks : Nat), (0 < (fu : Int)) → (g = x * 64 + cs * 32) → (kc = 0 ∧ ks = 0) → va_K (dC, dI) vwCl [(cT, .byte)] s → va_P (dC, dI) vwCl [(mm, .inr (4, [.int (iI fl), .ref ta, .int (iI tz), .ref ka, .int (iI nn), .ref da, .ref ya, .int (iI pt), .int (iI md), .int (iI sx)])), (ta, .inl (cT, 4096, .inl (fun j => bI ((wrB t ((pl : Int).toNat) ([] : List Int)) j))))] H → va_D A [(mm, .inr (4, [.int (iI fl), .ref ta, .int (iI tz), .ref ka, .int (iI nn), .ref da, .ref ya, .int (iI pt), .int (iI md), .int (iI sx)])), (ta, .inl (cT, 4096, .inl (fun j => bI ((wrB t ((pl : Int).toNat) ([] : List Int)) j))))] → va_S A s.heap H locs → lv_has ls 11 [(0, .ref mm), (1, .int (iI pl)), (2, .int (iI x)), (3, .int (iI y)), (4, .int (iI cs)), (5, .int (iI i)), (6, .int (iI pl)), (7, .int (iI g))] → W p l e ({ frames := 1, cells := 0, slots := 0, locals := 60 }) s m ([.ref mm, .int (iI pl), .int (iI x), .int (iI y), .int (iI cs), .int (iI i)] : List Value).toArray below meth c H locs kc ks Q9 (F0 m 21 ls []) := by
    intro fu
    induction fu with
    | zero =>
      intro g H locs ls kc ks hfu hg hkc hK hP hD hS hl
      exfalso
      omega
    | succ fu ih =>
      intro g H locs ls kc ks hfu hg hkc hK hP hD hS hl
      have hle : 1 ≤ lnLen i := by unfold lnLen; (repeat' split) <;> omega
      have hid : (31 ≤ y → 2 ≤ idLen y) ∧ (128 ≤ y → 3 ≤ idLen y) ∧ (16384 ≤ y → 4 ≤ idLen y) ∧ (2097152 ≤ y → 5 ≤ idLen y) ∧ (268435456 ≤ y → 6 ≤ idLen y) ∧ 1 ≤ idLen y := by unfold idLen; (repeat' split) <;> omega
      refine lv_iload_n hx hb dX4_head_21 rfl (lv_at hl 3 rfl) ?_
      refine lv_bipush (v := iI 31) hx hb dX4_head_22 (by decide +kernel) ?_
      refine li_icmp_ge (tgt := 45) hx hb (by omega) (by omega) dX4_head_24 (by decide) (fun c18 => ?_) (fun c18 => ?_)
      · skip
        refine lv_aload_n hx hb dX4_head_45 rfl (lv_at hl 0 rfl) ?_
        refine va_get (D := (dC, dI)) (ci := 4) (v := .ref ta) (C := RX4) (T := TX4) (N := 10) hx hb hT inX4 hown hK hP 0 rfl rfl 1 (by decide) (hT _ wd518) (fun _ h9 => h9) rfl dX4_head_46 ?_
        refine lv_iload hx hb dX4_head_49 (lv_at hl 6 rfl) ?_
        obtain ⟨z19, ez19⟩ : ∃ y : Int, y = pl + 1 := ⟨_, rfl⟩
        refine lv_iinc (v := iI z19) (lv' := [(6, .int (iI z19)), (0, .ref mm), (1, .int (iI pl)), (2, .int (iI x)), (3, .int (iI y)), (4, .int (iI cs)), (5, .int (iI i)), (7, .int (iI g))]) hx hb dX4_head_51 hl (k := 6) rfl (by rw [ez19]; exact iI_add _ _) (by decide) rfl (fun ls hl => ?_)
        refine lv_iload hx hb dX4_head_54 (lv_at hl 7 rfl) ?_
        refine lv_bipush (v := iI 31) hx hb dX4_head_56 (by decide +kernel) ?_
        refine li_ior5 (z := (x * 2 + cs)) hx hb (by omega) (by omega) dX4_head_58 ?_
        refine li_i2b hx hb dX4_head_59 ?_
        refine li_bastW (y := (x * 64 + cs * 32 + 31)) hx hb hK hP hD hS 1 0 rfl rfl (z := pl) (by omega) (by omega) (by (try simp only [List.length_append, List.length_cons, List.length_nil]); omega) (by omega) dX4_head_60 (fun H locs hP hD hS => ?_)
        have hP : va_P (dC, dI) vwCl [(mm, .inr (4, [.int (iI fl), .ref ta, .int (iI tz), .ref ka, .int (iI nn), .ref da, .ref ya, .int (iI pt), .int (iI md), .int (iI sx)])), (ta, .inl (cT, 4096, .inl (fun j => bI ((wrB t ((pl : Int).toNat) (([] : List Int) ++ [(x * 64 + cs * 32 + 31)])) j))))] H := hP
        have hD : va_D A [(mm, .inr (4, [.int (iI fl), .ref ta, .int (iI tz), .ref ka, .int (iI nn), .ref da, .ref ya, .int (iI pt), .int (iI md), .int (iI sx)])), (ta, .inl (cT, 4096, .inl (fun j => bI ((wrB t ((pl : Int).toNat) (([] : List Int) ++ [(x * 64 + cs * 32 + 31)])) j))))] := hD
        refine lv_iconst (v := iI 0) hx hb dX4_head_61 rfl ?_
        refine lv_istore (lv' := [(8, .int (iI 0)), (6, .int (iI z19)), (0, .ref mm), (1, .int (iI pl)), (2, .int (iI x)), (3, .int (iI y)), (4, .int (iI cs)), (5, .int (iI i)), (7, .int (iI g))]) hx hb dX4_head_62 hl (by decide) rfl (fun ls hl => ?_)
        refine lv_iload_n hx hb dX4_head_64 rfl (lv_at hl 5 rfl) ?_
        refine li_i2l hx hb (by omega) dX4_head_65 ?_
        refine lv_lstore (lv' := [(9, .long (lI y)), (8, .int (iI 0)), (6, .int (iI z19)), (0, .ref mm), (1, .int (iI pl)), (2, .int (iI x)), (3, .int (iI y)), (4, .int (iI cs)), (5, .int (iI i)), (7, .int (iI g))]) hx hb dX4_head_66 hl (by decide) rfl (fun ls hl => ?_)
        refine lv_lload hx hb dX4_head_68 (lv_at hl 0 rfl) ?_
        refine lv_lconst (v := lI 0) hx hb dX4_head_70 (by decide +kernel) ?_
        refine li_lcmp_le (tgt := 88) hx hb (by omega) (by omega) dX4_head_71 dX4_head_72 (by decide) (fun c20 => absurd c20 (by omega)) (fun c20 => ?_)
        refine lv_iinc (v := iI 1) (lv' := [(8, .int (iI 1)), (9, .long (lI y)), (6, .int (iI z19)), (0, .ref mm), (1, .int (iI pl)), (2, .int (iI x)), (3, .int (iI y)), (4, .int (iI cs)), (5, .int (iI i)), (7, .int (iI g))]) hx hb dX4_head_75 hl (k := 1) rfl (by decide +kernel) (by decide) rfl (fun ls hl => ?_)
        refine lv_lload hx hb dX4_head_78 (lv_at hl 1 rfl) ?_
        refine lv_bipush (v := iI 7) hx hb dX4_head_80 (by decide +kernel) ?_
        refine li_lshrK hx hb 128 (by decide) (by omega) (by omega) dX4_head_82 ?_
        refine li_nml (fun z21 ez21 => ?_)
        refine lv_lstore (lv' := [(9, .long (lI z21)), (8, .int (iI 1)), (6, .int (iI z19)), (0, .ref mm), (1, .int (iI pl)), (2, .int (iI x)), (3, .int (iI y)), (4, .int (iI cs)), (5, .int (iI i)), (7, .int (iI g))]) hx hb dX4_head_83 hl (by decide) rfl (fun ls hl => ?_)
        refine lv_goto (tgt := 68) hx hb dX4_head_85 (by decide) ?_
        refine lv_lload hx hb dX4_head_68 (lv_at hl 0 rfl) ?_
        refine lv_lconst (v := lI 0) hx hb dX4_head_70 (by decide +kernel) ?_
        refine li_lcmp_le (tgt := 88) hx hb (by omega) (by omega) dX4_head_71 dX4_head_72 (by decide) (fun c22 => ?_) (fun c22 => ?_)
        · skip
          refine lv_iload hx hb dX4_head_88 (lv_at hl 1 rfl) ?_
          refine lv_iconst (v := iI 1) hx hb dX4_head_90 rfl ?_
          refine li_isub hx hb dX4_head_91 ?_
          refine li_re (show ((1) - (1) : Int) = 0 by decide) ?_
          refine lv_istore (lv' := [(9, .int (iI 0)), (8, .int (iI 1)), (6, .int (iI z19)), (0, .ref mm), (1, .int (iI pl)), (2, .int (iI x)), (3, .int (iI y)), (4, .int (iI cs)), (5, .int (iI i)), (7, .int (iI g))]) hx hb dX4_head_92 hl (by decide) rfl (fun ls hl => ?_)
          refine lv_iload hx hb dX4_head_94 (lv_at hl 0 rfl) ?_
          refine li_if_lt (tgt := 139) hx hb (by omega) dX4_head_96 (by decide) (fun c23 => absurd c23 (by omega)) (fun c23 => ?_)
          refine lv_aload_n hx hb dX4_head_99 rfl (lv_at hl 3 rfl) ?_
          refine va_get (D := (dC, dI)) (ci := 4) (v := .ref ta) (C := RX4) (T := TX4) (N := 10) hx hb hT inX4 hown hK hP 0 rfl rfl 1 (by decide) (hT _ wd518) (fun _ h9 => h9) rfl dX4_head_100 ?_
          refine lv_iload hx hb dX4_head_103 (lv_at hl 2 rfl) ?_
          obtain ⟨z24, ez24⟩ : ∃ y : Int, y = z19 + 1 := ⟨_, rfl⟩
          refine lv_iinc (v := iI z24) (lv' := [(6, .int (iI z24)), (9, .int (iI 0)), (8, .int (iI 1)), (0, .ref mm), (1, .int (iI pl)), (2, .int (iI x)), (3, .int (iI y)), (4, .int (iI cs)), (5, .int (iI i)), (7, .int (iI g))]) hx hb dX4_head_105 hl (k := 2) rfl (by rw [ez24]; exact iI_add _ _) (by decide) rfl (fun ls hl => ?_)
          refine lv_iload_n hx hb dX4_head_108 rfl (lv_at hl 6 rfl) ?_
          refine lv_bipush (v := iI 7) hx hb dX4_head_109 (by decide +kernel) ?_
          refine lv_iload hx hb dX4_head_111 (lv_at hl 1 rfl) ?_
          refine li_imul hx hb dX4_head_113 ?_
          refine li_re (show ((7) * (0) : Int) = 0 by decide) ?_
          refine li_ishrK hx hb 1 (by decide) (by omega) (by omega) dX4_head_114 ?_
          refine lv_bipush (v := iI 127) hx hb dX4_head_115 (by decide +kernel) ?_
          refine li_iand127 hx hb dX4_head_117 ?_
          refine lv_iload hx hb dX4_head_118 (lv_at hl 1 rfl) ?_
          refine li_if_le (tgt := 129) hx hb (by omega) dX4_head_120 (by decide) (fun c25 => ?_) (fun c25 => absurd c25 (by omega))
          refine lv_iconst (v := iI 0) hx hb dX4_head_129 rfl ?_
          refine li_ior7 (z := 0) hx hb (by omega) (by omega) dX4_head_130 ?_
          refine li_i2b hx hb dX4_head_131 ?_
          refine li_bastW (y := (y % 128)) hx hb hK hP hD hS 1 0 rfl rfl (z := z19) (by omega) (by omega) (by (try simp only [List.length_append, List.length_cons, List.length_nil]); omega) (by omega) dX4_head_132 (fun H locs hP hD hS => ?_)
          have hP : va_P (dC, dI) vwCl [(mm, .inr (4, [.int (iI fl), .ref ta, .int (iI tz), .ref ka, .int (iI nn), .ref da, .ref ya, .int (iI pt), .int (iI md), .int (iI sx)])), (ta, .inl (cT, 4096, .inl (fun j => bI ((wrB t ((pl : Int).toNat) ((([] : List Int) ++ [(x * 64 + cs * 32 + 31)]) ++ [(y % 128)])) j))))] H := hP
          have hD : va_D A [(mm, .inr (4, [.int (iI fl), .ref ta, .int (iI tz), .ref ka, .int (iI nn), .ref da, .ref ya, .int (iI pt), .int (iI md), .int (iI sx)])), (ta, .inl (cT, 4096, .inl (fun j => bI ((wrB t ((pl : Int).toNat) ((([] : List Int) ++ [(x * 64 + cs * 32 + 31)]) ++ [(y % 128)])) j))))] := hD
          refine lv_iinc (v := iI (-1)) (lv' := [(9, .int (iI (-1))), (6, .int (iI z24)), (8, .int (iI 1)), (0, .ref mm), (1, .int (iI pl)), (2, .int (iI x)), (3, .int (iI y)), (4, .int (iI cs)), (5, .int (iI i)), (7, .int (iI g))]) hx hb dX4_head_133 hl (k := 1) rfl (by decide +kernel) (by decide) rfl (fun ls hl => ?_)
          refine lv_goto (tgt := 94) hx hb dX4_head_136 (by decide) ?_
          refine lv_iload hx hb dX4_head_94 (lv_at hl 0 rfl) ?_
          refine li_if_lt (tgt := 139) hx hb (by omega) dX4_head_96 (by decide) (fun c26 => ?_) (fun c26 => absurd c26 (by omega))
          exact J139 (1) z24 ((([] : List Int) ++ [(x * 64 + cs * 32 + 31)]) ++ [(y % 128)]) _ _ _ _ _ (by omega) (by first | (rw [idB_0 (by omega)]; rfl) | (rw [idB_1 (by omega) (by omega)]; rfl) | (rw [idB_2 (by omega) (by omega)]; rfl) | (rw [idB_3 (by omega) (by omega)]; rfl) | (rw [idB_4 (by omega) (by omega)]; rfl) | (rw [idB_5 (by omega)]; rfl)) (by simp only [List.length_append, List.length_cons, List.length_nil]; omega) (by omega) (hK.sub [0] rfl) (hP.sub [0, 1] rfl) (hD.sub [0, 1] (by decide) rfl) hS (lv_sub hl [3, 4, 5, 6, 7, 8, 1] rfl)
        · skip
          refine lv_iinc (v := iI 2) (lv' := [(8, .int (iI 2)), (9, .long (lI z21)), (6, .int (iI z19)), (0, .ref mm), (1, .int (iI pl)), (2, .int (iI x)), (3, .int (iI y)), (4, .int (iI cs)), (5, .int (iI i)), (7, .int (iI g))]) hx hb dX4_head_75 hl (k := 1) rfl (by decide +kernel) (by decide) rfl (fun ls hl => ?_)
          refine lv_lload hx hb dX4_head_78 (lv_at hl 1 rfl) ?_
          refine lv_bipush (v := iI 7) hx hb dX4_head_80 (by decide +kernel) ?_
          refine li_lshrK hx hb 128 (by decide) (by omega) (by omega) dX4_head_82 ?_
          refine li_nml (fun z27 ez27 => ?_)
          refine lv_lstore (lv' := [(9, .long (lI z27)), (8, .int (iI 2)), (6, .int (iI z19)), (0, .ref mm), (1, .int (iI pl)), (2, .int (iI x)), (3, .int (iI y)), (4, .int (iI cs)), (5, .int (iI i)), (7, .int (iI g))]) hx hb dX4_head_83 hl (by decide) rfl (fun ls hl => ?_)
          refine lv_goto (tgt := 68) hx hb dX4_head_85 (by decide) ?_
          refine lv_lload hx hb dX4_head_68 (lv_at hl 0 rfl) ?_
          refine lv_lconst (v := lI 0) hx hb dX4_head_70 (by decide +kernel) ?_
          refine li_lcmp_le (tgt := 88) hx hb (by omega) (by omega) dX4_head_71 dX4_head_72 (by decide) (fun c28 => ?_) (fun c28 => ?_)
          · skip
            refine lv_iload hx hb dX4_head_88 (lv_at hl 1 rfl) ?_
            refine lv_iconst (v := iI 1) hx hb dX4_head_90 rfl ?_
            refine li_isub hx hb dX4_head_91 ?_
            refine li_re (show ((2) - (1) : Int) = 1 by decide) ?_
            refine lv_istore (lv' := [(9, .int (iI 1)), (8, .int (iI 2)), (6, .int (iI z19)), (0, .ref mm), (1, .int (iI pl)), (2, .int (iI x)), (3, .int (iI y)), (4, .int (iI cs)), (5, .int (iI i)), (7, .int (iI g))]) hx hb dX4_head_92 hl (by decide) rfl (fun ls hl => ?_)
            refine lv_iload hx hb dX4_head_94 (lv_at hl 0 rfl) ?_
            refine li_if_lt (tgt := 139) hx hb (by omega) dX4_head_96 (by decide) (fun c29 => absurd c29 (by omega)) (fun c29 => ?_)
            refine lv_aload_n hx hb dX4_head_99 rfl (lv_at hl 3 rfl) ?_
            refine va_get (D := (dC, dI)) (ci := 4) (v := .ref ta) (C := RX4) (T := TX4) (N := 10) hx hb hT inX4 hown hK hP 0 rfl rfl 1 (by decide) (hT _ wd518) (fun _ h9 => h9) rfl dX4_head_100 ?_
            refine lv_iload hx hb dX4_head_103 (lv_at hl 2 rfl) ?_
            obtain ⟨z30, ez30⟩ : ∃ y : Int, y = z19 + 1 := ⟨_, rfl⟩
            refine lv_iinc (v := iI z30) (lv' := [(6, .int (iI z30)), (9, .int (iI 1)), (8, .int (iI 2)), (0, .ref mm), (1, .int (iI pl)), (2, .int (iI x)), (3, .int (iI y)), (4, .int (iI cs)), (5, .int (iI i)), (7, .int (iI g))]) hx hb dX4_head_105 hl (k := 2) rfl (by rw [ez30]; exact iI_add _ _) (by decide) rfl (fun ls hl => ?_)
            refine lv_iload_n hx hb dX4_head_108 rfl (lv_at hl 6 rfl) ?_
            refine lv_bipush (v := iI 7) hx hb dX4_head_109 (by decide +kernel) ?_
            refine lv_iload hx hb dX4_head_111 (lv_at hl 1 rfl) ?_
            refine li_imul hx hb dX4_head_113 ?_
            refine li_re (show ((7) * (1) : Int) = 7 by decide) ?_
            refine li_ishrK hx hb 128 (by decide) (by omega) (by omega) dX4_head_114 ?_
            refine lv_bipush (v := iI 127) hx hb dX4_head_115 (by decide +kernel) ?_
            refine li_iand127 hx hb dX4_head_117 ?_
            refine lv_iload hx hb dX4_head_118 (lv_at hl 1 rfl) ?_
            refine li_if_le (tgt := 129) hx hb (by omega) dX4_head_120 (by decide) (fun c31 => absurd c31 (by omega)) (fun c31 => ?_)
            refine lv_sipush (v := iI 128) hx hb dX4_head_123 (by decide +kernel) ?_
            refine lv_goto (tgt := 130) hx hb dX4_head_126 (by decide) ?_
            refine li_ior7 (z := 1) hx hb (by omega) (by omega) dX4_head_130 ?_
            refine li_i2b hx hb dX4_head_131 ?_
            refine li_bastW (y := (128 + y / 128 % 128)) hx hb hK hP hD hS 1 0 rfl rfl (z := z19) (by omega) (by omega) (by (try simp only [List.length_append, List.length_cons, List.length_nil]); omega) (by omega) dX4_head_132 (fun H locs hP hD hS => ?_)
            have hP : va_P (dC, dI) vwCl [(mm, .inr (4, [.int (iI fl), .ref ta, .int (iI tz), .ref ka, .int (iI nn), .ref da, .ref ya, .int (iI pt), .int (iI md), .int (iI sx)])), (ta, .inl (cT, 4096, .inl (fun j => bI ((wrB t ((pl : Int).toNat) ((([] : List Int) ++ [(x * 64 + cs * 32 + 31)]) ++ [(128 + y / 128 % 128)])) j))))] H := hP
            have hD : va_D A [(mm, .inr (4, [.int (iI fl), .ref ta, .int (iI tz), .ref ka, .int (iI nn), .ref da, .ref ya, .int (iI pt), .int (iI md), .int (iI sx)])), (ta, .inl (cT, 4096, .inl (fun j => bI ((wrB t ((pl : Int).toNat) ((([] : List Int) ++ [(x * 64 + cs * 32 + 31)]) ++ [(128 + y / 128 % 128)])) j))))] := hD
            refine lv_iinc (v := iI 0) (lv' := [(9, .int (iI 0)), (6, .int (iI z30)), (8, .int (iI 2)), (0, .ref mm), (1, .int (iI pl)), (2, .int (iI x)), (3, .int (iI y)), (4, .int (iI cs)), (5, .int (iI i)), (7, .int (iI g))]) hx hb dX4_head_133 hl (k := 1) rfl (by decide +kernel) (by decide) rfl (fun ls hl => ?_)
            refine lv_goto (tgt := 94) hx hb dX4_head_136 (by decide) ?_
            refine lv_iload hx hb dX4_head_94 (lv_at hl 0 rfl) ?_
            refine li_if_lt (tgt := 139) hx hb (by omega) dX4_head_96 (by decide) (fun c32 => absurd c32 (by omega)) (fun c32 => ?_)
            refine lv_aload_n hx hb dX4_head_99 rfl (lv_at hl 3 rfl) ?_
            refine va_get (D := (dC, dI)) (ci := 4) (v := .ref ta) (C := RX4) (T := TX4) (N := 10) hx hb hT inX4 hown hK hP 0 rfl rfl 1 (by decide) (hT _ wd518) (fun _ h9 => h9) rfl dX4_head_100 ?_
            refine lv_iload hx hb dX4_head_103 (lv_at hl 1 rfl) ?_
            obtain ⟨z33, ez33⟩ : ∃ y : Int, y = z30 + 1 := ⟨_, rfl⟩
            refine lv_iinc (v := iI z33) (lv' := [(6, .int (iI z33)), (9, .int (iI 0)), (8, .int (iI 2)), (0, .ref mm), (1, .int (iI pl)), (2, .int (iI x)), (3, .int (iI y)), (4, .int (iI cs)), (5, .int (iI i)), (7, .int (iI g))]) hx hb dX4_head_105 hl (k := 1) rfl (by rw [ez33]; exact iI_add _ _) (by decide) rfl (fun ls hl => ?_)
            refine lv_iload_n hx hb dX4_head_108 rfl (lv_at hl 6 rfl) ?_
            refine lv_bipush (v := iI 7) hx hb dX4_head_109 (by decide +kernel) ?_
            refine lv_iload hx hb dX4_head_111 (lv_at hl 1 rfl) ?_
            refine li_imul hx hb dX4_head_113 ?_
            refine li_re (show ((7) * (0) : Int) = 0 by decide) ?_
            refine li_ishrK hx hb 1 (by decide) (by omega) (by omega) dX4_head_114 ?_
            refine lv_bipush (v := iI 127) hx hb dX4_head_115 (by decide +kernel) ?_
            refine li_iand127 hx hb dX4_head_117 ?_
            refine lv_iload hx hb dX4_head_118 (lv_at hl 1 rfl) ?_
            refine li_if_le (tgt := 129) hx hb (by omega) dX4_head_120 (by decide) (fun c34 => ?_) (fun c34 => absurd c34 (by omega))
            refine lv_iconst (v := iI 0) hx hb dX4_head_129 rfl ?_
            refine li_ior7 (z := 0) hx hb (by omega) (by omega) dX4_head_130 ?_
            refine li_i2b hx hb dX4_head_131 ?_
            refine li_bastW (y := (y % 128)) hx hb hK hP hD hS 1 0 rfl rfl (z := z30) (by omega) (by omega) (by (try simp only [List.length_append, List.length_cons, List.length_nil]); omega) (by omega) dX4_head_132 (fun H locs hP hD hS => ?_)
            have hP : va_P (dC, dI) vwCl [(mm, .inr (4, [.int (iI fl), .ref ta, .int (iI tz), .ref ka, .int (iI nn), .ref da, .ref ya, .int (iI pt), .int (iI md), .int (iI sx)])), (ta, .inl (cT, 4096, .inl (fun j => bI ((wrB t ((pl : Int).toNat) (((([] : List Int) ++ [(x * 64 + cs * 32 + 31)]) ++ [(128 + y / 128 % 128)]) ++ [(y % 128)])) j))))] H := hP
            have hD : va_D A [(mm, .inr (4, [.int (iI fl), .ref ta, .int (iI tz), .ref ka, .int (iI nn), .ref da, .ref ya, .int (iI pt), .int (iI md), .int (iI sx)])), (ta, .inl (cT, 4096, .inl (fun j => bI ((wrB t ((pl : Int).toNat) (((([] : List Int) ++ [(x * 64 + cs * 32 + 31)]) ++ [(128 + y / 128 % 128)]) ++ [(y % 128)])) j))))] := hD
            refine lv_iinc (v := iI (-1)) (lv' := [(9, .int (iI (-1))), (6, .int (iI z33)), (8, .int (iI 2)), (0, .ref mm), (1, .int (iI pl)), (2, .int (iI x)), (3, .int (iI y)), (4, .int (iI cs)), (5, .int (iI i)), (7, .int (iI g))]) hx hb dX4_head_133 hl (k := 1) rfl (by decide +kernel) (by decide) rfl (fun ls hl => ?_)
            refine lv_goto (tgt := 94) hx hb dX4_head_136 (by decide) ?_
            refine lv_iload hx hb dX4_head_94 (lv_at hl 0 rfl) ?_
            refine li_if_lt (tgt := 139) hx hb (by omega) dX4_head_96 (by decide) (fun c35 => ?_) (fun c35 => absurd c35 (by omega))
            exact J139 (1) z33 (((([] : List Int) ++ [(x * 64 + cs * 32 + 31)]) ++ [(128 + y / 128 % 128)]) ++ [(y % 128)]) _ _ _ _ _ (by omega) (by first | (rw [idB_0 (by omega)]; rfl) | (rw [idB_1 (by omega) (by omega)]; rfl) | (rw [idB_2 (by omega) (by omega)]; rfl) | (rw [idB_3 (by omega) (by omega)]; rfl) | (rw [idB_4 (by omega) (by omega)]; rfl) | (rw [idB_5 (by omega)]; rfl)) (by simp only [List.length_append, List.length_cons, List.length_nil]; omega) (by omega) (hK.sub [0] rfl) (hP.sub [0, 1] rfl) (hD.sub [0, 1] (by decide) rfl) hS (lv_sub hl [3, 4, 5, 6, 7, 8, 1] rfl)
          · skip
            refine lv_iinc (v := iI 3) (lv' := [(8, .int (iI 3)), (9, .long (lI z27)), (6, .int (iI z19)), (0, .ref mm), (1, .int (iI pl)), (2, .int (iI x)), (3, .int (iI y)), (4, .int (iI cs)), (5, .int (iI i)), (7, .int (iI g))]) hx hb dX4_head_75 hl (k := 1) rfl (by decide +kernel) (by decide) rfl (fun ls hl => ?_)
            refine lv_lload hx hb dX4_head_78 (lv_at hl 1 rfl) ?_
            refine lv_bipush (v := iI 7) hx hb dX4_head_80 (by decide +kernel) ?_
            refine li_lshrK hx hb 128 (by decide) (by omega) (by omega) dX4_head_82 ?_
            refine li_nml (fun z36 ez36 => ?_)
            refine lv_lstore (lv' := [(9, .long (lI z36)), (8, .int (iI 3)), (6, .int (iI z19)), (0, .ref mm), (1, .int (iI pl)), (2, .int (iI x)), (3, .int (iI y)), (4, .int (iI cs)), (5, .int (iI i)), (7, .int (iI g))]) hx hb dX4_head_83 hl (by decide) rfl (fun ls hl => ?_)
            refine lv_goto (tgt := 68) hx hb dX4_head_85 (by decide) ?_
            refine lv_lload hx hb dX4_head_68 (lv_at hl 0 rfl) ?_
            refine lv_lconst (v := lI 0) hx hb dX4_head_70 (by decide +kernel) ?_
            refine li_lcmp_le (tgt := 88) hx hb (by omega) (by omega) dX4_head_71 dX4_head_72 (by decide) (fun c37 => ?_) (fun c37 => ?_)
            · skip
              refine lv_iload hx hb dX4_head_88 (lv_at hl 1 rfl) ?_
              refine lv_iconst (v := iI 1) hx hb dX4_head_90 rfl ?_
              refine li_isub hx hb dX4_head_91 ?_
              refine li_re (show ((3) - (1) : Int) = 2 by decide) ?_
              refine lv_istore (lv' := [(9, .int (iI 2)), (8, .int (iI 3)), (6, .int (iI z19)), (0, .ref mm), (1, .int (iI pl)), (2, .int (iI x)), (3, .int (iI y)), (4, .int (iI cs)), (5, .int (iI i)), (7, .int (iI g))]) hx hb dX4_head_92 hl (by decide) rfl (fun ls hl => ?_)
              refine lv_iload hx hb dX4_head_94 (lv_at hl 0 rfl) ?_
              refine li_if_lt (tgt := 139) hx hb (by omega) dX4_head_96 (by decide) (fun c38 => absurd c38 (by omega)) (fun c38 => ?_)
              refine lv_aload_n hx hb dX4_head_99 rfl (lv_at hl 3 rfl) ?_
              refine va_get (D := (dC, dI)) (ci := 4) (v := .ref ta) (C := RX4) (T := TX4) (N := 10) hx hb hT inX4 hown hK hP 0 rfl rfl 1 (by decide) (hT _ wd518) (fun _ h9 => h9) rfl dX4_head_100 ?_
              refine lv_iload hx hb dX4_head_103 (lv_at hl 2 rfl) ?_
              obtain ⟨z39, ez39⟩ : ∃ y : Int, y = z19 + 1 := ⟨_, rfl⟩
              refine lv_iinc (v := iI z39) (lv' := [(6, .int (iI z39)), (9, .int (iI 2)), (8, .int (iI 3)), (0, .ref mm), (1, .int (iI pl)), (2, .int (iI x)), (3, .int (iI y)), (4, .int (iI cs)), (5, .int (iI i)), (7, .int (iI g))]) hx hb dX4_head_105 hl (k := 2) rfl (by rw [ez39]; exact iI_add _ _) (by decide) rfl (fun ls hl => ?_)
              refine lv_iload_n hx hb dX4_head_108 rfl (lv_at hl 6 rfl) ?_
              refine lv_bipush (v := iI 7) hx hb dX4_head_109 (by decide +kernel) ?_
              refine lv_iload hx hb dX4_head_111 (lv_at hl 1 rfl) ?_
              refine li_imul hx hb dX4_head_113 ?_
              refine li_re (show ((7) * (2) : Int) = 14 by decide) ?_
              refine li_ishrK hx hb 16384 (by decide) (by omega) (by omega) dX4_head_114 ?_
              refine lv_bipush (v := iI 127) hx hb dX4_head_115 (by decide +kernel) ?_
              refine li_iand127 hx hb dX4_head_117 ?_
              refine lv_iload hx hb dX4_head_118 (lv_at hl 1 rfl) ?_
              refine li_if_le (tgt := 129) hx hb (by omega) dX4_head_120 (by decide) (fun c40 => absurd c40 (by omega)) (fun c40 => ?_)
              refine lv_sipush (v := iI 128) hx hb dX4_head_123 (by decide +kernel) ?_
              refine lv_goto (tgt := 130) hx hb dX4_head_126 (by decide) ?_
              refine li_ior7 (z := 1) hx hb (by omega) (by omega) dX4_head_130 ?_
              refine li_i2b hx hb dX4_head_131 ?_
              refine li_bastW (y := (128 + y / 16384 % 128)) hx hb hK hP hD hS 1 0 rfl rfl (z := z19) (by omega) (by omega) (by (try simp only [List.length_append, List.length_cons, List.length_nil]); omega) (by omega) dX4_head_132 (fun H locs hP hD hS => ?_)
              have hP : va_P (dC, dI) vwCl [(mm, .inr (4, [.int (iI fl), .ref ta, .int (iI tz), .ref ka, .int (iI nn), .ref da, .ref ya, .int (iI pt), .int (iI md), .int (iI sx)])), (ta, .inl (cT, 4096, .inl (fun j => bI ((wrB t ((pl : Int).toNat) ((([] : List Int) ++ [(x * 64 + cs * 32 + 31)]) ++ [(128 + y / 16384 % 128)])) j))))] H := hP
              have hD : va_D A [(mm, .inr (4, [.int (iI fl), .ref ta, .int (iI tz), .ref ka, .int (iI nn), .ref da, .ref ya, .int (iI pt), .int (iI md), .int (iI sx)])), (ta, .inl (cT, 4096, .inl (fun j => bI ((wrB t ((pl : Int).toNat) ((([] : List Int) ++ [(x * 64 + cs * 32 + 31)]) ++ [(128 + y / 16384 % 128)])) j))))] := hD
              refine lv_iinc (v := iI 1) (lv' := [(9, .int (iI 1)), (6, .int (iI z39)), (8, .int (iI 3)), (0, .ref mm), (1, .int (iI pl)), (2, .int (iI x)), (3, .int (iI y)), (4, .int (iI cs)), (5, .int (iI i)), (7, .int (iI g))]) hx hb dX4_head_133 hl (k := 1) rfl (by decide +kernel) (by decide) rfl (fun ls hl => ?_)
              refine lv_goto (tgt := 94) hx hb dX4_head_136 (by decide) ?_
              refine lv_iload hx hb dX4_head_94 (lv_at hl 0 rfl) ?_
              refine li_if_lt (tgt := 139) hx hb (by omega) dX4_head_96 (by decide) (fun c41 => absurd c41 (by omega)) (fun c41 => ?_)
              refine lv_aload_n hx hb dX4_head_99 rfl (lv_at hl 3 rfl) ?_
              refine va_get (D := (dC, dI)) (ci := 4) (v := .ref ta) (C := RX4) (T := TX4) (N := 10) hx hb hT inX4 hown hK hP 0 rfl rfl 1 (by decide) (hT _ wd518) (fun _ h9 => h9) rfl dX4_head_100 ?_
              refine lv_iload hx hb dX4_head_103 (lv_at hl 1 rfl) ?_
              obtain ⟨z42, ez42⟩ : ∃ y : Int, y = z39 + 1 := ⟨_, rfl⟩
              refine lv_iinc (v := iI z42) (lv' := [(6, .int (iI z42)), (9, .int (iI 1)), (8, .int (iI 3)), (0, .ref mm), (1, .int (iI pl)), (2, .int (iI x)), (3, .int (iI y)), (4, .int (iI cs)), (5, .int (iI i)), (7, .int (iI g))]) hx hb dX4_head_105 hl (k := 1) rfl (by rw [ez42]; exact iI_add _ _) (by decide) rfl (fun ls hl => ?_)
              refine lv_iload_n hx hb dX4_head_108 rfl (lv_at hl 6 rfl) ?_
              refine lv_bipush (v := iI 7) hx hb dX4_head_109 (by decide +kernel) ?_
              refine lv_iload hx hb dX4_head_111 (lv_at hl 1 rfl) ?_
              refine li_imul hx hb dX4_head_113 ?_
              refine li_re (show ((7) * (1) : Int) = 7 by decide) ?_
              refine li_ishrK hx hb 128 (by decide) (by omega) (by omega) dX4_head_114 ?_
              refine lv_bipush (v := iI 127) hx hb dX4_head_115 (by decide +kernel) ?_
              refine li_iand127 hx hb dX4_head_117 ?_
              refine lv_iload hx hb dX4_head_118 (lv_at hl 1 rfl) ?_
              refine li_if_le (tgt := 129) hx hb (by omega) dX4_head_120 (by decide) (fun c43 => absurd c43 (by omega)) (fun c43 => ?_)
              refine lv_sipush (v := iI 128) hx hb dX4_head_123 (by decide +kernel) ?_
              refine lv_goto (tgt := 130) hx hb dX4_head_126 (by decide) ?_
              refine li_ior7 (z := 1) hx hb (by omega) (by omega) dX4_head_130 ?_
              refine li_i2b hx hb dX4_head_131 ?_
              refine li_bastW (y := (128 + y / 128 % 128)) hx hb hK hP hD hS 1 0 rfl rfl (z := z39) (by omega) (by omega) (by (try simp only [List.length_append, List.length_cons, List.length_nil]); omega) (by omega) dX4_head_132 (fun H locs hP hD hS => ?_)
              have hP : va_P (dC, dI) vwCl [(mm, .inr (4, [.int (iI fl), .ref ta, .int (iI tz), .ref ka, .int (iI nn), .ref da, .ref ya, .int (iI pt), .int (iI md), .int (iI sx)])), (ta, .inl (cT, 4096, .inl (fun j => bI ((wrB t ((pl : Int).toNat) (((([] : List Int) ++ [(x * 64 + cs * 32 + 31)]) ++ [(128 + y / 16384 % 128)]) ++ [(128 + y / 128 % 128)])) j))))] H := hP
              have hD : va_D A [(mm, .inr (4, [.int (iI fl), .ref ta, .int (iI tz), .ref ka, .int (iI nn), .ref da, .ref ya, .int (iI pt), .int (iI md), .int (iI sx)])), (ta, .inl (cT, 4096, .inl (fun j => bI ((wrB t ((pl : Int).toNat) (((([] : List Int) ++ [(x * 64 + cs * 32 + 31)]) ++ [(128 + y / 16384 % 128)]) ++ [(128 + y / 128 % 128)])) j))))] := hD
              refine lv_iinc (v := iI 0) (lv' := [(9, .int (iI 0)), (6, .int (iI z42)), (8, .int (iI 3)), (0, .ref mm), (1, .int (iI pl)), (2, .int (iI x)), (3, .int (iI y)), (4, .int (iI cs)), (5, .int (iI i)), (7, .int (iI g))]) hx hb dX4_head_133 hl (k := 1) rfl (by decide +kernel) (by decide) rfl (fun ls hl => ?_)
              refine lv_goto (tgt := 94) hx hb dX4_head_136 (by decide) ?_
              refine lv_iload hx hb dX4_head_94 (lv_at hl 0 rfl) ?_
              refine li_if_lt (tgt := 139) hx hb (by omega) dX4_head_96 (by decide) (fun c44 => absurd c44 (by omega)) (fun c44 => ?_)
              refine lv_aload_n hx hb dX4_head_99 rfl (lv_at hl 3 rfl) ?_
              refine va_get (D := (dC, dI)) (ci := 4) (v := .ref ta) (C := RX4) (T := TX4) (N := 10) hx hb hT inX4 hown hK hP 0 rfl rfl 1 (by decide) (hT _ wd518) (fun _ h9 => h9) rfl dX4_head_100 ?_
              refine lv_iload hx hb dX4_head_103 (lv_at hl 1 rfl) ?_
              obtain ⟨z45, ez45⟩ : ∃ y : Int, y = z42 + 1 := ⟨_, rfl⟩
              refine lv_iinc (v := iI z45) (lv' := [(6, .int (iI z45)), (9, .int (iI 0)), (8, .int (iI 3)), (0, .ref mm), (1, .int (iI pl)), (2, .int (iI x)), (3, .int (iI y)), (4, .int (iI cs)), (5, .int (iI i)), (7, .int (iI g))]) hx hb dX4_head_105 hl (k := 1) rfl (by rw [ez45]; exact iI_add _ _) (by decide) rfl (fun ls hl => ?_)
              refine lv_iload_n hx hb dX4_head_108 rfl (lv_at hl 6 rfl) ?_
              refine lv_bipush (v := iI 7) hx hb dX4_head_109 (by decide +kernel) ?_
              refine lv_iload hx hb dX4_head_111 (lv_at hl 1 rfl) ?_
              refine li_imul hx hb dX4_head_113 ?_
              refine li_re (show ((7) * (0) : Int) = 0 by decide) ?_
              refine li_ishrK hx hb 1 (by decide) (by omega) (by omega) dX4_head_114 ?_
              refine lv_bipush (v := iI 127) hx hb dX4_head_115 (by decide +kernel) ?_
              refine li_iand127 hx hb dX4_head_117 ?_
              refine lv_iload hx hb dX4_head_118 (lv_at hl 1 rfl) ?_
              refine li_if_le (tgt := 129) hx hb (by omega) dX4_head_120 (by decide) (fun c46 => ?_) (fun c46 => absurd c46 (by omega))
              refine lv_iconst (v := iI 0) hx hb dX4_head_129 rfl ?_
              refine li_ior7 (z := 0) hx hb (by omega) (by omega) dX4_head_130 ?_
              refine li_i2b hx hb dX4_head_131 ?_
              refine li_bastW (y := (y % 128)) hx hb hK hP hD hS 1 0 rfl rfl (z := z42) (by omega) (by omega) (by (try simp only [List.length_append, List.length_cons, List.length_nil]); omega) (by omega) dX4_head_132 (fun H locs hP hD hS => ?_)
              have hP : va_P (dC, dI) vwCl [(mm, .inr (4, [.int (iI fl), .ref ta, .int (iI tz), .ref ka, .int (iI nn), .ref da, .ref ya, .int (iI pt), .int (iI md), .int (iI sx)])), (ta, .inl (cT, 4096, .inl (fun j => bI ((wrB t ((pl : Int).toNat) ((((([] : List Int) ++ [(x * 64 + cs * 32 + 31)]) ++ [(128 + y / 16384 % 128)]) ++ [(128 + y / 128 % 128)]) ++ [(y % 128)])) j))))] H := hP
              have hD : va_D A [(mm, .inr (4, [.int (iI fl), .ref ta, .int (iI tz), .ref ka, .int (iI nn), .ref da, .ref ya, .int (iI pt), .int (iI md), .int (iI sx)])), (ta, .inl (cT, 4096, .inl (fun j => bI ((wrB t ((pl : Int).toNat) ((((([] : List Int) ++ [(x * 64 + cs * 32 + 31)]) ++ [(128 + y / 16384 % 128)]) ++ [(128 + y / 128 % 128)]) ++ [(y % 128)])) j))))] := hD
              refine lv_iinc (v := iI (-1)) (lv' := [(9, .int (iI (-1))), (6, .int (iI z45)), (8, .int (iI 3)), (0, .ref mm), (1, .int (iI pl)), (2, .int (iI x)), (3, .int (iI y)), (4, .int (iI cs)), (5, .int (iI i)), (7, .int (iI g))]) hx hb dX4_head_133 hl (k := 1) rfl (by decide +kernel) (by decide) rfl (fun ls hl => ?_)
              refine lv_goto (tgt := 94) hx hb dX4_head_136 (by decide) ?_
              refine lv_iload hx hb dX4_head_94 (lv_at hl 0 rfl) ?_
              refine li_if_lt (tgt := 139) hx hb (by omega) dX4_head_96 (by decide) (fun c47 => ?_) (fun c47 => absurd c47 (by omega))
              exact J139 (1) z45 ((((([] : List Int) ++ [(x * 64 + cs * 32 + 31)]) ++ [(128 + y / 16384 % 128)]) ++ [(128 + y / 128 % 128)]) ++ [(y % 128)]) _ _ _ _ _ (by omega) (by first | (rw [idB_0 (by omega)]; rfl) | (rw [idB_1 (by omega) (by omega)]; rfl) | (rw [idB_2 (by omega) (by omega)]; rfl) | (rw [idB_3 (by omega) (by omega)]; rfl) | (rw [idB_4 (by omega) (by omega)]; rfl) | (rw [idB_5 (by omega)]; rfl)) (by simp only [List.length_append, List.length_cons, List.length_nil]; omega) (by omega) (hK.sub [0] rfl) (hP.sub [0, 1] rfl) (hD.sub [0, 1] (by decide) rfl) hS (lv_sub hl [3, 4, 5, 6, 7, 8, 1] rfl)
            · skip
              refine lv_iinc (v := iI 4) (lv' := [(8, .int (iI 4)), (9, .long (lI z36)), (6, .int (iI z19)), (0, .ref mm), (1, .int (iI pl)), (2, .int (iI x)), (3, .int (iI y)), (4, .int (iI cs)), (5, .int (iI i)), (7, .int (iI g))]) hx hb dX4_head_75 hl (k := 1) rfl (by decide +kernel) (by decide) rfl (fun ls hl => ?_)
              refine lv_lload hx hb dX4_head_78 (lv_at hl 1 rfl) ?_
              refine lv_bipush (v := iI 7) hx hb dX4_head_80 (by decide +kernel) ?_
              refine li_lshrK hx hb 128 (by decide) (by omega) (by omega) dX4_head_82 ?_
              refine li_nml (fun z48 ez48 => ?_)
              refine lv_lstore (lv' := [(9, .long (lI z48)), (8, .int (iI 4)), (6, .int (iI z19)), (0, .ref mm), (1, .int (iI pl)), (2, .int (iI x)), (3, .int (iI y)), (4, .int (iI cs)), (5, .int (iI i)), (7, .int (iI g))]) hx hb dX4_head_83 hl (by decide) rfl (fun ls hl => ?_)
              refine lv_goto (tgt := 68) hx hb dX4_head_85 (by decide) ?_
              refine lv_lload hx hb dX4_head_68 (lv_at hl 0 rfl) ?_
              refine lv_lconst (v := lI 0) hx hb dX4_head_70 (by decide +kernel) ?_
              refine li_lcmp_le (tgt := 88) hx hb (by omega) (by omega) dX4_head_71 dX4_head_72 (by decide) (fun c49 => ?_) (fun c49 => ?_)
              · skip
                refine lv_iload hx hb dX4_head_88 (lv_at hl 1 rfl) ?_
                refine lv_iconst (v := iI 1) hx hb dX4_head_90 rfl ?_
                refine li_isub hx hb dX4_head_91 ?_
                refine li_re (show ((4) - (1) : Int) = 3 by decide) ?_
                refine lv_istore (lv' := [(9, .int (iI 3)), (8, .int (iI 4)), (6, .int (iI z19)), (0, .ref mm), (1, .int (iI pl)), (2, .int (iI x)), (3, .int (iI y)), (4, .int (iI cs)), (5, .int (iI i)), (7, .int (iI g))]) hx hb dX4_head_92 hl (by decide) rfl (fun ls hl => ?_)
                refine lv_iload hx hb dX4_head_94 (lv_at hl 0 rfl) ?_
                refine li_if_lt (tgt := 139) hx hb (by omega) dX4_head_96 (by decide) (fun c50 => absurd c50 (by omega)) (fun c50 => ?_)
                refine lv_aload_n hx hb dX4_head_99 rfl (lv_at hl 3 rfl) ?_
                refine va_get (D := (dC, dI)) (ci := 4) (v := .ref ta) (C := RX4) (T := TX4) (N := 10) hx hb hT inX4 hown hK hP 0 rfl rfl 1 (by decide) (hT _ wd518) (fun _ h9 => h9) rfl dX4_head_100 ?_
                refine lv_iload hx hb dX4_head_103 (lv_at hl 2 rfl) ?_
                obtain ⟨z51, ez51⟩ : ∃ y : Int, y = z19 + 1 := ⟨_, rfl⟩
                refine lv_iinc (v := iI z51) (lv' := [(6, .int (iI z51)), (9, .int (iI 3)), (8, .int (iI 4)), (0, .ref mm), (1, .int (iI pl)), (2, .int (iI x)), (3, .int (iI y)), (4, .int (iI cs)), (5, .int (iI i)), (7, .int (iI g))]) hx hb dX4_head_105 hl (k := 2) rfl (by rw [ez51]; exact iI_add _ _) (by decide) rfl (fun ls hl => ?_)
                refine lv_iload_n hx hb dX4_head_108 rfl (lv_at hl 6 rfl) ?_
                refine lv_bipush (v := iI 7) hx hb dX4_head_109 (by decide +kernel) ?_
                refine lv_iload hx hb dX4_head_111 (lv_at hl 1 rfl) ?_
                refine li_imul hx hb dX4_head_113 ?_
                refine li_re (show ((7) * (3) : Int) = 21 by decide) ?_
                refine li_ishrK hx hb 2097152 (by decide) (by omega) (by omega) dX4_head_114 ?_
                refine lv_bipush (v := iI 127) hx hb dX4_head_115 (by decide +kernel) ?_
                refine li_iand127 hx hb dX4_head_117 ?_
                refine lv_iload hx hb dX4_head_118 (lv_at hl 1 rfl) ?_
                refine li_if_le (tgt := 129) hx hb (by omega) dX4_head_120 (by decide) (fun c52 => absurd c52 (by omega)) (fun c52 => ?_)
                refine lv_sipush (v := iI 128) hx hb dX4_head_123 (by decide +kernel) ?_
                refine lv_goto (tgt := 130) hx hb dX4_head_126 (by decide) ?_
                refine li_ior7 (z := 1) hx hb (by omega) (by omega) dX4_head_130 ?_
                refine li_i2b hx hb dX4_head_131 ?_
                refine li_bastW (y := (128 + y / 2097152 % 128)) hx hb hK hP hD hS 1 0 rfl rfl (z := z19) (by omega) (by omega) (by (try simp only [List.length_append, List.length_cons, List.length_nil]); omega) (by omega) dX4_head_132 (fun H locs hP hD hS => ?_)
                have hP : va_P (dC, dI) vwCl [(mm, .inr (4, [.int (iI fl), .ref ta, .int (iI tz), .ref ka, .int (iI nn), .ref da, .ref ya, .int (iI pt), .int (iI md), .int (iI sx)])), (ta, .inl (cT, 4096, .inl (fun j => bI ((wrB t ((pl : Int).toNat) ((([] : List Int) ++ [(x * 64 + cs * 32 + 31)]) ++ [(128 + y / 2097152 % 128)])) j))))] H := hP
                have hD : va_D A [(mm, .inr (4, [.int (iI fl), .ref ta, .int (iI tz), .ref ka, .int (iI nn), .ref da, .ref ya, .int (iI pt), .int (iI md), .int (iI sx)])), (ta, .inl (cT, 4096, .inl (fun j => bI ((wrB t ((pl : Int).toNat) ((([] : List Int) ++ [(x * 64 + cs * 32 + 31)]) ++ [(128 + y / 2097152 % 128)])) j))))] := hD
                refine lv_iinc (v := iI 2) (lv' := [(9, .int (iI 2)), (6, .int (iI z51)), (8, .int (iI 4)), (0, .ref mm), (1, .int (iI pl)), (2, .int (iI x)), (3, .int (iI y)), (4, .int (iI cs)), (5, .int (iI i)), (7, .int (iI g))]) hx hb dX4_head_133 hl (k := 1) rfl (by decide +kernel) (by decide) rfl (fun ls hl => ?_)
                refine lv_goto (tgt := 94) hx hb dX4_head_136 (by decide) ?_
                refine lv_iload hx hb dX4_head_94 (lv_at hl 0 rfl) ?_
                refine li_if_lt (tgt := 139) hx hb (by omega) dX4_head_96 (by decide) (fun c53 => absurd c53 (by omega)) (fun c53 => ?_)
                refine lv_aload_n hx hb dX4_head_99 rfl (lv_at hl 3 rfl) ?_
                refine va_get (D := (dC, dI)) (ci := 4) (v := .ref ta) (C := RX4) (T := TX4) (N := 10) hx hb hT inX4 hown hK hP 0 rfl rfl 1 (by decide) (hT _ wd518) (fun _ h9 => h9) rfl dX4_head_100 ?_
                refine lv_iload hx hb dX4_head_103 (lv_at hl 1 rfl) ?_
                obtain ⟨z54, ez54⟩ : ∃ y : Int, y = z51 + 1 := ⟨_, rfl⟩
                refine lv_iinc (v := iI z54) (lv' := [(6, .int (iI z54)), (9, .int (iI 2)), (8, .int (iI 4)), (0, .ref mm), (1, .int (iI pl)), (2, .int (iI x)), (3, .int (iI y)), (4, .int (iI cs)), (5, .int (iI i)), (7, .int (iI g))]) hx hb dX4_head_105 hl (k := 1) rfl (by rw [ez54]; exact iI_add _ _) (by decide) rfl (fun ls hl => ?_)
                refine lv_iload_n hx hb dX4_head_108 rfl (lv_at hl 6 rfl) ?_
                refine lv_bipush (v := iI 7) hx hb dX4_head_109 (by decide +kernel) ?_
                refine lv_iload hx hb dX4_head_111 (lv_at hl 1 rfl) ?_
                refine li_imul hx hb dX4_head_113 ?_
                refine li_re (show ((7) * (2) : Int) = 14 by decide) ?_
                refine li_ishrK hx hb 16384 (by decide) (by omega) (by omega) dX4_head_114 ?_
                refine lv_bipush (v := iI 127) hx hb dX4_head_115 (by decide +kernel) ?_
                refine li_iand127 hx hb dX4_head_117 ?_
                refine lv_iload hx hb dX4_head_118 (lv_at hl 1 rfl) ?_
                refine li_if_le (tgt := 129) hx hb (by omega) dX4_head_120 (by decide) (fun c55 => absurd c55 (by omega)) (fun c55 => ?_)
                refine lv_sipush (v := iI 128) hx hb dX4_head_123 (by decide +kernel) ?_
                refine lv_goto (tgt := 130) hx hb dX4_head_126 (by decide) ?_
                refine li_ior7 (z := 1) hx hb (by omega) (by omega) dX4_head_130 ?_
                refine li_i2b hx hb dX4_head_131 ?_
                refine li_bastW (y := (128 + y / 16384 % 128)) hx hb hK hP hD hS 1 0 rfl rfl (z := z51) (by omega) (by omega) (by (try simp only [List.length_append, List.length_cons, List.length_nil]); omega) (by omega) dX4_head_132 (fun H locs hP hD hS => ?_)
                have hP : va_P (dC, dI) vwCl [(mm, .inr (4, [.int (iI fl), .ref ta, .int (iI tz), .ref ka, .int (iI nn), .ref da, .ref ya, .int (iI pt), .int (iI md), .int (iI sx)])), (ta, .inl (cT, 4096, .inl (fun j => bI ((wrB t ((pl : Int).toNat) (((([] : List Int) ++ [(x * 64 + cs * 32 + 31)]) ++ [(128 + y / 2097152 % 128)]) ++ [(128 + y / 16384 % 128)])) j))))] H := hP
                have hD : va_D A [(mm, .inr (4, [.int (iI fl), .ref ta, .int (iI tz), .ref ka, .int (iI nn), .ref da, .ref ya, .int (iI pt), .int (iI md), .int (iI sx)])), (ta, .inl (cT, 4096, .inl (fun j => bI ((wrB t ((pl : Int).toNat) (((([] : List Int) ++ [(x * 64 + cs * 32 + 31)]) ++ [(128 + y / 2097152 % 128)]) ++ [(128 + y / 16384 % 128)])) j))))] := hD
                refine lv_iinc (v := iI 1) (lv' := [(9, .int (iI 1)), (6, .int (iI z54)), (8, .int (iI 4)), (0, .ref mm), (1, .int (iI pl)), (2, .int (iI x)), (3, .int (iI y)), (4, .int (iI cs)), (5, .int (iI i)), (7, .int (iI g))]) hx hb dX4_head_133 hl (k := 1) rfl (by decide +kernel) (by decide) rfl (fun ls hl => ?_)
                refine lv_goto (tgt := 94) hx hb dX4_head_136 (by decide) ?_
                refine lv_iload hx hb dX4_head_94 (lv_at hl 0 rfl) ?_
                refine li_if_lt (tgt := 139) hx hb (by omega) dX4_head_96 (by decide) (fun c56 => absurd c56 (by omega)) (fun c56 => ?_)
                refine lv_aload_n hx hb dX4_head_99 rfl (lv_at hl 3 rfl) ?_
                refine va_get (D := (dC, dI)) (ci := 4) (v := .ref ta) (C := RX4) (T := TX4) (N := 10) hx hb hT inX4 hown hK hP 0 rfl rfl 1 (by decide) (hT _ wd518) (fun _ h9 => h9) rfl dX4_head_100 ?_
                refine lv_iload hx hb dX4_head_103 (lv_at hl 1 rfl) ?_
                obtain ⟨z57, ez57⟩ : ∃ y : Int, y = z54 + 1 := ⟨_, rfl⟩
                refine lv_iinc (v := iI z57) (lv' := [(6, .int (iI z57)), (9, .int (iI 1)), (8, .int (iI 4)), (0, .ref mm), (1, .int (iI pl)), (2, .int (iI x)), (3, .int (iI y)), (4, .int (iI cs)), (5, .int (iI i)), (7, .int (iI g))]) hx hb dX4_head_105 hl (k := 1) rfl (by rw [ez57]; exact iI_add _ _) (by decide) rfl (fun ls hl => ?_)
                refine lv_iload_n hx hb dX4_head_108 rfl (lv_at hl 6 rfl) ?_
                refine lv_bipush (v := iI 7) hx hb dX4_head_109 (by decide +kernel) ?_
                refine lv_iload hx hb dX4_head_111 (lv_at hl 1 rfl) ?_
                refine li_imul hx hb dX4_head_113 ?_
                refine li_re (show ((7) * (1) : Int) = 7 by decide) ?_
                refine li_ishrK hx hb 128 (by decide) (by omega) (by omega) dX4_head_114 ?_
                refine lv_bipush (v := iI 127) hx hb dX4_head_115 (by decide +kernel) ?_
                refine li_iand127 hx hb dX4_head_117 ?_
                refine lv_iload hx hb dX4_head_118 (lv_at hl 1 rfl) ?_
                refine li_if_le (tgt := 129) hx hb (by omega) dX4_head_120 (by decide) (fun c58 => absurd c58 (by omega)) (fun c58 => ?_)
                refine lv_sipush (v := iI 128) hx hb dX4_head_123 (by decide +kernel) ?_
                refine lv_goto (tgt := 130) hx hb dX4_head_126 (by decide) ?_
                refine li_ior7 (z := 1) hx hb (by omega) (by omega) dX4_head_130 ?_
                refine li_i2b hx hb dX4_head_131 ?_
                refine li_bastW (y := (128 + y / 128 % 128)) hx hb hK hP hD hS 1 0 rfl rfl (z := z54) (by omega) (by omega) (by (try simp only [List.length_append, List.length_cons, List.length_nil]); omega) (by omega) dX4_head_132 (fun H locs hP hD hS => ?_)
                have hP : va_P (dC, dI) vwCl [(mm, .inr (4, [.int (iI fl), .ref ta, .int (iI tz), .ref ka, .int (iI nn), .ref da, .ref ya, .int (iI pt), .int (iI md), .int (iI sx)])), (ta, .inl (cT, 4096, .inl (fun j => bI ((wrB t ((pl : Int).toNat) ((((([] : List Int) ++ [(x * 64 + cs * 32 + 31)]) ++ [(128 + y / 2097152 % 128)]) ++ [(128 + y / 16384 % 128)]) ++ [(128 + y / 128 % 128)])) j))))] H := hP
                have hD : va_D A [(mm, .inr (4, [.int (iI fl), .ref ta, .int (iI tz), .ref ka, .int (iI nn), .ref da, .ref ya, .int (iI pt), .int (iI md), .int (iI sx)])), (ta, .inl (cT, 4096, .inl (fun j => bI ((wrB t ((pl : Int).toNat) ((((([] : List Int) ++ [(x * 64 + cs * 32 + 31)]) ++ [(128 + y / 2097152 % 128)]) ++ [(128 + y / 16384 % 128)]) ++ [(128 + y / 128 % 128)])) j))))] := hD
                refine lv_iinc (v := iI 0) (lv' := [(9, .int (iI 0)), (6, .int (iI z57)), (8, .int (iI 4)), (0, .ref mm), (1, .int (iI pl)), (2, .int (iI x)), (3, .int (iI y)), (4, .int (iI cs)), (5, .int (iI i)), (7, .int (iI g))]) hx hb dX4_head_133 hl (k := 1) rfl (by decide +kernel) (by decide) rfl (fun ls hl => ?_)
                refine lv_goto (tgt := 94) hx hb dX4_head_136 (by decide) ?_
                refine lv_iload hx hb dX4_head_94 (lv_at hl 0 rfl) ?_
                refine li_if_lt (tgt := 139) hx hb (by omega) dX4_head_96 (by decide) (fun c59 => absurd c59 (by omega)) (fun c59 => ?_)
                refine lv_aload_n hx hb dX4_head_99 rfl (lv_at hl 3 rfl) ?_
                refine va_get (D := (dC, dI)) (ci := 4) (v := .ref ta) (C := RX4) (T := TX4) (N := 10) hx hb hT inX4 hown hK hP 0 rfl rfl 1 (by decide) (hT _ wd518) (fun _ h9 => h9) rfl dX4_head_100 ?_
                refine lv_iload hx hb dX4_head_103 (lv_at hl 1 rfl) ?_
                obtain ⟨z60, ez60⟩ : ∃ y : Int, y = z57 + 1 := ⟨_, rfl⟩
                refine lv_iinc (v := iI z60) (lv' := [(6, .int (iI z60)), (9, .int (iI 0)), (8, .int (iI 4)), (0, .ref mm), (1, .int (iI pl)), (2, .int (iI x)), (3, .int (iI y)), (4, .int (iI cs)), (5, .int (iI i)), (7, .int (iI g))]) hx hb dX4_head_105 hl (k := 1) rfl (by rw [ez60]; exact iI_add _ _) (by decide) rfl (fun ls hl => ?_)
                refine lv_iload_n hx hb dX4_head_108 rfl (lv_at hl 6 rfl) ?_
                refine lv_bipush (v := iI 7) hx hb dX4_head_109 (by decide +kernel) ?_
                refine lv_iload hx hb dX4_head_111 (lv_at hl 1 rfl) ?_
                refine li_imul hx hb dX4_head_113 ?_
                refine li_re (show ((7) * (0) : Int) = 0 by decide) ?_
                refine li_ishrK hx hb 1 (by decide) (by omega) (by omega) dX4_head_114 ?_
                refine lv_bipush (v := iI 127) hx hb dX4_head_115 (by decide +kernel) ?_
                refine li_iand127 hx hb dX4_head_117 ?_
                refine lv_iload hx hb dX4_head_118 (lv_at hl 1 rfl) ?_
                refine li_if_le (tgt := 129) hx hb (by omega) dX4_head_120 (by decide) (fun c61 => ?_) (fun c61 => absurd c61 (by omega))
                refine lv_iconst (v := iI 0) hx hb dX4_head_129 rfl ?_
                refine li_ior7 (z := 0) hx hb (by omega) (by omega) dX4_head_130 ?_
                refine li_i2b hx hb dX4_head_131 ?_
                refine li_bastW (y := (y % 128)) hx hb hK hP hD hS 1 0 rfl rfl (z := z57) (by omega) (by omega) (by (try simp only [List.length_append, List.length_cons, List.length_nil]); omega) (by omega) dX4_head_132 (fun H locs hP hD hS => ?_)
                have hP : va_P (dC, dI) vwCl [(mm, .inr (4, [.int (iI fl), .ref ta, .int (iI tz), .ref ka, .int (iI nn), .ref da, .ref ya, .int (iI pt), .int (iI md), .int (iI sx)])), (ta, .inl (cT, 4096, .inl (fun j => bI ((wrB t ((pl : Int).toNat) (((((([] : List Int) ++ [(x * 64 + cs * 32 + 31)]) ++ [(128 + y / 2097152 % 128)]) ++ [(128 + y / 16384 % 128)]) ++ [(128 + y / 128 % 128)]) ++ [(y % 128)])) j))))] H := hP
                have hD : va_D A [(mm, .inr (4, [.int (iI fl), .ref ta, .int (iI tz), .ref ka, .int (iI nn), .ref da, .ref ya, .int (iI pt), .int (iI md), .int (iI sx)])), (ta, .inl (cT, 4096, .inl (fun j => bI ((wrB t ((pl : Int).toNat) (((((([] : List Int) ++ [(x * 64 + cs * 32 + 31)]) ++ [(128 + y / 2097152 % 128)]) ++ [(128 + y / 16384 % 128)]) ++ [(128 + y / 128 % 128)]) ++ [(y % 128)])) j))))] := hD
                refine lv_iinc (v := iI (-1)) (lv' := [(9, .int (iI (-1))), (6, .int (iI z60)), (8, .int (iI 4)), (0, .ref mm), (1, .int (iI pl)), (2, .int (iI x)), (3, .int (iI y)), (4, .int (iI cs)), (5, .int (iI i)), (7, .int (iI g))]) hx hb dX4_head_133 hl (k := 1) rfl (by decide +kernel) (by decide) rfl (fun ls hl => ?_)
                refine lv_goto (tgt := 94) hx hb dX4_head_136 (by decide) ?_
                refine lv_iload hx hb dX4_head_94 (lv_at hl 0 rfl) ?_
                refine li_if_lt (tgt := 139) hx hb (by omega) dX4_head_96 (by decide) (fun c62 => ?_) (fun c62 => absurd c62 (by omega))
                exact J139 (1) z60 (((((([] : List Int) ++ [(x * 64 + cs * 32 + 31)]) ++ [(128 + y / 2097152 % 128)]) ++ [(128 + y / 16384 % 128)]) ++ [(128 + y / 128 % 128)]) ++ [(y % 128)]) _ _ _ _ _ (by omega) (by first | (rw [idB_0 (by omega)]; rfl) | (rw [idB_1 (by omega) (by omega)]; rfl) | (rw [idB_2 (by omega) (by omega)]; rfl) | (rw [idB_3 (by omega) (by omega)]; rfl) | (rw [idB_4 (by omega) (by omega)]; rfl) | (rw [idB_5 (by omega)]; rfl)) (by simp only [List.length_append, List.length_cons, List.length_nil]; omega) (by omega) (hK.sub [0] rfl) (hP.sub [0, 1] rfl) (hD.sub [0, 1] (by decide) rfl) hS (lv_sub hl [3, 4, 5, 6, 7, 8, 1] rfl)
              · skip
                refine lv_iinc (v := iI 5) (lv' := [(8, .int (iI 5)), (9, .long (lI z48)), (6, .int (iI z19)), (0, .ref mm), (1, .int (iI pl)), (2, .int (iI x)), (3, .int (iI y)), (4, .int (iI cs)), (5, .int (iI i)), (7, .int (iI g))]) hx hb dX4_head_75 hl (k := 1) rfl (by decide +kernel) (by decide) rfl (fun ls hl => ?_)
                refine lv_lload hx hb dX4_head_78 (lv_at hl 1 rfl) ?_
                refine lv_bipush (v := iI 7) hx hb dX4_head_80 (by decide +kernel) ?_
                refine li_lshrK hx hb 128 (by decide) (by omega) (by omega) dX4_head_82 ?_
                refine li_nml (fun z63 ez63 => ?_)
                refine lv_lstore (lv' := [(9, .long (lI z63)), (8, .int (iI 5)), (6, .int (iI z19)), (0, .ref mm), (1, .int (iI pl)), (2, .int (iI x)), (3, .int (iI y)), (4, .int (iI cs)), (5, .int (iI i)), (7, .int (iI g))]) hx hb dX4_head_83 hl (by decide) rfl (fun ls hl => ?_)
                refine lv_goto (tgt := 68) hx hb dX4_head_85 (by decide) ?_
                refine lv_lload hx hb dX4_head_68 (lv_at hl 0 rfl) ?_
                refine lv_lconst (v := lI 0) hx hb dX4_head_70 (by decide +kernel) ?_
                refine li_lcmp_le (tgt := 88) hx hb (by omega) (by omega) dX4_head_71 dX4_head_72 (by decide) (fun c64 => ?_) (fun c64 => absurd c64 (by omega))
                refine lv_iload hx hb dX4_head_88 (lv_at hl 1 rfl) ?_
                refine lv_iconst (v := iI 1) hx hb dX4_head_90 rfl ?_
                refine li_isub hx hb dX4_head_91 ?_
                refine li_re (show ((5) - (1) : Int) = 4 by decide) ?_
                refine lv_istore (lv' := [(9, .int (iI 4)), (8, .int (iI 5)), (6, .int (iI z19)), (0, .ref mm), (1, .int (iI pl)), (2, .int (iI x)), (3, .int (iI y)), (4, .int (iI cs)), (5, .int (iI i)), (7, .int (iI g))]) hx hb dX4_head_92 hl (by decide) rfl (fun ls hl => ?_)
                refine lv_iload hx hb dX4_head_94 (lv_at hl 0 rfl) ?_
                refine li_if_lt (tgt := 139) hx hb (by omega) dX4_head_96 (by decide) (fun c65 => absurd c65 (by omega)) (fun c65 => ?_)
                refine lv_aload_n hx hb dX4_head_99 rfl (lv_at hl 3 rfl) ?_
                refine va_get (D := (dC, dI)) (ci := 4) (v := .ref ta) (C := RX4) (T := TX4) (N := 10) hx hb hT inX4 hown hK hP 0 rfl rfl 1 (by decide) (hT _ wd518) (fun _ h9 => h9) rfl dX4_head_100 ?_
                refine lv_iload hx hb dX4_head_103 (lv_at hl 2 rfl) ?_
                obtain ⟨z66, ez66⟩ : ∃ y : Int, y = z19 + 1 := ⟨_, rfl⟩
                refine lv_iinc (v := iI z66) (lv' := [(6, .int (iI z66)), (9, .int (iI 4)), (8, .int (iI 5)), (0, .ref mm), (1, .int (iI pl)), (2, .int (iI x)), (3, .int (iI y)), (4, .int (iI cs)), (5, .int (iI i)), (7, .int (iI g))]) hx hb dX4_head_105 hl (k := 2) rfl (by rw [ez66]; exact iI_add _ _) (by decide) rfl (fun ls hl => ?_)
                refine lv_iload_n hx hb dX4_head_108 rfl (lv_at hl 6 rfl) ?_
                refine lv_bipush (v := iI 7) hx hb dX4_head_109 (by decide +kernel) ?_
                refine lv_iload hx hb dX4_head_111 (lv_at hl 1 rfl) ?_
                refine li_imul hx hb dX4_head_113 ?_
                refine li_re (show ((7) * (4) : Int) = 28 by decide) ?_
                refine li_ishrK hx hb 268435456 (by decide) (by omega) (by omega) dX4_head_114 ?_
                refine lv_bipush (v := iI 127) hx hb dX4_head_115 (by decide +kernel) ?_
                refine li_iand127 hx hb dX4_head_117 ?_
                refine lv_iload hx hb dX4_head_118 (lv_at hl 1 rfl) ?_
                refine li_if_le (tgt := 129) hx hb (by omega) dX4_head_120 (by decide) (fun c67 => absurd c67 (by omega)) (fun c67 => ?_)
                refine lv_sipush (v := iI 128) hx hb dX4_head_123 (by decide +kernel) ?_
                refine lv_goto (tgt := 130) hx hb dX4_head_126 (by decide) ?_
                refine li_ior7 (z := 1) hx hb (by omega) (by omega) dX4_head_130 ?_
                refine li_i2b hx hb dX4_head_131 ?_
                refine li_bastW (y := (128 + y / 268435456 % 128)) hx hb hK hP hD hS 1 0 rfl rfl (z := z19) (by omega) (by omega) (by (try simp only [List.length_append, List.length_cons, List.length_nil]); omega) (by omega) dX4_head_132 (fun H locs hP hD hS => ?_)
                have hP : va_P (dC, dI) vwCl [(mm, .inr (4, [.int (iI fl), .ref ta, .int (iI tz), .ref ka, .int (iI nn), .ref da, .ref ya, .int (iI pt), .int (iI md), .int (iI sx)])), (ta, .inl (cT, 4096, .inl (fun j => bI ((wrB t ((pl : Int).toNat) ((([] : List Int) ++ [(x * 64 + cs * 32 + 31)]) ++ [(128 + y / 268435456 % 128)])) j))))] H := hP
                have hD : va_D A [(mm, .inr (4, [.int (iI fl), .ref ta, .int (iI tz), .ref ka, .int (iI nn), .ref da, .ref ya, .int (iI pt), .int (iI md), .int (iI sx)])), (ta, .inl (cT, 4096, .inl (fun j => bI ((wrB t ((pl : Int).toNat) ((([] : List Int) ++ [(x * 64 + cs * 32 + 31)]) ++ [(128 + y / 268435456 % 128)])) j))))] := hD
                refine lv_iinc (v := iI 3) (lv' := [(9, .int (iI 3)), (6, .int (iI z66)), (8, .int (iI 5)), (0, .ref mm), (1, .int (iI pl)), (2, .int (iI x)), (3, .int (iI y)), (4, .int (iI cs)), (5, .int (iI i)), (7, .int (iI g))]) hx hb dX4_head_133 hl (k := 1) rfl (by decide +kernel) (by decide) rfl (fun ls hl => ?_)
                refine lv_goto (tgt := 94) hx hb dX4_head_136 (by decide) ?_
                refine lv_iload hx hb dX4_head_94 (lv_at hl 0 rfl) ?_
                refine li_if_lt (tgt := 139) hx hb (by omega) dX4_head_96 (by decide) (fun c68 => absurd c68 (by omega)) (fun c68 => ?_)
                refine lv_aload_n hx hb dX4_head_99 rfl (lv_at hl 3 rfl) ?_
                refine va_get (D := (dC, dI)) (ci := 4) (v := .ref ta) (C := RX4) (T := TX4) (N := 10) hx hb hT inX4 hown hK hP 0 rfl rfl 1 (by decide) (hT _ wd518) (fun _ h9 => h9) rfl dX4_head_100 ?_
                refine lv_iload hx hb dX4_head_103 (lv_at hl 1 rfl) ?_
                obtain ⟨z69, ez69⟩ : ∃ y : Int, y = z66 + 1 := ⟨_, rfl⟩
                refine lv_iinc (v := iI z69) (lv' := [(6, .int (iI z69)), (9, .int (iI 3)), (8, .int (iI 5)), (0, .ref mm), (1, .int (iI pl)), (2, .int (iI x)), (3, .int (iI y)), (4, .int (iI cs)), (5, .int (iI i)), (7, .int (iI g))]) hx hb dX4_head_105 hl (k := 1) rfl (by rw [ez69]; exact iI_add _ _) (by decide) rfl (fun ls hl => ?_)
                refine lv_iload_n hx hb dX4_head_108 rfl (lv_at hl 6 rfl) ?_
                refine lv_bipush (v := iI 7) hx hb dX4_head_109 (by decide +kernel) ?_
                refine lv_iload hx hb dX4_head_111 (lv_at hl 1 rfl) ?_
                refine li_imul hx hb dX4_head_113 ?_
                refine li_re (show ((7) * (3) : Int) = 21 by decide) ?_
                refine li_ishrK hx hb 2097152 (by decide) (by omega) (by omega) dX4_head_114 ?_
                refine lv_bipush (v := iI 127) hx hb dX4_head_115 (by decide +kernel) ?_
                refine li_iand127 hx hb dX4_head_117 ?_
                refine lv_iload hx hb dX4_head_118 (lv_at hl 1 rfl) ?_
                refine li_if_le (tgt := 129) hx hb (by omega) dX4_head_120 (by decide) (fun c70 => absurd c70 (by omega)) (fun c70 => ?_)
                refine lv_sipush (v := iI 128) hx hb dX4_head_123 (by decide +kernel) ?_
                refine lv_goto (tgt := 130) hx hb dX4_head_126 (by decide) ?_
                refine li_ior7 (z := 1) hx hb (by omega) (by omega) dX4_head_130 ?_
                refine li_i2b hx hb dX4_head_131 ?_
                refine li_bastW (y := (128 + y / 2097152 % 128)) hx hb hK hP hD hS 1 0 rfl rfl (z := z66) (by omega) (by omega) (by (try simp only [List.length_append, List.length_cons, List.length_nil]); omega) (by omega) dX4_head_132 (fun H locs hP hD hS => ?_)
                have hP : va_P (dC, dI) vwCl [(mm, .inr (4, [.int (iI fl), .ref ta, .int (iI tz), .ref ka, .int (iI nn), .ref da, .ref ya, .int (iI pt), .int (iI md), .int (iI sx)])), (ta, .inl (cT, 4096, .inl (fun j => bI ((wrB t ((pl : Int).toNat) (((([] : List Int) ++ [(x * 64 + cs * 32 + 31)]) ++ [(128 + y / 268435456 % 128)]) ++ [(128 + y / 2097152 % 128)])) j))))] H := hP
                have hD : va_D A [(mm, .inr (4, [.int (iI fl), .ref ta, .int (iI tz), .ref ka, .int (iI nn), .ref da, .ref ya, .int (iI pt), .int (iI md), .int (iI sx)])), (ta, .inl (cT, 4096, .inl (fun j => bI ((wrB t ((pl : Int).toNat) (((([] : List Int) ++ [(x * 64 + cs * 32 + 31)]) ++ [(128 + y / 268435456 % 128)]) ++ [(128 + y / 2097152 % 128)])) j))))] := hD
                refine lv_iinc (v := iI 2) (lv' := [(9, .int (iI 2)), (6, .int (iI z69)), (8, .int (iI 5)), (0, .ref mm), (1, .int (iI pl)), (2, .int (iI x)), (3, .int (iI y)), (4, .int (iI cs)), (5, .int (iI i)), (7, .int (iI g))]) hx hb dX4_head_133 hl (k := 1) rfl (by decide +kernel) (by decide) rfl (fun ls hl => ?_)
                refine lv_goto (tgt := 94) hx hb dX4_head_136 (by decide) ?_
                refine lv_iload hx hb dX4_head_94 (lv_at hl 0 rfl) ?_
                refine li_if_lt (tgt := 139) hx hb (by omega) dX4_head_96 (by decide) (fun c71 => absurd c71 (by omega)) (fun c71 => ?_)
                refine lv_aload_n hx hb dX4_head_99 rfl (lv_at hl 3 rfl) ?_
                refine va_get (D := (dC, dI)) (ci := 4) (v := .ref ta) (C := RX4) (T := TX4) (N := 10) hx hb hT inX4 hown hK hP 0 rfl rfl 1 (by decide) (hT _ wd518) (fun _ h9 => h9) rfl dX4_head_100 ?_
                refine lv_iload hx hb dX4_head_103 (lv_at hl 1 rfl) ?_
                obtain ⟨z72, ez72⟩ : ∃ y : Int, y = z69 + 1 := ⟨_, rfl⟩
                refine lv_iinc (v := iI z72) (lv' := [(6, .int (iI z72)), (9, .int (iI 2)), (8, .int (iI 5)), (0, .ref mm), (1, .int (iI pl)), (2, .int (iI x)), (3, .int (iI y)), (4, .int (iI cs)), (5, .int (iI i)), (7, .int (iI g))]) hx hb dX4_head_105 hl (k := 1) rfl (by rw [ez72]; exact iI_add _ _) (by decide) rfl (fun ls hl => ?_)
                refine lv_iload_n hx hb dX4_head_108 rfl (lv_at hl 6 rfl) ?_
                refine lv_bipush (v := iI 7) hx hb dX4_head_109 (by decide +kernel) ?_
                refine lv_iload hx hb dX4_head_111 (lv_at hl 1 rfl) ?_
                refine li_imul hx hb dX4_head_113 ?_
                refine li_re (show ((7) * (2) : Int) = 14 by decide) ?_
                refine li_ishrK hx hb 16384 (by decide) (by omega) (by omega) dX4_head_114 ?_
                refine lv_bipush (v := iI 127) hx hb dX4_head_115 (by decide +kernel) ?_
                refine li_iand127 hx hb dX4_head_117 ?_
                refine lv_iload hx hb dX4_head_118 (lv_at hl 1 rfl) ?_
                refine li_if_le (tgt := 129) hx hb (by omega) dX4_head_120 (by decide) (fun c73 => absurd c73 (by omega)) (fun c73 => ?_)
                refine lv_sipush (v := iI 128) hx hb dX4_head_123 (by decide +kernel) ?_
                refine lv_goto (tgt := 130) hx hb dX4_head_126 (by decide) ?_
                refine li_ior7 (z := 1) hx hb (by omega) (by omega) dX4_head_130 ?_
                refine li_i2b hx hb dX4_head_131 ?_
                refine li_bastW (y := (128 + y / 16384 % 128)) hx hb hK hP hD hS 1 0 rfl rfl (z := z69) (by omega) (by omega) (by (try simp only [List.length_append, List.length_cons, List.length_nil]); omega) (by omega) dX4_head_132 (fun H locs hP hD hS => ?_)
                have hP : va_P (dC, dI) vwCl [(mm, .inr (4, [.int (iI fl), .ref ta, .int (iI tz), .ref ka, .int (iI nn), .ref da, .ref ya, .int (iI pt), .int (iI md), .int (iI sx)])), (ta, .inl (cT, 4096, .inl (fun j => bI ((wrB t ((pl : Int).toNat) ((((([] : List Int) ++ [(x * 64 + cs * 32 + 31)]) ++ [(128 + y / 268435456 % 128)]) ++ [(128 + y / 2097152 % 128)]) ++ [(128 + y / 16384 % 128)])) j))))] H := hP
                have hD : va_D A [(mm, .inr (4, [.int (iI fl), .ref ta, .int (iI tz), .ref ka, .int (iI nn), .ref da, .ref ya, .int (iI pt), .int (iI md), .int (iI sx)])), (ta, .inl (cT, 4096, .inl (fun j => bI ((wrB t ((pl : Int).toNat) ((((([] : List Int) ++ [(x * 64 + cs * 32 + 31)]) ++ [(128 + y / 268435456 % 128)]) ++ [(128 + y / 2097152 % 128)]) ++ [(128 + y / 16384 % 128)])) j))))] := hD
                refine lv_iinc (v := iI 1) (lv' := [(9, .int (iI 1)), (6, .int (iI z72)), (8, .int (iI 5)), (0, .ref mm), (1, .int (iI pl)), (2, .int (iI x)), (3, .int (iI y)), (4, .int (iI cs)), (5, .int (iI i)), (7, .int (iI g))]) hx hb dX4_head_133 hl (k := 1) rfl (by decide +kernel) (by decide) rfl (fun ls hl => ?_)
                refine lv_goto (tgt := 94) hx hb dX4_head_136 (by decide) ?_
                refine lv_iload hx hb dX4_head_94 (lv_at hl 0 rfl) ?_
                refine li_if_lt (tgt := 139) hx hb (by omega) dX4_head_96 (by decide) (fun c74 => absurd c74 (by omega)) (fun c74 => ?_)
                refine lv_aload_n hx hb dX4_head_99 rfl (lv_at hl 3 rfl) ?_
                refine va_get (D := (dC, dI)) (ci := 4) (v := .ref ta) (C := RX4) (T := TX4) (N := 10) hx hb hT inX4 hown hK hP 0 rfl rfl 1 (by decide) (hT _ wd518) (fun _ h9 => h9) rfl dX4_head_100 ?_
                refine lv_iload hx hb dX4_head_103 (lv_at hl 1 rfl) ?_
                obtain ⟨z75, ez75⟩ : ∃ y : Int, y = z72 + 1 := ⟨_, rfl⟩
                refine lv_iinc (v := iI z75) (lv' := [(6, .int (iI z75)), (9, .int (iI 1)), (8, .int (iI 5)), (0, .ref mm), (1, .int (iI pl)), (2, .int (iI x)), (3, .int (iI y)), (4, .int (iI cs)), (5, .int (iI i)), (7, .int (iI g))]) hx hb dX4_head_105 hl (k := 1) rfl (by rw [ez75]; exact iI_add _ _) (by decide) rfl (fun ls hl => ?_)
                refine lv_iload_n hx hb dX4_head_108 rfl (lv_at hl 6 rfl) ?_
                refine lv_bipush (v := iI 7) hx hb dX4_head_109 (by decide +kernel) ?_
                refine lv_iload hx hb dX4_head_111 (lv_at hl 1 rfl) ?_
                refine li_imul hx hb dX4_head_113 ?_
                refine li_re (show ((7) * (1) : Int) = 7 by decide) ?_
                refine li_ishrK hx hb 128 (by decide) (by omega) (by omega) dX4_head_114 ?_
                refine lv_bipush (v := iI 127) hx hb dX4_head_115 (by decide +kernel) ?_
                refine li_iand127 hx hb dX4_head_117 ?_
                refine lv_iload hx hb dX4_head_118 (lv_at hl 1 rfl) ?_
                refine li_if_le (tgt := 129) hx hb (by omega) dX4_head_120 (by decide) (fun c76 => absurd c76 (by omega)) (fun c76 => ?_)
                refine lv_sipush (v := iI 128) hx hb dX4_head_123 (by decide +kernel) ?_
                refine lv_goto (tgt := 130) hx hb dX4_head_126 (by decide) ?_
                refine li_ior7 (z := 1) hx hb (by omega) (by omega) dX4_head_130 ?_
                refine li_i2b hx hb dX4_head_131 ?_
                refine li_bastW (y := (128 + y / 128 % 128)) hx hb hK hP hD hS 1 0 rfl rfl (z := z72) (by omega) (by omega) (by (try simp only [List.length_append, List.length_cons, List.length_nil]); omega) (by omega) dX4_head_132 (fun H locs hP hD hS => ?_)
                have hP : va_P (dC, dI) vwCl [(mm, .inr (4, [.int (iI fl), .ref ta, .int (iI tz), .ref ka, .int (iI nn), .ref da, .ref ya, .int (iI pt), .int (iI md), .int (iI sx)])), (ta, .inl (cT, 4096, .inl (fun j => bI ((wrB t ((pl : Int).toNat) (((((([] : List Int) ++ [(x * 64 + cs * 32 + 31)]) ++ [(128 + y / 268435456 % 128)]) ++ [(128 + y / 2097152 % 128)]) ++ [(128 + y / 16384 % 128)]) ++ [(128 + y / 128 % 128)])) j))))] H := hP
                have hD : va_D A [(mm, .inr (4, [.int (iI fl), .ref ta, .int (iI tz), .ref ka, .int (iI nn), .ref da, .ref ya, .int (iI pt), .int (iI md), .int (iI sx)])), (ta, .inl (cT, 4096, .inl (fun j => bI ((wrB t ((pl : Int).toNat) (((((([] : List Int) ++ [(x * 64 + cs * 32 + 31)]) ++ [(128 + y / 268435456 % 128)]) ++ [(128 + y / 2097152 % 128)]) ++ [(128 + y / 16384 % 128)]) ++ [(128 + y / 128 % 128)])) j))))] := hD
                refine lv_iinc (v := iI 0) (lv' := [(9, .int (iI 0)), (6, .int (iI z75)), (8, .int (iI 5)), (0, .ref mm), (1, .int (iI pl)), (2, .int (iI x)), (3, .int (iI y)), (4, .int (iI cs)), (5, .int (iI i)), (7, .int (iI g))]) hx hb dX4_head_133 hl (k := 1) rfl (by decide +kernel) (by decide) rfl (fun ls hl => ?_)
                refine lv_goto (tgt := 94) hx hb dX4_head_136 (by decide) ?_
                refine lv_iload hx hb dX4_head_94 (lv_at hl 0 rfl) ?_
                refine li_if_lt (tgt := 139) hx hb (by omega) dX4_head_96 (by decide) (fun c77 => absurd c77 (by omega)) (fun c77 => ?_)
                refine lv_aload_n hx hb dX4_head_99 rfl (lv_at hl 3 rfl) ?_
                refine va_get (D := (dC, dI)) (ci := 4) (v := .ref ta) (C := RX4) (T := TX4) (N := 10) hx hb hT inX4 hown hK hP 0 rfl rfl 1 (by decide) (hT _ wd518) (fun _ h9 => h9) rfl dX4_head_100 ?_
                refine lv_iload hx hb dX4_head_103 (lv_at hl 1 rfl) ?_
                obtain ⟨z78, ez78⟩ : ∃ y : Int, y = z75 + 1 := ⟨_, rfl⟩
                refine lv_iinc (v := iI z78) (lv' := [(6, .int (iI z78)), (9, .int (iI 0)), (8, .int (iI 5)), (0, .ref mm), (1, .int (iI pl)), (2, .int (iI x)), (3, .int (iI y)), (4, .int (iI cs)), (5, .int (iI i)), (7, .int (iI g))]) hx hb dX4_head_105 hl (k := 1) rfl (by rw [ez78]; exact iI_add _ _) (by decide) rfl (fun ls hl => ?_)
                refine lv_iload_n hx hb dX4_head_108 rfl (lv_at hl 6 rfl) ?_
                refine lv_bipush (v := iI 7) hx hb dX4_head_109 (by decide +kernel) ?_
                refine lv_iload hx hb dX4_head_111 (lv_at hl 1 rfl) ?_
                refine li_imul hx hb dX4_head_113 ?_
                refine li_re (show ((7) * (0) : Int) = 0 by decide) ?_
                refine li_ishrK hx hb 1 (by decide) (by omega) (by omega) dX4_head_114 ?_
                refine lv_bipush (v := iI 127) hx hb dX4_head_115 (by decide +kernel) ?_
                refine li_iand127 hx hb dX4_head_117 ?_
                refine lv_iload hx hb dX4_head_118 (lv_at hl 1 rfl) ?_
                refine li_if_le (tgt := 129) hx hb (by omega) dX4_head_120 (by decide) (fun c79 => ?_) (fun c79 => absurd c79 (by omega))
                refine lv_iconst (v := iI 0) hx hb dX4_head_129 rfl ?_
                refine li_ior7 (z := 0) hx hb (by omega) (by omega) dX4_head_130 ?_
                refine li_i2b hx hb dX4_head_131 ?_
                refine li_bastW (y := (y % 128)) hx hb hK hP hD hS 1 0 rfl rfl (z := z75) (by omega) (by omega) (by (try simp only [List.length_append, List.length_cons, List.length_nil]); omega) (by omega) dX4_head_132 (fun H locs hP hD hS => ?_)
                have hP : va_P (dC, dI) vwCl [(mm, .inr (4, [.int (iI fl), .ref ta, .int (iI tz), .ref ka, .int (iI nn), .ref da, .ref ya, .int (iI pt), .int (iI md), .int (iI sx)])), (ta, .inl (cT, 4096, .inl (fun j => bI ((wrB t ((pl : Int).toNat) ((((((([] : List Int) ++ [(x * 64 + cs * 32 + 31)]) ++ [(128 + y / 268435456 % 128)]) ++ [(128 + y / 2097152 % 128)]) ++ [(128 + y / 16384 % 128)]) ++ [(128 + y / 128 % 128)]) ++ [(y % 128)])) j))))] H := hP
                have hD : va_D A [(mm, .inr (4, [.int (iI fl), .ref ta, .int (iI tz), .ref ka, .int (iI nn), .ref da, .ref ya, .int (iI pt), .int (iI md), .int (iI sx)])), (ta, .inl (cT, 4096, .inl (fun j => bI ((wrB t ((pl : Int).toNat) ((((((([] : List Int) ++ [(x * 64 + cs * 32 + 31)]) ++ [(128 + y / 268435456 % 128)]) ++ [(128 + y / 2097152 % 128)]) ++ [(128 + y / 16384 % 128)]) ++ [(128 + y / 128 % 128)]) ++ [(y % 128)])) j))))] := hD
                refine lv_iinc (v := iI (-1)) (lv' := [(9, .int (iI (-1))), (6, .int (iI z78)), (8, .int (iI 5)), (0, .ref mm), (1, .int (iI pl)), (2, .int (iI x)), (3, .int (iI y)), (4, .int (iI cs)), (5, .int (iI i)), (7, .int (iI g))]) hx hb dX4_head_133 hl (k := 1) rfl (by decide +kernel) (by decide) rfl (fun ls hl => ?_)
                refine lv_goto (tgt := 94) hx hb dX4_head_136 (by decide) ?_
                refine lv_iload hx hb dX4_head_94 (lv_at hl 0 rfl) ?_
                refine li_if_lt (tgt := 139) hx hb (by omega) dX4_head_96 (by decide) (fun c80 => ?_) (fun c80 => absurd c80 (by omega))
                exact J139 (1) z78 ((((((([] : List Int) ++ [(x * 64 + cs * 32 + 31)]) ++ [(128 + y / 268435456 % 128)]) ++ [(128 + y / 2097152 % 128)]) ++ [(128 + y / 16384 % 128)]) ++ [(128 + y / 128 % 128)]) ++ [(y % 128)]) _ _ _ _ _ (by omega) (by first | (rw [idB_0 (by omega)]; rfl) | (rw [idB_1 (by omega) (by omega)]; rfl) | (rw [idB_2 (by omega) (by omega)]; rfl) | (rw [idB_3 (by omega) (by omega)]; rfl) | (rw [idB_4 (by omega) (by omega)]; rfl) | (rw [idB_5 (by omega)]; rfl)) (by simp only [List.length_append, List.length_cons, List.length_nil]; omega) (by omega) (hK.sub [0] rfl) (hP.sub [0, 1] rfl) (hD.sub [0, 1] (by decide) rfl) hS (lv_sub hl [3, 4, 5, 6, 7, 8, 1] rfl)
      · skip
        refine lv_aload_n hx hb dX4_head_27 rfl (lv_at hl 0 rfl) ?_
        refine va_get (D := (dC, dI)) (ci := 4) (v := .ref ta) (C := RX4) (T := TX4) (N := 10) hx hb hT inX4 hown hK hP 0 rfl rfl 1 (by decide) (hT _ wd518) (fun _ h9 => h9) rfl dX4_head_28 ?_
        refine lv_iload hx hb dX4_head_31 (lv_at hl 6 rfl) ?_
        obtain ⟨z81, ez81⟩ : ∃ y : Int, y = pl + 1 := ⟨_, rfl⟩
        refine lv_iinc (v := iI z81) (lv' := [(6, .int (iI z81)), (0, .ref mm), (1, .int (iI pl)), (2, .int (iI x)), (3, .int (iI y)), (4, .int (iI cs)), (5, .int (iI i)), (7, .int (iI g))]) hx hb dX4_head_33 hl (k := 6) rfl (by rw [ez81]; exact iI_add _ _) (by decide) rfl (fun ls hl => ?_)
        refine lv_iload hx hb dX4_head_36 (lv_at hl 7 rfl) ?_
        refine lv_iload_n hx hb dX4_head_38 rfl (lv_at hl 4 rfl) ?_
        refine li_ior5 (z := (x * 2 + cs)) hx hb (by omega) (by omega) dX4_head_39 ?_
        refine li_i2b hx hb dX4_head_40 ?_
        refine li_bastW (y := (x * 64 + cs * 32 + y)) hx hb hK hP hD hS 1 0 rfl rfl (z := pl) (by omega) (by omega) (by (try simp only [List.length_append, List.length_cons, List.length_nil]); omega) (by omega) dX4_head_41 (fun H locs hP hD hS => ?_)
        have hP : va_P (dC, dI) vwCl [(mm, .inr (4, [.int (iI fl), .ref ta, .int (iI tz), .ref ka, .int (iI nn), .ref da, .ref ya, .int (iI pt), .int (iI md), .int (iI sx)])), (ta, .inl (cT, 4096, .inl (fun j => bI ((wrB t ((pl : Int).toNat) (([] : List Int) ++ [(x * 64 + cs * 32 + y)])) j))))] H := hP
        have hD : va_D A [(mm, .inr (4, [.int (iI fl), .ref ta, .int (iI tz), .ref ka, .int (iI nn), .ref da, .ref ya, .int (iI pt), .int (iI md), .int (iI sx)])), (ta, .inl (cT, 4096, .inl (fun j => bI ((wrB t ((pl : Int).toNat) (([] : List Int) ++ [(x * 64 + cs * 32 + y)])) j))))] := hD
        refine lv_goto (tgt := 139) hx hb dX4_head_42 (by decide) ?_
        exact J139 (1) z81 (([] : List Int) ++ [(x * 64 + cs * 32 + y)]) _ _ _ _ _ (by omega) (by first | (rw [idB_0 (by omega)]; rfl) | (rw [idB_1 (by omega) (by omega)]; rfl) | (rw [idB_2 (by omega) (by omega)]; rfl) | (rw [idB_3 (by omega) (by omega)]; rfl) | (rw [idB_4 (by omega) (by omega)]; rfl) | (rw [idB_5 (by omega)]; rfl)) (by simp only [List.length_append, List.length_cons, List.length_nil]; omega) (by omega) (hK.sub [0] rfl) (hP.sub [0, 1] rfl) (hD.sub [0, 1] (by decide) rfl) hS (lv_sub hl [1, 2, 3, 4, 5, 6, 0] rfl)
  have hP : va_P (dC, dI) vwCl [(mm, .inr (4, [.int (iI fl), .ref ta, .int (iI tz), .ref ka, .int (iI nn), .ref da, .ref ya, .int (iI pt), .int (iI md), .int (iI sx)])), (ta, .inl (cT, 4096, .inl (fun j => bI ((wrB t ((pl : Int).toNat) ([] : List Int)) j))))] s.heap := by rw [wrB_0]; exact hP
  have hD : va_D A [(mm, .inr (4, [.int (iI fl), .ref ta, .int (iI tz), .ref ka, .int (iI nn), .ref da, .ref ya, .int (iI pt), .int (iI md), .int (iI sx)])), (ta, .inl (cT, 4096, .inl (fun j => bI ((wrB t ((pl : Int).toNat) ([] : List Int)) j))))] := by rw [wrB_0]; exact hD
  refine lv_iload_n hx hb dX4_head_0 rfl (lv_at hl 1 rfl) ?_
  refine lv_istore (lv' := [(6, .int (iI pl)), (0, .ref mm), (1, .int (iI pl)), (2, .int (iI x)), (3, .int (iI y)), (4, .int (iI cs)), (5, .int (iI i))]) hx hb dX4_head_1 hl (by decide) rfl (fun ls hl => ?_)
  refine lv_iload_n hx hb dX4_head_3 rfl (lv_at hl 3 rfl) ?_
  refine lv_bipush (v := iI 6) hx hb dX4_head_4 (by decide +kernel) ?_
  refine li_ishl6 hx hb dX4_head_6 ?_
  refine lv_iload hx hb dX4_head_7 (lv_at hl 5 rfl) ?_
  refine li_if_eq (tgt := 17) hx hb (by omega) dX4_head_9 (by decide) (fun c82 => ?_) (fun c82 => ?_)
  · skip
    refine lv_iconst (v := iI 0) hx hb dX4_head_17 rfl ?_
    refine li_ior6 (z := x) hx hb (by omega) (by omega) dX4_head_18 ?_
    refine li_nm (fun z83 ez83 => ?_)
    refine lv_istore (lv' := [(7, .int (iI z83)), (6, .int (iI pl)), (0, .ref mm), (1, .int (iI pl)), (2, .int (iI x)), (3, .int (iI y)), (4, .int (iI cs)), (5, .int (iI i))]) hx hb dX4_head_19 hl (by decide) rfl (fun ls hl => ?_)
    exact J21 (1) z83 _ _ _ _ _ (by omega) (by omega) (by omega) (hK.sub [0] rfl) (hP.sub [0, 1] rfl) (hD.sub [0, 1] (by decide) rfl) hS (lv_sub hl [2, 3, 4, 5, 6, 7, 1, 0] rfl)
  · skip
    refine lv_bipush (v := iI 32) hx hb dX4_head_12 (by decide +kernel) ?_
    refine lv_goto (tgt := 18) hx hb dX4_head_14 (by decide) ?_
    refine li_ior6 (z := x) hx hb (by omega) (by omega) dX4_head_18 ?_
    refine li_nm (fun z84 ez84 => ?_)
    refine lv_istore (lv' := [(7, .int (iI z84)), (6, .int (iI pl)), (0, .ref mm), (1, .int (iI pl)), (2, .int (iI x)), (3, .int (iI y)), (4, .int (iI cs)), (5, .int (iI i))]) hx hb dX4_head_19 hl (by decide) rfl (fun ls hl => ?_)
    exact J21 (1) z84 _ _ _ _ _ (by omega) (by omega) (by omega) (hK.sub [0] rfl) (hP.sub [0, 1] rfl) (hD.sub [0, 1] (by decide) rfl) hS (lv_sub hl [2, 3, 4, 5, 6, 7, 1, 0] rfl)
