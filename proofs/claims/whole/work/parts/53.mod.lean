/-! rows for the model: a list written over a row of bytes -/
def wrB (t : Nat → Int) (p : Nat) (l : List Int) : Nat → Int := fun j => if p ≤ j ∧ j < p + l.length then l.getD (j - p) 0 else t j
theorem wrB_0 (t : Nat → Int) (p : Nat) : wrB t p [] = t := by
  funext j
  unfold wrB
  rw [if_neg (fun h => absurd h.2 (by show ¬ (j < p + 0); omega))]
theorem wrB_s {t : Nat → Int} {p q : Nat} {l : List Int} {x : Int} (hq : q = p + l.length) : vf_upd (wrB t p l) q x = wrB t p (l ++ [x]) := by
  funext j
  unfold vf_upd wrB
  simp only [List.length_append, List.length_cons, List.length_nil]
  by_cases e : j = q
  · rw [if_pos e, if_pos (by omega), e, hq, List.getD_eq_getElem?_getD, List.getElem?_append_right (by omega)]
    rw [show p + l.length - p - l.length = 0 by omega]; rfl
  · rw [if_neg e]
    by_cases e2 : p ≤ j ∧ j < p + l.length
    · rw [if_pos e2, if_pos (by omega), List.getD_eq_getElem?_getD, List.getD_eq_getElem?_getD, List.getElem?_append_left (by omega)]
    · rw [if_neg e2, if_neg (by omega)]
theorem okB_wr {t : Nat → Int} {z y : Int} {L l : List Int} {p : Nat} (h : okB 4096 t z L) (hl : ∀ x ∈ l, 0 ≤ x ∧ x < 256) (hz : z + (l.length : Int) ≤ 4096) (hp : (p : Int) = z) (hy : y = z + (l.length : Int)) : okB 4096 (wrB t p l) y (L ++ l) := by
  obtain ⟨a1, a2, a3, a4, a5, a6⟩ := h
  refine ⟨a1, a2, by simp; omega, by omega, ?_, ?_⟩
  · intro j
    unfold wrB
    split
    · rename_i hj
      have : j - p < l.length := by omega
      rw [List.getD_eq_getElem?_getD, List.getElem?_eq_getElem this]
      exact hl _ (List.getElem_mem this)
    · exact a5 j
  · intro j hj
    simp only [List.length_append] at hj
    unfold wrB
    by_cases e : p ≤ j ∧ j < p + l.length
    · rw [if_pos e, List.getD_eq_getElem?_getD, List.getD_eq_getElem?_getD, List.getElem?_append_right (by omega), show j - p = j - L.length by omega]
    · rw [if_neg e, a6 j (by omega), List.getD_eq_getElem?_getD, List.getD_eq_getElem?_getD, List.getElem?_append_left (by omega)]
/-- the row with its first z bytes moved up by n, from the top down to behind i -/
def shB (t : Nat → Int) (n i z : Int) : Nat → Int := fun j => if i + n < (j : Int) ∧ (j : Int) < z + n then t (j - n.toNat) else t j
theorem shB_0 (t : Nat → Int) {n z i : Int} (hi : z ≤ i + 1) : shB t n i z = t := by
  funext j
  unfold shB
  rw [if_neg (by omega)]
theorem shB_s {t : Nat → Int} {n i z i2 : Int} (hn : 0 < n) (hi : 0 ≤ i) (hz : i < z) (h2 : i2 = i - 1) : vf_upd (shB t n i z) (i + n).toNat (shB t n i z i.toNat) = shB t n i2 z := by
  funext j
  subst h2
  unfold vf_upd shB
  by_cases e : j = (i + n).toNat
  · rw [if_pos e, if_neg (by omega), if_pos (by omega)]
    congr 1; omega
  · rw [if_neg e]
    by_cases e2 : i + n < (j : Int) ∧ (j : Int) < z + n
    · rw [if_pos e2, if_pos (by omega)]
    · rw [if_neg e2, if_neg (by omega)]
theorem shB_rng {t : Nat → Int} (h : ∀ j, 0 ≤ t j ∧ t j < 256) (n i z : Int) : ∀ j, 0 ≤ shB t n i z j ∧ shB t n i z j < 256 := by
  intro j
  unfold shB
  split
  · exact h _
  · exact h _
theorem okB_sh {t : Nat → Int} {z n y : Int} {L l : List Int} (h : okB 4096 t z L) (hl : ∀ x ∈ l, 0 ≤ x ∧ x < 256) (hn : n = (l.length : Int)) (hz : z + n ≤ 4096) (hy : y = z + n) : okB 4096 (wrB (shB t n (-1) z) 0 l) y (l ++ L) := by
  obtain ⟨a1, a2, a3, a4, a5, a6⟩ := h
  refine ⟨a1, a2, by simp; omega, by omega, ?_, ?_⟩
  · intro j
    unfold wrB
    split
    · rename_i hj
      have : j - 0 < l.length := by omega
      rw [List.getD_eq_getElem?_getD, List.getElem?_eq_getElem this]
      exact hl _ (List.getElem_mem this)
    · exact shB_rng a5 _ _ _ j
  · intro j hj
    simp only [List.length_append] at hj
    unfold wrB
    by_cases e : 0 ≤ j ∧ j < 0 + l.length
    · rw [if_pos e, List.getD_eq_getElem?_getD, List.getD_eq_getElem?_getD, List.getElem?_append_left (by omega)]; rfl
    · rw [if_neg e]
      unfold shB
      rw [if_pos (by omega), a6 _ (by omega), List.getD_eq_getElem?_getD, List.getD_eq_getElem?_getD, List.getElem?_append_right (by omega), show j - n.toNat = j - l.length by omega]
theorem iI_and1 (z : Int) : iI z &&& iI 1 = iI (z % 2) := iI_mask z 1 2 (by decide) (by decide +kernel) (by decide)
section LI3
variable {p : Program} {l : Launch} {e : Env} {R : Room} {s : State} {m : MethodId} {args : Array Value} {below : List Frame} {meth : Method} {c : Code} {H : Heap} {locs : List Loc} {cells slots : Nat} {Q : State → Prop}
variable {cc : ByteArray} {pc : Nat} {ls : Array Slot} {rest : List Value} {D : va_G} {cl : List vw_C} {A : Nat → Prop} {a : Nat} {tys : List (ClassId × FieldType)} {ws : va_W} {H0 : Heap}
theorem li_iand1 (hx : p.tables.exec = Jvm.exec) (hb : c.code = cc) {x : Int} (hdg : decode cc pc = .ok (.iand, 1)) (k : W p l e R s m args below meth c H locs cells slots Q (F0 m (pc + 1) ls (.int (iI (x % 2)) :: rest))) : W p l e R s m args below meth c H locs cells slots Q (F0 m pc ls (.int (iI 1) :: .int (iI x) :: rest)) :=
  lv_iand hx hb hdg (by rw [iI_and1]; exact k)
theorem li_bastW (hx : p.tables.exec = Jvm.exec) (hb : c.code = cc) (hK : va_K D cl tys s) (hP : va_P D cl ws H) (hD : va_D A ws) (hS : va_S A H0 H locs) (q0 t0 : Nat) {cA : ClassId} {n b9 : Nat} {f : Nat → Int} {l9 : List Int} (ha : ws[q0]? = some (a, .inl (cA, n, .inl (fun j => bI (wrB f b9 l9 j))))) (ht : tys[t0]? = some (cA, .byte)) {z x y : Int} (hz : 0 ≤ z ∧ z < n) (hn : n < 2147483648) (hq : z.toNat = b9 + l9.length) (hy : x % 256 = y) (hdg : decode cc pc = .ok (.bastore, 1))
    (kk : ∀ (H1 : Heap) (locs1 : List Loc), va_P D cl (ws.set q0 (a, .inl (cA, n, .inl (fun j => bI (wrB f b9 (l9 ++ [y]) j))))) H1 → va_D A (ws.set q0 (a, .inl (cA, n, .inl (fun j => bI (wrB f b9 (l9 ++ [y]) j))))) → va_S A H0 H1 locs1 → W p l e R s m args below meth c H1 locs1 cells slots Q (F0 m (pc + 1) ls rest)) : W p l e R s m args below meth c H locs cells slots Q (F0 m pc ls (.int (bI x) :: .int (iI z) :: .ref a :: rest)) := by
  rw [bI_mod, hy]
  exact li_bast hx hb hK hP hD hS q0 t0 ha ht hz hn hdg (fun H1 locs1 h1 h2 h3 => by rw [wrB_s hq] at h1 h2; exact kk H1 locs1 h1 h2 h3)
end LI3
/-! lengths of what is written -/
def idLen (y : Int) : Int := if y < 31 then 1 else if y < 128 then 2 else if y < 16384 then 3 else if y < 2097152 then 4 else if y < 268435456 then 5 else 6
def lnLen (i : Int) : Int := if i < 128 then 1 else if i < 256 then 2 else 3
theorem sv_c {k : Int} {m : Nat} (P : Int) (hP : (128 : Int) ^ (m + 1) = P) (h : ¬ k / P = 0) : sv k (m + 1) = (128 + k / P % 128) :: sv k m := by
  show (if k / 128 ^ (m + 1) = 0 then [] else [128 + k / 128 ^ (m + 1) % 128]) ++ sv k m = _
  rw [hP, if_neg h]; rfl
theorem sv_z {k : Int} {m : Nat} (P : Int) (hP : (128 : Int) ^ (m + 1) = P) (h : k / P = 0) : sv k (m + 1) = sv k m := by
  show (if k / 128 ^ (m + 1) = 0 then [] else [128 + k / 128 ^ (m + 1) % 128]) ++ sv k m = _
  rw [hP, if_pos h]; rfl
theorem sv_e (k : Int) : sv k 0 = [k % 128] := rfl
theorem idB_5 {x y cs : Int} (h : 268435456 ≤ y) : idB x y cs = [x * 64 + cs * 32 + 31, 128 + y / 268435456 % 128, 128 + y / 2097152 % 128, 128 + y / 16384 % 128, 128 + y / 128 % 128, y % 128] := by
  unfold idB
  rw [if_neg (by omega), sv_c 268435456 (by decide) (by omega), sv_c 2097152 (by decide) (by omega), sv_c 16384 (by decide) (by omega), sv_c 128 (by decide) (by omega), sv_e]
theorem idB_4 {x y cs : Int} (h : 2097152 ≤ y) (h2 : y < 268435456) : idB x y cs = [x * 64 + cs * 32 + 31, 128 + y / 2097152 % 128, 128 + y / 16384 % 128, 128 + y / 128 % 128, y % 128] := by
  unfold idB
  rw [if_neg (by omega), sv_z 268435456 (by decide) (by omega), sv_c 2097152 (by decide) (by omega), sv_c 16384 (by decide) (by omega), sv_c 128 (by decide) (by omega), sv_e]
theorem idB_3 {x y cs : Int} (h : 16384 ≤ y) (h2 : y < 2097152) : idB x y cs = [x * 64 + cs * 32 + 31, 128 + y / 16384 % 128, 128 + y / 128 % 128, y % 128] := by
  unfold idB
  rw [if_neg (by omega), sv_z 268435456 (by decide) (by omega), sv_z 2097152 (by decide) (by omega), sv_c 16384 (by decide) (by omega), sv_c 128 (by decide) (by omega), sv_e]
theorem idB_2 {x y cs : Int} (h : 128 ≤ y) (h2 : y < 16384) : idB x y cs = [x * 64 + cs * 32 + 31, 128 + y / 128 % 128, y % 128] := by
  unfold idB
  rw [if_neg (by omega), sv_z 268435456 (by decide) (by omega), sv_z 2097152 (by decide) (by omega), sv_z 16384 (by decide) (by omega), sv_c 128 (by decide) (by omega), sv_e]
theorem idB_1 {x y cs : Int} (h : 31 ≤ y) (h2 : y < 128) : idB x y cs = [x * 64 + cs * 32 + 31, y % 128] := by
  unfold idB
  rw [if_neg (by omega), sv_z 268435456 (by decide) (by omega), sv_z 2097152 (by decide) (by omega), sv_z 16384 (by decide) (by omega), sv_z 128 (by decide) (by omega), sv_e]
theorem idB_0 {x y cs : Int} (h : y < 31) : idB x y cs = [x * 64 + cs * 32 + y] := if_pos h
theorem lnB_0 {i : Int} (h : i < 128) : lnB i = [i] := if_pos h
theorem lnB_1 {i : Int} (h : 128 ≤ i) (h2 : i < 256) : lnB i = [129, i] := by unfold lnB; rw [if_neg (by omega), if_pos h2]
theorem lnB_2 {i : Int} (h : 256 ≤ i) : lnB i = [130, i / 256 % 256, i % 256] := by
  unfold lnB; rw [if_neg (by omega), if_neg (by omega)]
  show [130, i / 256 ^ 1 % 256, i / 256 ^ 0 % 256] = _
  rw [Int.pow_zero, Int.ediv_one, show (256 : Int) ^ 1 = 256 from rfl]
theorem idB_len {x y cs : Int} (h : 0 ≤ y) : ((idB x y cs).length : Int) = idLen y := by
  unfold idLen
  by_cases h0 : y < 31
  · rw [if_pos h0, idB_0 h0]; rfl
  · rw [if_neg h0]
    by_cases h1 : y < 128
    · rw [if_pos h1, idB_1 (by omega) h1]; rfl
    · rw [if_neg h1]
      by_cases h2 : y < 16384
      · rw [if_pos h2, idB_2 (by omega) h2]; rfl
      · rw [if_neg h2]
        by_cases h3 : y < 2097152
        · rw [if_pos h3, idB_3 (by omega) h3]; rfl
        · rw [if_neg h3]
          by_cases h4 : y < 268435456
          · rw [if_pos h4, idB_4 (by omega) h4]; rfl
          · rw [if_neg h4, idB_5 (by omega)]; rfl
theorem lnB_len {i : Int} : ((lnB i).length : Int) = lnLen i := by
  unfold lnLen
  by_cases h0 : i < 128
  · rw [if_pos h0, lnB_0 h0]; rfl
  · rw [if_neg h0]
    by_cases h1 : i < 256
    · rw [if_pos h1, lnB_1 (by omega) h1]; rfl
    · rw [if_neg h1, lnB_2 (by omega)]; rfl
def rgB (l : List Int) : Prop := ∀ x ∈ l, 0 ≤ x ∧ x < 256
theorem rgB_app {a b : List Int} (ha : rgB a) (hb : rgB b) : rgB (a ++ b) := fun x h => (List.mem_append.mp h).elim (ha x) (hb x)
theorem rgB_c {a : Int} {b : List Int} (ha : 0 ≤ a ∧ a < 256) (hb : rgB b) : rgB (a :: b) := fun x h => (List.mem_cons.mp h).elim (fun e => by rw [e]; exact ha) (hb x)
theorem rgB_n : rgB [] := fun _ h => nomatch h
theorem rgB_nb (x : Int) : ∀ m, rgB (nb x m)
  | 0 => rgB_n
  | m + 1 => rgB_c (by omega) (rgB_nb x m)
theorem rgB_ln {i : Int} (h : 0 ≤ i ∧ i ≤ 4096) : rgB (lnB i) := by
  rcases (show i < 128 ∨ (128 ≤ i ∧ i < 256) ∨ 256 ≤ i by omega) with h0 | h0 | h0
  · rw [lnB_0 h0]; exact rgB_c (by omega) rgB_n
  · rw [lnB_1 h0.1 h0.2]; exact rgB_c (by omega) (rgB_c (by omega) rgB_n)
  · rw [lnB_2 h0]; exact rgB_c (by omega) (rgB_c (by omega) (rgB_c (by omega) rgB_n))
theorem rgB_sv (k : Int) : ∀ m, rgB (sv k m)
  | 0 => rgB_c (by omega) rgB_n
  | m + 1 => rgB_app (by split; exact rgB_n; exact rgB_c (by omega) rgB_n) (rgB_sv k m)
theorem rgB_id {x y cs : Int} (hx : 0 ≤ x ∧ x ≤ 3) (hy : 0 ≤ y) (hc : cs = 0 ∨ cs = 1) : rgB (idB x y cs) := by
  unfold idB
  split
  · exact rgB_c (by omega) rgB_n
  · exact rgB_c (by omega) (rgB_sv y 4)
theorem rgB_take {l : List Int} {n : Nat} (h : rgB l) : rgB (l.take n) := fun x hx => h x (List.mem_of_mem_take hx)
/-! feed, byte by byte -/
def fdw (p0 p1 p2 p3 p4 k : Int) : Int := if k < 4 then p0 else if k < 8 then p1 else if k < 12 then p2 else if k < 16 then p3 else p4
def fdl (p0 p1 p2 p3 p4 : Int) : Nat → List Int
  | 0 => []
  | n + 1 => fdl p0 p1 p2 p3 p4 n ++ [fdw p0 p1 p2 p3 p4 (n : Int) / 2 ^ (24 - 8 * ((n : Int) % 4)).toNat % 256]
theorem fdl_len (p0 p1 p2 p3 p4 : Int) : ∀ n, (fdl p0 p1 p2 p3 p4 n).length = n
  | 0 => rfl
  | n + 1 => by rw [fdl, List.length_append, fdl_len p0 p1 p2 p3 p4 n]; rfl
theorem fdl_s {p0 p1 p2 p3 p4 k w y k2 : Int} (h : 0 ≤ k) (hw : w = fdw p0 p1 p2 p3 p4 k) (hy : y = w / 2 ^ (24 - 8 * (k % 4)).toNat % 256) (h2 : k2 = k + 1) : fdl p0 p1 p2 p3 p4 k.toNat ++ [y] = fdl p0 p1 p2 p3 p4 k2.toNat := by
  rw [h2, show (k + 1).toNat = k.toNat + 1 by omega, hy, hw]
  show _ = _ ++ [_]
  rw [show ((k.toNat : Nat) : Int) = k by omega]
theorem fdl_4 {p0 p1 p2 p3 p4 q : Int} {n : Nat} (h0 : (n : Int) % 4 = 0) (hw : ∀ i : Int, (n : Int) ≤ i → i < (n : Int) + 4 → fdw p0 p1 p2 p3 p4 i = q) : fdl p0 p1 p2 p3 p4 (n + 4) = fdl p0 p1 p2 p3 p4 n ++ nb q 4 := by
  have e0 : fdw p0 p1 p2 p3 p4 ((n : Nat) : Int) = q := hw _ (by omega) (by omega)
  have e1 : fdw p0 p1 p2 p3 p4 ((n + 1 : Nat) : Int) = q := hw _ (by omega) (by omega)
  have e2 : fdw p0 p1 p2 p3 p4 ((n + 2 : Nat) : Int) = q := hw _ (by omega) (by omega)
  have e3 : fdw p0 p1 p2 p3 p4 ((n + 3 : Nat) : Int) = q := hw _ (by omega) (by omega)
  have k0 : (24 - 8 * (((n : Nat) : Int) % 4)).toNat = 24 := by omega
  have k1 : (24 - 8 * (((n + 1 : Nat) : Int) % 4)).toNat = 16 := by omega
  have k2 : (24 - 8 * (((n + 2 : Nat) : Int) % 4)).toNat = 8 := by omega
  have k3 : (24 - 8 * (((n + 3 : Nat) : Int) % 4)).toNat = 0 := by omega
  rw [show n + 4 = n + 3 + 1 from rfl, fdl, e3, k3, show n + 3 = n + 2 + 1 from rfl, fdl, e2, k2, show n + 2 = n + 1 + 1 from rfl, fdl, e1, k1, fdl, e0, k0]
  rw [show (2 : Int) ^ 24 = 256 ^ 3 by decide, show (2 : Int) ^ 16 = 256 ^ 2 by decide, show (2 : Int) ^ 8 = 256 ^ 1 by decide, show (2 : Int) ^ 0 = 256 ^ 0 by decide]
  simp only [List.append_assoc]
  rfl
theorem fdl_20 (p0 p1 p2 p3 p4 : Int) : fdl p0 p1 p2 p3 p4 20 = nb p0 4 ++ nb p1 4 ++ nb p2 4 ++ nb p3 4 ++ nb p4 4 := by
  rw [show (20 : Nat) = 16 + 4 from rfl, fdl_4 (n := 16) (q := p4) (by decide) (fun i h1 h2 => by unfold fdw; rw [if_neg (by omega), if_neg (by omega), if_neg (by omega), if_neg (by omega)])]
  rw [show (16 : Nat) = 12 + 4 from rfl, fdl_4 (n := 12) (q := p3) (by decide) (fun i h1 h2 => by unfold fdw; rw [if_neg (by omega), if_neg (by omega), if_neg (by omega), if_pos (by omega)])]
  rw [show (12 : Nat) = 8 + 4 from rfl, fdl_4 (n := 8) (q := p2) (by decide) (fun i h1 h2 => by unfold fdw; rw [if_neg (by omega), if_neg (by omega), if_pos (by omega)])]
  rw [show (8 : Nat) = 4 + 4 from rfl, fdl_4 (n := 4) (q := p1) (by decide) (fun i h1 h2 => by unfold fdw; rw [if_neg (by omega), if_pos (by omega)])]
  rw [fdl_4 (n := 0) (q := p0) (by decide) (fun i h1 h2 => by unfold fdw; rw [if_pos (by omega)])]
  rfl
theorem feL_eq (L : List Int) (p0 p1 p2 p3 p4 : Int) : feL L p0 p1 p2 p3 p4 = L ++ fdl p0 p1 p2 p3 p4 20 := by
  rw [fdl_20]; unfold feL; simp only [List.append_assoc]
theorem rgB_fdl (p0 p1 p2 p3 p4 : Int) : ∀ n, rgB (fdl p0 p1 p2 p3 p4 n)
  | 0 => rgB_n
  | n + 1 => rgB_app (rgB_fdl p0 p1 p2 p3 p4 n) (rgB_c (by omega) rgB_n)
