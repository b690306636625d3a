/-! the model's reading against the one that is specified -/
def NR (g : Int → Int) (x i1 j nm : Int) : Prop := (∃ y : Int, j < x ∧ lnum g (x - i1).toNat i1 0 = lnum g (x - j).toNat j y ∧ (y = nm ∧ nm ≤ 2147483647 ∨ 2147483647 < y ∧ 2147483647 < nm)) ∨ (x ≤ j ∧ lnum g (x - i1).toNat i1 0 = none)
theorem NR_0 (g : Int → Int) (x i1 : Int) : NR g x i1 i1 0 := by
  by_cases h : i1 < x
  · exact Or.inl ⟨0, h, rfl, Or.inl ⟨rfl, by omega⟩⟩
  · exact Or.inr ⟨by omega, lnum_no (by omega)⟩
theorem NR_go {g : Int → Int} {x i1 j nm n2 j2 : Int} (h : NR g x i1 j nm) (hg : 128 ≤ g j) (hm : 0 ≤ nm) (h2 : n2 = min (nm * 128 + g j % 128) 1099511627776) (hj : j2 = j + 1) : NR g x i1 j2 n2 := by
  subst hj
  rcases h with ⟨y, a1, a2, a3⟩ | ⟨a1, a2⟩
  · have e := lnum_go a1 hg (rfl : stp y (g j) = stp y (g j))
    by_cases h3 : j + 1 < x
    · refine Or.inl ⟨stp y (g j), h3, a2.trans e, ?_⟩
      rcases a3 with ⟨b1, b2⟩ | ⟨b1, b2⟩
      · rw [stp_lo (by omega)]; omega
      · rw [stp_hi b1]; omega
    · exact Or.inr ⟨by omega, (a2.trans e).trans (lnum_no (by omega))⟩
  · exact Or.inr ⟨by omega, a2⟩
theorem idn_x {g : Int → Int} {i x : Int} (h31 : 31 ≤ g i % 32) (h : lnum g (x - (i + 1)).toNat (i + 1) 0 = none) : idn g i x = none := by
  by_cases h1 : x ≤ i
  · exact idn_0 h1
  · by_cases h2 : g (i + 1) % 128 = 0
    · exact idn_l0 (by omega) h31 (lgn_0 h2)
    · exact idn_l0 (by omega) h31 (lgn_no h2 h)
theorem idn_128 {g : Int → Int} {i x : Int} (h31 : 31 ≤ g i % 32) (h : g (i + 1) % 128 = 0) : idn g i x = none := by
  by_cases h1 : x ≤ i
  · exact idn_0 h1
  · exact idn_l0 (by omega) h31 (lgn_0 h)
theorem NR_none {g : Int → Int} {x i j nm : Int} (h : NR g x (i + 1) j nm) (hx : x ≤ j) (h31 : 31 ≤ g i % 32) : idn g i x = none := by
  rcases h with ⟨y, a1, -, -⟩ | ⟨-, a2⟩
  · exact absurd a1 (by omega)
  · exact idn_x h31 a2
theorem NR_end {g : Int → Int} {x i j nm n2 : Int} (h : NR g x (i + 1) j nm) (hg : 0 ≤ g j ∧ g j < 128) (hm : 0 ≤ nm) (h2 : n2 = min (nm * 128 + g j) 1099511627776) (h31 : 31 ≤ g i % 32) (hf : j = i + 1 ∧ nm = 0 ∨ i + 1 < j ∧ 128 < g (i + 1) ∧ g (i + 1) < 256) :
    (n2 < 31 → idn g i x = none) ∧ (31 ≤ n2 → idn g i x = some (g i / 64, g i / 32 % 2, if 2147483647 < n2 then -1 else n2, j + 1) ∨ idn g i x = none ∧ x < j + 1) := by
  rcases h with ⟨y, a1, a2, a3⟩ | ⟨a1, a2⟩
  · have hix : i < x := by omega
    have e := a2.trans (lnum_end a1 hg.2 (rfl : stp y (g j) = stp y (g j)))
    have hr : stp y (g j) = n2 ∧ n2 ≤ 1099511627776 ∨ 2147483647 < stp y (g j) ∧ 2147483647 < n2 := by
      rcases a3 with ⟨b1, b2⟩ | ⟨b1, b2⟩
      · rw [stp_lo (by omega)]; omega
      · rw [stp_hi b1]; omega
    generalize stp y (g j) = w at e hr
    refine ⟨fun h3 => ?_, fun h3 => Or.inl ?_⟩
    · by_cases h4 : g (i + 1) % 128 = 0
      · exact idn_128 h31 h4
      · exact idn_l0 hix h31 (lgn_lo h4 e (by omega))
    · have h4 : ¬ g (i + 1) % 128 = 0 := by
        rcases hf with ⟨b1, b2⟩ | ⟨b1, b2, b3⟩
        · subst b1; omega
        · omega
      refine idn_l1 hix h31 (lgn_hi h4 e (by omega) ?_) rfl rfl
      by_cases h5 : 2147483647 < n2
      · rw [if_pos h5, if_pos (by omega)]
      · rw [if_neg h5, if_neg (by omega)]; omega
  · exact ⟨fun _ => idn_x h31 a2, fun _ => Or.inr ⟨idn_x h31 a2, by omega⟩⟩
/-- what the model's length() says of the bytes from p on: q, and where it stands then -/
def lenP (g : Int → Int) (tz st p q p2 : Int) : Prop :=
  (q = -2 ∧ (tz ≤ p ∨ 128 < g p ∧ (tz < p + 1 + (g p - 128) ∨ st = 1 ∧ (g (p + 1) = 0 ∨ llen g (g p - 128).toNat (p + 1) 0 < 128)))) ∨
  (q = -1 ∧ p < tz ∧ g p = 128 ∧ p2 = p + 1) ∨
  (0 ≤ q ∧ p < tz ∧ g p < 128 ∧ q = g p ∧ p2 = p + 1) ∨
  (0 ≤ q ∧ q ≤ 1099511627776 ∧ p < tz ∧ 128 < g p ∧ p2 = p + 1 + (g p - 128) ∧ p2 ≤ tz ∧ ¬ (st = 1 ∧ (g (p + 1) = 0 ∨ llen g (g p - 128).toNat (p + 1) 0 < 128)) ∧ (q = llen g (g p - 128).toNat (p + 1) 0 ∧ q ≤ 4096 ∨ 4096 < q ∧ 4096 < llen g (g p - 128).toNat (p + 1) 0))
section LEN
variable {g : Int → Int} {tz st p q p2 i x kd cs tg : Int}
theorem lenP_b (h : lenP g tz st p q p2) (hg : g p < 256) : q = -2 ∨ q = -1 ∧ p2 = p + 1 ∧ p < tz ∨ 0 ≤ q ∧ p < p2 ∧ q ≤ 1099511627776 ∧ p2 ≤ tz := by
  rcases h with h | h | h | h <;> omega
theorem len_no2 (h : lenP g tz st p q p2) (hx : x ≤ tz) (hI : idn g i x = some (kd, cs, tg, p) ∨ idn g i x = none ∧ x < p) (hq : q = -2) : hdr g st i x = none := by
  rcases hI with hI | ⟨hI, -⟩
  · by_cases h1 : x ≤ p
    · exact hdr_1 hI h1
    · rcases h with ⟨-, h | ⟨a1, h | h⟩⟩ | h | h | h
      · exact absurd h (by omega)
      · exact hdr_l0 hI (by omega) a1 rfl rfl (dll_0 (by omega))
      · by_cases h2 : x - (p + 1) < g p - 128
        · exact hdr_l0 hI (by omega) a1 rfl rfl (dll_0 h2)
        · exact hdr_l0 hI (by omega) a1 rfl rfl (dll_1 (by omega) rfl h)
      all_goals exact absurd hq (by omega)
  · exact hdr_0 hI
theorem len_no1 (h : lenP g tz st p q p2) (hI : idn g i x = some (kd, cs, tg, p) ∨ idn g i x = none ∧ x < p) (hq : q = -1) (hs : ¬ (cs = 1 ∧ st = 0)) : hdr g st i x = none := by
  rcases hI with hI | ⟨hI, -⟩
  · by_cases h1 : x ≤ p
    · exact hdr_1 hI h1
    · rcases h with h | h | h | h
      · exact absurd hq (by omega)
      · exact hdr_o0 hI (by omega) h.2.2.1 hs
      all_goals exact absurd hq (by omega)
  · exact hdr_0 hI
theorem len_no3 (h : lenP g tz st p q p2) (hI : idn g i x = some (kd, cs, tg, p) ∨ idn g i x = none ∧ x < p) (hq : ¬ q = -2) (hs : x < p2) : hdr g st i x = none := by
  rcases hI with hI | ⟨hI, -⟩
  · by_cases h1 : x ≤ p
    · exact hdr_1 hI h1
    · rcases h with h | h | h | h
      · exact absurd h.1 hq
      · omega
      · omega
      · exact hdr_l0 hI (by omega) h.2.2.2.1 rfl rfl (dll_0 (by omega))
  · exact hdr_0 hI
theorem len_op (h : lenP g tz st p q p2) (hI : idn g i x = some (kd, cs, tg, p) ∨ idn g i x = none ∧ x < p) (hq : q = -1) (hc : cs = 1) (hst : st = 0) (hs : p2 ≤ x) : hdr g st i x = some (kd, 1, tg, 1, 0, p2) := by
  rcases h with h | h | h | h
  · exact absurd hq (by omega)
  · rcases hI with hI | ⟨-, hI⟩
    · rw [hc] at hI
      exact hdr_o1 hI (by omega) h.2.2.1 ⟨rfl, hst⟩ h.2.2.2
    · omega
  all_goals exact absurd hq (by omega)
theorem len_big (h : lenP g tz st p q p2) (hI : idn g i x = some (kd, cs, tg, p) ∨ idn g i x = none ∧ x < p) (hq : 0 ≤ q) (hx : x ≤ 4096) (hp : 0 ≤ p) (hs : x - p2 < q) : hdr g st i x = none := by
  rcases hI with hI | ⟨hI, -⟩
  · by_cases h1 : x ≤ p
    · exact hdr_1 hI h1
    · rcases h with h | h | h | h
      · exact absurd h.1 (by omega)
      · exact absurd h.1 (by omega)
      · exact hdr_s0 hI (by omega) h.2.2.1 (by omega)
      · by_cases h2 : x - (p + 1) < g p - 128
        · exact hdr_l0 hI (by omega) h.2.2.2.1 rfl rfl (dll_0 h2)
        · obtain ⟨-, -, -, a4, a5, a6, a7, a8⟩ := h
          exact hdr_l2 hI (by omega) a4 rfl rfl (dll_2 (by omega) rfl a7) a5 (by omega)
  · exact hdr_0 hI
theorem len_ok (h : lenP g tz st p q p2) (hI : idn g i x = some (kd, cs, tg, p) ∨ idn g i x = none ∧ x < p) (hq : 0 ≤ q) (hx : x ≤ 4096) (hp : 0 ≤ p) (h2 : p2 ≤ x) (hs : q ≤ x - p2) (hgp : g p < 256) : hdr g st i x = some (kd, cs, tg, 0, q, p2) := by
  have hb := lenP_b h hgp
  rcases hI with hI | ⟨-, hI⟩
  · rcases h with h | h | h | h
    · exact absurd h.1 (by omega)
    · exact absurd h.1 (by omega)
    · exact hdr_s1 hI (by omega) h.2.2.1 hs h.2.2.2.1 h.2.2.2.2
    · obtain ⟨-, -, -, a4, a5, a6, a7, a8⟩ := h
      rcases a8 with ⟨a8, a9⟩ | ⟨a8, a9⟩
      · exact hdr_l1 hI (by omega) a4 rfl rfl (by rw [a8]; exact dll_2 (by omega) rfl a7) a5 hs
      · omega
  · omega
end LEN
/-- the same but at some places -/
def eqP (P : Nat → Prop) (V W : Nat → Int) (N : Int) : Prop := ∀ j : Nat, (j : Int) < 8 * N → ¬ P j → V j = W j
def UU (o : Option (Int × (Nat → Int))) (x : Int) : Option (Int × Int × (Nat → Int)) := match o with
  | none => none
  | some (N, V) => some (x, N, V)
theorem layV_x {g : Int → Int} {sx i x pr N : Int} {V : Nat → Int} {d : Nat} (h : hdr g sx i x = none) : layV g sx (d + 1) i x pr N V = none := by
  by_cases h2 : 2048 ≤ N
  · exact layV_n h2
  · exact layV_h (by omega) h
theorem layV_U {g : Int → Int} {sx i x pr N kd tg sz ct xs : Int} {V : Nat → Int} {d : Nat} (hn : N < 2048) (h : hdr g sx i x = some (kd, 1, tg, 0, sz, ct)) (hx : xs = ct + sz) : layV g sx (d + 1) i x pr N V = UU (loopU (layV g sx d) xs N 4096 ct (N + 1) (entV V N kd tg 1 i ct sz pr)) xs := by
  subst hx
  cases e : loopU (layV g sx d) (ct + sz) N 4096 ct (N + 1) (entV V N kd tg 1 i ct sz pr) with
  | none => exact layV_c0 hn h e
  | some q => obtain ⟨N2, V2⟩ := q; exact layV_c1 hn h e
theorem layV_P {g : Int → Int} {sx i x pr N kd tg sz ct xs a : Int} {V : Nat → Int} {d k : Nat} (hn : N < 2048) (h : hdr g sx i x = some (kd, 0, tg, 0, sz, ct)) (hx : xs = ct + sz) (ha : a = xs) : layV g sx (d + 1) i x pr N V = UU (loopU (layV g sx d) xs N k a (N + 1) (entV V N kd tg 0 i ct sz pr)) xs := by
  rw [loopU_y ha, hx]
  exact layV_p hn h
/-- the model's node, laid down in the model's order -/
theorem ent_m {P : Nat → Prop} {Y V Y2 : Nat → Int} {N kd tg cs i pr : Int} (hN : 0 ≤ N) (hpr : -1 ≤ pr ∧ pr < N) (hE : eqP P Y V N) (hP : ∀ j, P j → j % 8 = 5)
    (h0 : ∀ j, Y2 j = if pr < 0 then vf_upd (vf_upd (vf_upd (vf_upd (vf_upd (vf_upd Y (8 * N + 3).toNat i) (8 * N).toNat kd) (8 * N + 1).toNat tg) (8 * N + 2).toNat cs) (8 * N + 6).toNat pr) (8 * N + 7).toNat 0 j
      else vf_upd (vf_upd (vf_upd (vf_upd (vf_upd (vf_upd (vf_upd Y (8 * N + 3).toNat i) (8 * N).toNat kd) (8 * N + 1).toNat tg) (8 * N + 2).toNat cs) (8 * N + 6).toNat pr) (8 * N + 7).toNat 0) (8 * pr + 7).toNat (vf_upd (vf_upd (vf_upd (vf_upd (vf_upd (vf_upd Y (8 * N + 3).toNat i) (8 * N).toNat kd) (8 * N + 1).toNat tg) (8 * N + 2).toNat cs) (8 * N + 6).toNat pr) (8 * N + 7).toNat 0 (8 * pr + 7).toNat + 1) j)
    (ct sz : Int) : ∀ j : Nat, (j : Int) < 8 * (N + 1) → ¬ P j → ¬ (j : Int) = 8 * N + 4 → ¬ (j : Int) = 8 * N + 5 → Y2 j = entV V N kd tg cs i ct sz pr j := by
  have key : ∀ j : Nat, (j : Int) < 8 * (N + 1) → ¬ P j → ¬ (j : Int) = 8 * N + 4 → ¬ (j : Int) = 8 * N + 5 → vf_upd (vf_upd (vf_upd (vf_upd (vf_upd (vf_upd Y (8 * N + 3).toNat i) (8 * N).toNat kd) (8 * N + 1).toNat tg) (8 * N + 2).toNat cs) (8 * N + 6).toNat pr) (8 * N + 7).toNat 0 j = entN V N kd tg cs i ct sz pr j := by
    intro j hj hp h4 h5
    unfold entN vf_upd
    by_cases hlo : (j : Int) < 8 * N
    · rw [if_neg (by omega), if_neg (by omega), if_neg (by omega), if_neg (by omega), if_neg (by omega), if_neg (by omega), if_neg (by omega), if_neg (by omega), if_neg (by omega), if_neg (by omega), if_neg (by omega), if_neg (by omega), if_neg (by omega), if_neg (by omega)]
      exact hE j hlo hp
    · rcases (show (j : Int) = 8 * N ∨ (j : Int) = 8 * N + 1 ∨ (j : Int) = 8 * N + 2 ∨ (j : Int) = 8 * N + 3 ∨ (j : Int) = 8 * N + 6 ∨ (j : Int) = 8 * N + 7 by omega) with h | h | h | h | h | h
      · rw [if_neg (by omega), if_neg (by omega), if_neg (by omega), if_neg (by omega), if_pos (by omega), if_neg (by omega), if_neg (by omega), if_neg (by omega), if_neg (by omega), if_neg (by omega), if_neg (by omega), if_neg (by omega), if_pos (by omega)]
      · rw [if_neg (by omega), if_neg (by omega), if_neg (by omega), if_pos (by omega), if_neg (by omega), if_neg (by omega), if_neg (by omega), if_neg (by omega), if_neg (by omega), if_neg (by omega), if_pos (by omega)]
      · rw [if_neg (by omega), if_neg (by omega), if_pos (by omega), if_neg (by omega), if_neg (by omega), if_neg (by omega), if_neg (by omega), if_neg (by omega), if_pos (by omega)]
      · rw [if_neg (by omega), if_neg (by omega), if_neg (by omega), if_neg (by omega), if_neg (by omega), if_pos (by omega), if_neg (by omega), if_neg (by omega), if_neg (by omega), if_neg (by omega), if_pos (by omega)]
      · rw [if_neg (by omega), if_pos (by omega), if_neg (by omega), if_pos (by omega)]
      · rw [if_pos (by omega), if_pos (by omega)]
  intro j hj hp h4 h5
  rw [h0 j]
  unfold entV
  by_cases hneg : pr < 0
  · rw [if_pos hneg, if_neg (by omega)]
    exact key j hj hp h4 h5
  · rw [if_neg hneg, if_pos (by omega), show (8 * pr + 7).toNat = (pr * 8 + 7).toNat by omega]
    have hP7 : ¬ P (pr * 8 + 7).toNat := fun h => by have := hP _ h; omega
    rw [key (pr * 8 + 7).toNat (by omega) hP7 (by omega) (by omega)]
    exact upd_cg fun _ => key j hj hp h4 h5
theorem ent_k {Y Y2 : Nat → Int} {N kd tg cs i pr : Int} (hpr : -1 ≤ pr ∧ pr < N)
    (h0 : ∀ j, Y2 j = if pr < 0 then vf_upd (vf_upd (vf_upd (vf_upd (vf_upd (vf_upd Y (8 * N + 3).toNat i) (8 * N).toNat kd) (8 * N + 1).toNat tg) (8 * N + 2).toNat cs) (8 * N + 6).toNat pr) (8 * N + 7).toNat 0 j
      else vf_upd (vf_upd (vf_upd (vf_upd (vf_upd (vf_upd (vf_upd Y (8 * N + 3).toNat i) (8 * N).toNat kd) (8 * N + 1).toNat tg) (8 * N + 2).toNat cs) (8 * N + 6).toNat pr) (8 * N + 7).toNat 0) (8 * pr + 7).toNat (vf_upd (vf_upd (vf_upd (vf_upd (vf_upd (vf_upd Y (8 * N + 3).toNat i) (8 * N).toNat kd) (8 * N + 1).toNat tg) (8 * N + 2).toNat cs) (8 * N + 6).toNat pr) (8 * N + 7).toNat 0 (8 * pr + 7).toNat + 1) j) :
    ∀ j : Nat, (j : Int) < 8 * N → ¬ j % 8 = 7 → Y2 j = Y j := by
  intro j hj h7
  rw [h0 j]
  by_cases hneg : pr < 0
  · rw [if_pos hneg]
    rw [upd_ne (by omega), upd_ne (by omega), upd_ne (by omega), upd_ne (by omega), upd_ne (by omega), upd_ne (by omega)]
  · rw [if_neg hneg]
    rw [upd_ne (by omega), upd_ne (by omega), upd_ne (by omega), upd_ne (by omega), upd_ne (by omega), upd_ne (by omega), upd_ne (by omega)]
