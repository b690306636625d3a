/-- what the rows of the nodes may still make -/
def phR (M : Nat) : Nat := (if M < 16384 then 16384 else 0) + 2 * (16384 - M)
theorem phR_grow {w v : Nat} (h1 : w < v) (h2 : v ≤ 16384) (h3 : 2 * w ≤ v ∨ v = 16384) : v + phR v ≤ phR w := by
  unfold phR
  split <;> split <;> omega
def entN (V : Nat → Int) (N kd tg cs i ct sz pr : Int) : Nat → Int :=
  vf_upd (vf_upd (vf_upd (vf_upd (vf_upd (vf_upd (vf_upd (vf_upd V (N * 8 + 0).toNat kd) (N * 8 + 1).toNat tg) (N * 8 + 2).toNat cs) (N * 8 + 3).toNat i) (N * 8 + 4).toNat ct) (N * 8 + 5).toNat sz) (N * 8 + 6).toNat pr) (N * 8 + 7).toNat 0
/-- the nodes with one more, N, in node pr -/
def entV (V : Nat → Int) (N kd tg cs i ct sz pr : Int) : Nat → Int :=
  if 0 ≤ pr ∧ pr ≤ N then vf_upd (entN V N kd tg cs i ct sz pr) (pr * 8 + 7).toNat (entN V N kd tg cs i ct sz pr (pr * 8 + 7).toNat + 1) else entN V N kd tg cs i ct sz pr
theorem upd_at {f : Nat → Int} {k : Nat} {x : Int} {j : Nat} (h : j = k) : vf_upd f k x j = x := if_pos h
theorem upd_ne {f : Nat → Int} {k : Nat} {x : Int} {j : Nat} (h : j ≠ k) : vf_upd f k x j = f j := if_neg h
theorem upd_cg {f g : Nat → Int} {k : Nat} {x : Int} {j : Nat} (h : j ≠ k → f j = g j) : vf_upd f k x j = vf_upd g k x j := by
  unfold vf_upd
  split
  · rfl
  · exact h (by assumption)
theorem upd_rng {f : Nat → Int} {k : Nat} {x : Int} (h : ∀ j, -2147483648 ≤ f j ∧ f j < 2147483648) (hx : -2147483648 ≤ x ∧ x < 2147483648) : ∀ j, -2147483648 ≤ vf_upd f k x j ∧ vf_upd f k x j < 2147483648 := by
  intro j
  unfold vf_upd
  split
  · exact hx
  · exact h j
theorem entN_cg {V0 V : Nat → Int} {N kd tg cs i ct sz pr : Int} (hN : 0 ≤ N) (h : ∀ j : Nat, (j : Int) < 8 * N → V0 j = V j) (j : Nat) (hj : (j : Int) < 8 * (N + 1)) : entN V0 N kd tg cs i ct sz pr j = entN V N kd tg cs i ct sz pr j := by
  unfold entN
  refine upd_cg fun e7 => upd_cg fun e6 => upd_cg fun e5 => upd_cg fun e4 => upd_cg fun e3 => upd_cg fun e2 => upd_cg fun e1 => upd_cg fun e0 => h j ?_
  omega
theorem entN_lo {V : Nat → Int} {N kd tg cs i ct sz pr : Int} (hN : 0 ≤ N) {j : Nat} (hj : (j : Int) < 8 * N) : entN V N kd tg cs i ct sz pr j = V j := by
  unfold entN
  rw [upd_ne (by omega), upd_ne (by omega), upd_ne (by omega), upd_ne (by omega), upd_ne (by omega), upd_ne (by omega), upd_ne (by omega), upd_ne (by omega)]
theorem entN_rng {V : Nat → Int} {N kd tg cs i ct sz pr : Int} (h : ∀ j, -2147483648 ≤ V j ∧ V j < 2147483648) (h0 : -2147483648 ≤ kd ∧ kd < 2147483648) (h1 : -2147483648 ≤ tg ∧ tg < 2147483648) (h2 : -2147483648 ≤ cs ∧ cs < 2147483648) (h3 : -2147483648 ≤ i ∧ i < 2147483648) (h4 : -2147483648 ≤ ct ∧ ct < 2147483648) (h5 : -2147483648 ≤ sz ∧ sz < 2147483648) (h6 : -2147483648 ≤ pr ∧ pr < 2147483648) :
    ∀ j, -2147483648 ≤ entN V N kd tg cs i ct sz pr j ∧ entN V N kd tg cs i ct sz pr j < 2147483648 :=
  upd_rng (upd_rng (upd_rng (upd_rng (upd_rng (upd_rng (upd_rng (upd_rng h h0) h1) h2) h3) h4) h5) h6) (by decide)
/-- the array behind, with what 'put' and 'get' said of the node in which it is -/
theorem ent_fin {V0 V V9 : Nat → Int} {N kd tg cs i ct sz pr q : Int} (hN : 0 ≤ N) (h : ∀ j : Nat, (j : Int) < 8 * N → V0 j = V j)
    (hq : 0 ≤ pr ∧ pr < N + 1 ∧ q = entN V0 N kd tg cs i ct sz pr (pr * 8 + 7).toNat ∨ (pr < 0 ∨ N + 1 ≤ pr) ∧ q = 0)
    (h9 : 0 ≤ pr ∧ pr < N + 1 ∧ V9 = vf_upd (entN V0 N kd tg cs i ct sz pr) (pr * 8 + 7).toNat (q + 1) ∨ (pr < 0 ∨ N + 1 ≤ pr) ∧ V9 = entN V0 N kd tg cs i ct sz pr) :
    ∀ j : Nat, (j : Int) < 8 * (N + 1) → V9 j = entV V N kd tg cs i ct sz pr j := by
  intro j hj
  unfold entV
  rcases h9 with ⟨a1, a2, rfl⟩ | ⟨a1, rfl⟩
  · rcases hq with ⟨b1, b2, rfl⟩ | ⟨b1, -⟩
    · rw [if_pos (by omega), ← entN_cg hN h (pr * 8 + 7).toNat (by omega)]
      exact upd_cg fun _ => entN_cg hN h j hj
    · exact absurd b1 (by omega)
  · rw [if_neg (by omega)]
    exact entN_cg hN h j hj
theorem okN_ent {M M' : Nat} {V V' : Nat → Int} {N kd tg cs i ct sz pr : Int} (h : okN M V N) (hN : N < 2048) (hM : 64 ≤ M' ∧ M' ≤ 16384 ∧ 8 * (N + 1) ≤ M') (hct : 0 ≤ ct ∧ ct ≤ 4096) (hsz : 0 ≤ sz ∧ sz ≤ 4096)
    (hr : ∀ j, -2147483648 ≤ V' j ∧ V' j < 2147483648) (he : ∀ j : Nat, (j : Int) < 8 * (N + 1) → V' j = entV V N kd tg cs i ct sz pr j) : okN M' V' (N + 1) := by
  obtain ⟨h1, h2, h3, h4, h5, h6, h7⟩ := h
  refine ⟨hM.1, hM.2.1, by omega, by omega, hM.2.2, hr, ?_⟩
  intro a ha0 ha1
  have key : ∀ (f : Int), 0 ≤ f → f < 8 → entN V N kd tg cs i ct sz pr (a * 8 + f).toNat = if a = N then (if f = 0 then kd else if f = 1 then tg else if f = 2 then cs else if f = 3 then i else if f = 4 then ct else if f = 5 then sz else if f = 6 then pr else 0) else V (a * 8 + f).toNat := by
    intro f hf0 hf1
    by_cases e : a = N
    · rw [if_pos e]
      subst e
      unfold entN vf_upd
      rcases (show f = 0 ∨ f = 1 ∨ f = 2 ∨ f = 3 ∨ f = 4 ∨ f = 5 ∨ f = 6 ∨ f = 7 by omega) with rfl | rfl | rfl | rfl | rfl | rfl | rfl | rfl <;> simp <;> omega
    · rw [if_neg e]
      exact entN_lo h3 (by omega)
  have h9 : ∀ f : Int, 0 ≤ f → f < 8 → V' (a * 8 + f).toNat = (if f = 7 ∧ a = pr then entN V N kd tg cs i ct sz pr (a * 8 + f).toNat + 1 else entN V N kd tg cs i ct sz pr (a * 8 + f).toNat) := by
    intro f hf0 hf1
    rw [he _ (by omega)]
    unfold entV
    by_cases hp : 0 ≤ pr ∧ pr ≤ N
    · rw [if_pos hp]
      by_cases e : f = 7 ∧ a = pr
      · rw [if_pos e, upd_at (by rw [e.1, e.2]), e.1, e.2]
      · rw [if_neg e, upd_ne (by omega)]
    · rw [if_neg hp, if_neg (by omega)]
  have o := h7 a ha0
  rw [h9 4 (by decide) (by decide), h9 5 (by decide) (by decide), h9 7 (by decide) (by decide), key 4 (by decide) (by decide), key 5 (by decide) (by decide), key 7 (by decide) (by decide)]
  by_cases e : a = N
  · simp only [if_pos e]
    simp
    split <;> omega
  · simp only [if_neg e]
    have o := o (by omega)
    simp
    split <;> omega
theorem ent_q {M : Nat} {V0 V : Nat → Int} {N kd tg cs i ct sz pr q : Int} (ho : okN M V N) (h : ∀ j : Nat, (j : Int) < 8 * N → V0 j = V j) (hpr : -1 ≤ pr ∧ pr < N)
    (hq : 0 ≤ pr ∧ pr < N + 1 ∧ q = entN V0 N kd tg cs i ct sz pr (pr * 8 + 7).toNat ∨ (pr < 0 ∨ N + 1 ≤ pr) ∧ q = 0) : 0 ≤ q ∧ q ≤ 2048 := by
  obtain ⟨h1, h2, h3, h4, h5, h6, h7⟩ := ho
  rcases hq with ⟨b1, b2, rfl⟩ | ⟨-, rfl⟩
  · rw [entN_lo h3 (by omega), h _ (by omega)]
    have := h7 pr b1 hpr.2
    omega
  · decide
theorem ent_r9 {V8 V9 : Nat → Int} {N pr q : Int} (h8 : ∀ j, -2147483648 ≤ V8 j ∧ V8 j < 2147483648) (hq : 0 ≤ q ∧ q ≤ 2048)
    (h9 : 0 ≤ pr ∧ pr < N + 1 ∧ V9 = vf_upd V8 (pr * 8 + 7).toNat (q + 1) ∨ (pr < 0 ∨ N + 1 ≤ pr) ∧ V9 = V8) : ∀ j, -2147483648 ≤ V9 j ∧ V9 j < 2147483648 := by
  rcases h9 with ⟨-, -, rfl⟩ | ⟨-, rfl⟩
  · exact upd_rng h8 (by omega)
  · exact h8
/-- the links that one class of the nest has to another's fields -/
def nsW (U : State) : Prop := va_Nw (Jvm.Cond.fieldLinkNest "RuleReader$Nodes" (117 : Nat) "RuleReader$Header" "kind" "I" "RuleReader") U ∧ va_Nw (Jvm.Cond.fieldLinkNest "RuleReader$Nodes" (104 : Nat) "RuleReader$Header" "constructed" "Z" "RuleReader") U ∧ va_Nw (Jvm.Cond.fieldLinkNest "RuleReader$Nodes" (120 : Nat) "RuleReader$Header" "tag" "I" "RuleReader") U ∧ va_Nw (Jvm.Cond.fieldLinkNest "RuleReader$Nodes" (92 : Nat) "RuleReader$Header" "open" "Z" "RuleReader") U ∧ va_Nw (Jvm.Cond.fieldLinkNest "RuleReader$Nodes" (102 : Nat) "RuleReader$Header" "size" "I" "RuleReader") U ∧ va_Nw (Jvm.Cond.fieldLinkNest "RuleReader$Nodes" (89 : Nat) "RuleReader$Header" "contents" "I" "RuleReader") U
theorem nsW_warm {s U : State} (hW : s.WarmedH U.vm) (h : nsW s) : nsW U := ⟨va_Nw.warmF hW h.1, va_Nw.warmF hW h.2.1, va_Nw.warmF hW h.2.2.1, va_Nw.warmF hW h.2.2.2.1, va_Nw.warmF hW h.2.2.2.2.1, va_Nw.warmF hW h.2.2.2.2.2⟩
theorem nsW_same {u U : State} (e : u.vm = U.vm) (h : nsW u) : nsW U := ⟨va_Nw.same rfl e h.1, va_Nw.same rfl e h.2.1, va_Nw.same rfl e h.2.2.1, va_Nw.same rfl e h.2.2.2.1, va_Nw.same rfl e h.2.2.2.2.1, va_Nw.same rfl e h.2.2.2.2.2⟩
theorem nsW_of {args : Array Value} {s : State} (h : ∀ w ∈ lw_tbl, w.before args s = true) : nsW s := ⟨va_Nw.of rfl (h _ wl79), va_Nw.of rfl (h _ wl81), va_Nw.of rfl (h _ wl83), va_Nw.of rfl (h _ wl85), va_Nw.of rfl (h _ wl87), va_Nw.of rfl (h _ wl89)⟩
