theorem okB_rng {w : Nat} {t : Nat → Int} {z : Int} {L : List Int} (h : okB w t z L) : 0 ≤ z ∧ z ≤ 4096 := by
  obtain ⟨h1, h2, h3, h4, -, -⟩ := h
  omega
theorem okN_rng {M : Nat} {V : Nat → Int} {mn : Int} (h : okN M V mn) : 0 ≤ mn ∧ mn ≤ 2048 := ⟨h.2.2.1, h.2.2.2.1⟩
theorem ordr_rng (f g : Int → Int) : ∀ (k : Nat) (i : Int), -1 ≤ ordr f g k i ∧ ordr f g k i ≤ 1
  | 0, _ => by show -1 ≤ (0 : Int) ∧ (0 : Int) ≤ 1; omega
  | k + 1, i => by
    show -1 ≤ (if _ then _ else _) ∧ (if _ then _ else _) ≤ (1 : Int)
    by_cases h : f i < g i
    · rw [if_pos h]; omega
    · rw [if_neg h]
      by_cases h2 : g i < f i
      · rw [if_pos h2]; omega
      · rw [if_neg h2]; exact ordr_rng f g k (i + 1)
theorem ord2_rng (L : List Int) (V : Nat → Int) (a b : Int) : -1 ≤ ord2 L V a b ∧ ord2 L V a b ≤ 1 := ordr_rng _ _ _ _
