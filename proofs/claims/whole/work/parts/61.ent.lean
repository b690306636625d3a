theorem ent_i {V : Nat → Int} {N kd tg cs i ct sz pr : Int} {j : Nat} (hpr : pr < N) (hj : (j : Int) = 8 * N + 4 ∨ (j : Int) = 8 * N + 5) : entV V N kd tg cs i ct sz pr j = entN V N kd tg cs i ct sz pr j := by
  unfold entV
  by_cases h : 0 ≤ pr ∧ pr ≤ N
  · rw [if_pos h, upd_ne (by omega)]
  · rw [if_neg h]
theorem ent_4 {V : Nat → Int} {N kd tg cs i ct sz pr : Int} (hN : 0 ≤ N) (hpr : pr < N) : entV V N kd tg cs i ct sz pr (8 * N + 4).toNat = ct := by
  rw [ent_i hpr (by omega)]
  unfold entN
  rw [upd_ne (by omega), upd_ne (by omega), upd_ne (by omega), upd_at (by omega)]
theorem ent_5 {V : Nat → Int} {N kd tg cs i ct sz pr : Int} (hN : 0 ≤ N) (hpr : pr < N) : entV V N kd tg cs i ct sz pr (8 * N + 5).toNat = sz := by
  rw [ent_i hpr (by omega)]
  unfold entN
  rw [upd_ne (by omega), upd_ne (by omega), upd_at (by omega)]
