/-! contents lie within the bytes -/
theorem llen_0 (g : Int → Int) (hg : ∀ i, 0 ≤ g i) : ∀ (m : Nat) (i a : Int), 0 ≤ a → 0 ≤ llen g m i a
  | 0, _, _, h => h
  | m + 1, i, a, h => by
    refine llen_0 g hg m (i + 1) _ ?_
    have := hg i
    split <;> omega
theorem hdr_w {g : Int → Int} {st i x kd cs tg op sz ct : Int} (hg : ∀ i, 0 ≤ g i) (h : hdr g st i x = some (kd, cs, tg, op, sz, ct)) : 0 ≤ sz ∧ ct + sz ≤ x ∧ (op = 1 → sz = 0) := by
  unfold hdr at h
  split at h
  · cases h
  · rename_i kd1 cs1 tg1 j e
    have hj := hg j
    split at h
    · cases h
    · split at h
      · split at h
        · cases h; omega
        · cases h
      · split at h
        · split at h
          · cases h; omega
          · cases h
        · split at h
          · cases h
          · rename_i s e2
            split at h
            · rename_i h5
              have h0 : 0 ≤ s := by
                unfold dll at e2
                split at e2
                · cases e2
                · split at e2
                  · cases e2
                  · cases e2; exact llen_0 g hg _ _ _ (by omega)
              cases h; omega
            · cases h
theorem idn_w {g : Int → Int} {i x kd cs tg j : Int} (h : idn g i x = some (kd, cs, tg, j)) : i < j ∧ i < x := by
  unfold idn at h
  split at h
  · cases h
  · split at h
    · cases h; omega
    · split at h
      · cases h
      · rename_i t9 j9 e
        cases h
        have key : ∀ (f : Nat) (a b : Int) (q : Int × Int), lnum g f a b = some q → a < q.2 := by
          intro f
          induction f with
          | zero => intro a b q hq; cases hq
          | succ f ih =>
            intro a b q hq
            unfold lnum at hq
            split at hq
            · cases hq; show a < a + 1; omega
            · have := ih _ _ _ hq; omega
        unfold lgn at e
        split at e
        · cases e
        · split at e
          · cases e
          · rename_i a9 j8 e2
            split at e
            · cases e
            · cases e
              have := key _ _ _ _ e2
              omega
theorem hdr_c {g : Int → Int} {st i x kd cs tg op sz ct : Int} (hg : ∀ i, 0 ≤ g i) (h : hdr g st i x = some (kd, cs, tg, op, sz, ct)) : i < ct := by
  unfold hdr at h
  split at h
  · cases h
  · rename_i kd1 cs1 tg1 j e
    have hj := idn_w e
    have hgj := hg j
    split at h
    · cases h
    · split at h
      · split at h
        · cases h; omega
        · cases h
      · split at h
        · split at h
          · cases h; omega
          · cases h
        · split at h
          · cases h
          · split at h
            · cases h; omega
            · cases h
def gdF (g : Int → Int) (z : Int) (f : Int → Int → Int → Int → (Nat → Int) → Option (Int × Int × (Nat → Int))) : Prop :=
  ∀ (i x pr N : Int) (V : Nat → Int) (b N2 : Int) (W : Nat → Int), f i x pr N V = some (b, N2, W) → 0 ≤ i → x ≤ z → 0 ≤ N → pr < N → gdN N V z → gdN N2 W z ∧ N ≤ N2 ∧ i ≤ b ∧ (∀ j : Nat, (j : Int) < 8 * N → ¬ j % 8 = 7 → W j = V j)
theorem loopU_w {g : Int → Int} {z : Int} {f : Int → Int → Int → Int → (Nat → Int) → Option (Int × Int × (Nat → Int))} (hf : gdF g z f) (x pr : Int) (hx : x ≤ z) : ∀ (k : Nat) (a N : Int) (V : Nat → Int) (N2 : Int) (W : Nat → Int), loopU f x pr k a N V = some (N2, W) → 0 ≤ a → 0 ≤ N → pr < N → gdN N V z → gdN N2 W z ∧ N ≤ N2 ∧ (∀ j : Nat, (j : Int) < 8 * N → ¬ j % 8 = 7 → W j = V j) := by
  intro k
  induction k with
  | zero =>
    intro a N V N2 W h ha hN hp hg
    unfold loopU at h
    split at h
    · cases h; exact ⟨hg, by omega, fun _ _ _ => rfl⟩
    · cases h
  | succ k ih =>
    intro a N V N2 W h ha hN hp hg
    unfold loopU at h
    split at h
    · split at h
      · cases h
      · rename_i b N3 V3 e
        obtain ⟨q1, q2, q3, q4⟩ := hf _ _ _ _ _ _ _ _ e ha hx hN hp hg
        obtain ⟨w1, w2, w3⟩ := ih _ _ _ _ _ h (by omega) (by omega) (by omega) q1
        exact ⟨w1, by omega, fun j h1 h2 => (w3 j (by omega) h2).trans (q4 j h1 h2)⟩
    · split at h
      · cases h; exact ⟨hg, by omega, fun _ _ _ => rfl⟩
      · cases h
theorem loopZ_w {g : Int → Int} {z : Int} {f : Int → Int → Int → Int → (Nat → Int) → Option (Int × Int × (Nat → Int))} (hf : gdF g z f) (x pr : Int) (hx : x ≤ z) : ∀ (k : Nat) (a N : Int) (V : Nat → Int) (b N2 : Int) (W : Nat → Int), loopZ g f x pr k a N V = some (b, N2, W) → 0 ≤ a → 0 ≤ N → pr < N → gdN N V z → gdN N2 W z ∧ N ≤ N2 ∧ a ≤ b ∧ b < x ∧ (∀ j : Nat, (j : Int) < 8 * N → ¬ j % 8 = 7 → W j = V j) := by
  intro k
  induction k with
  | zero => intro a N V b N2 W h; cases h
  | succ k ih =>
    intro a N V b N2 W h ha hN hp hg
    unfold loopZ at h
    split at h
    · split at h
      · cases h; exact ⟨hg, by omega, by omega, by omega, fun _ _ _ => rfl⟩
      · split at h
        · cases h
        · rename_i b3 N3 V3 e
          obtain ⟨q1, q2, q3, q4⟩ := hf _ _ _ _ _ _ _ _ e ha hx hN hp hg
          obtain ⟨w1, w2, w3, w4, w5⟩ := ih _ _ _ _ _ _ h (by omega) (by omega) (by omega) q1
          exact ⟨w1, by omega, by omega, w4, fun j h1 h2 => (w5 j (by omega) h2).trans (q4 j h1 h2)⟩
    · cases h
theorem ent_w {V : Nat → Int} {N kd tg cs i ct sz pr z : Int} (hN : 0 ≤ N) (hpr : pr < N) (hg : gdN N V z) (h0 : 0 ≤ ct) (h1 : 0 ≤ sz) (h2 : ct + sz ≤ z) : gdN (N + 1) (entV V N kd tg cs i ct sz pr) z ∧ ∀ j : Nat, (j : Int) < 8 * N → ¬ j % 8 = 7 → entV V N kd tg cs i ct sz pr j = V j := by
  have hlo : ∀ j : Nat, (j : Int) < 8 * N → ¬ j % 8 = 7 → entV V N kd tg cs i ct sz pr j = V j := by
    intro j hj h7
    unfold entV
    by_cases h : 0 ≤ pr ∧ pr ≤ N
    · rw [if_pos h, upd_ne (by omega)]; exact entN_lo hN hj
    · rw [if_neg h]; exact entN_lo hN hj
  refine ⟨?_, hlo⟩
  intro a ha0 ha1
  by_cases e : a = N
  · subst e
    rw [show (a * 8 + 4).toNat = (8 * a + 4).toNat by omega, show (a * 8 + 5).toNat = (8 * a + 5).toNat by omega, ent_4 hN hpr, ent_5 hN hpr]
    exact ⟨h0, h1, h2⟩
  · rw [hlo _ (by omega) (by omega), hlo _ (by omega) (by omega)]
    exact hg a ha0 (by omega)
theorem layV_w {g : Int → Int} (hg : ∀ i, 0 ≤ g i) (sx z : Int) : ∀ d : Nat, gdF g z (layV g sx d) := by
  intro d
  induction d with
  | zero => intro i x pr N V b N2 W h; cases h
  | succ d ih =>
    intro i x pr N V b N2 W h hi hx hN hpr hV
    unfold layV at h
    split at h
    · cases h
    · split at h
      · cases h
      · rename_i kd cs tg op sz ct e
        obtain ⟨w1, w2, w3⟩ := hdr_w hg e
        have w4 := hdr_c hg e
        obtain ⟨e1, e2⟩ := ent_w (kd := kd) (tg := tg) (cs := cs) (i := i) (ct := ct) (sz := sz) hN hpr hV (by omega) w1 (by omega)
        split at h
        · split at h
          · cases h
          · rename_i b9 N9 V9 e9
            cases h
            obtain ⟨q1, q2, q3, q4, q5⟩ := loopZ_w ih _ _ hx _ _ _ _ _ _ _ e9 (by omega) (by omega) (by omega) e1
            refine ⟨?_, by omega, by omega, fun j h1 h2 => ?_⟩
            · intro a ha0 ha1
              have hq := q1 a ha0 ha1
              rw [upd_ne (j := (a * 8 + 4).toNat) (by omega)]
              by_cases e : a = N
              · subst e
                rw [upd_at rfl]
                have h4 : V9 (a * 8 + 4).toNat = ct := by
                  rw [show (a * 8 + 4).toNat = (8 * a + 4).toNat by omega, q5 _ (by omega) (by omega), ent_4 hN hpr]
                omega
              · rw [upd_ne (by omega)]; exact hq
            · rw [upd_ne (by omega), q5 j (by omega) h2]; exact e2 j h1 h2
        · split at h
          · split at h
            · cases h
            · rename_i N9 V9 e9
              cases h
              obtain ⟨q1, q2, q3⟩ := loopU_w ih _ _ (by omega) _ _ _ _ _ _ e9 (by omega) (by omega) (by omega) e1
              exact ⟨q1, by omega, by omega, fun j h1 h2 => (q3 j (by omega) h2).trans (e2 j h1 h2)⟩
          · cases h
            exact ⟨e1, by omega, by omega, e2⟩
theorem rdS_w {w : Nat} {t : Nat → Int} {z N sx : Int} {L : List Int} {V : Nat → Int} (hok : okB w t z L) (h : rdS L sx = some (N, V)) : gdN N V z := by
  unfold rdS at h
  split at h
  · cases h
  · rename_i b N9 V9 e
    split at h
    · cases h
      exact (layV_w (fun i => (gd_rng hok i).1) sx z 40 _ _ _ _ _ _ _ _ e (by omega) (by have := hok.2.2.1; omega) (by omega) (by omega) (fun a h0 h1 => absurd h1 (by omega))).1
    · cases h
theorem gdN_cg {N z : Int} {V W : Nat → Int} (h : gdN N W z) (e : eqN V W N) : gdN N V z := by
  intro a h0 h1
  rw [e _ (by omega), e _ (by omega)]
  exact h a h0 h1
