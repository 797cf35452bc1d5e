/-! THE REFERENCE: one who joins, with any friends -/
theorem VB_mz {b : BS} (h : VB b) {i : Nat} (hi : b_n b ≤ i) : b_m b i = 0 := by
  apply Nat.eq_of_testBit_eq
  intro j
  rw [Nat.zero_testBit, h.2.2.2.2.2.2.1 i j]
  exact h.2.2.2.2.2.2.2.2 j i hi
/-- one of kind k, number v joins, a friend of those of q -/
def b_jn (b : BS) (k v q : Nat) : BS := (b_n b + 1, b_y b, (fun i => if i = b_n b then k else b_k b i), (fun i => if i = b_n b then v else b_v b i), (fun i => if i = b_n b then q else if q.testBit i = true then b_m b i ||| 2 ^ b_n b else b_m b i), b_r b)
theorem b_jn_b {b : BS} (h : VB b) {k v q : Nat} (hq : q < 2 ^ b_n b) (i j : Nat) : (b_m (b_jn b k v q) i).testBit j = ((b_m b i).testBit j || (decide (i = b_n b) && q.testBit j) || (decide (j = b_n b) && q.testBit i)) := by
  have hqn : ∀ a, b_n b ≤ a → q.testBit a = false := fun a ha => Nat.testBit_lt_two_pow (Nat.lt_of_lt_of_le hq (Nat.pow_le_pow_right (by decide) ha))
  show (if i = b_n b then q else if q.testBit i = true then b_m b i ||| 2 ^ b_n b else b_m b i).testBit j = _
  by_cases e : i = b_n b
  · subst e
    rw [if_pos rfl, VB_mz h (Nat.le_refl _), Nat.zero_testBit, hqn _ (Nat.le_refl _)]
    simp
  · rw [if_neg e]
    by_cases c : q.testBit i = true
    · rw [if_pos c, Nat.testBit_or, Nat.testBit_two_pow]
      simp [e, c, eq_comm]
    · rw [if_neg c]
      simp [e, c]
theorem VB_jn {b : BS} (h : VB b) {k v q : Nat} (hn : b_n b < 6) (hk : k ≤ 6) (hv : v ≤ 9) (hq : q < 2 ^ b_n b) : VB (b_jn b k v q) := by
  have hqn : ∀ a, b_n b ≤ a → q.testBit a = false := fun a ha => Nat.testBit_lt_two_pow (Nat.lt_of_lt_of_le hq (Nat.pow_le_pow_right (by decide) ha))
  have hb := b_jn_b h (k := k) (v := v) hq
  obtain ⟨h1, h2, h3, h4, h5, h6, h7, h8, h9⟩ := h
  have hz : ∀ i j, b_n b + 1 ≤ j → (b_m (b_jn b k v q) i).testBit j = false := fun i j hj => by
    rw [hb, h9 i j (by omega), hqn j (by omega), decide_eq_false (show ¬ j = b_n b by omega)]
    simp
  refine ⟨by show b_n b + 1 ≤ 6; omega, h2, fun i => ?_, fun i => ?_, fun i => ?_, h6, fun i j => ?_, fun i => ?_, hz⟩
  · show (if i = b_n b then k else b_k b i) ≤ 6
    split
    · exact hk
    · exact h3 i
  · show (if i = b_n b then v else b_v b i) ≤ 9
    split
    · exact hv
    · exact h4 i
  · apply Nat.lt_of_not_le
    intro hlt
    obtain ⟨j, hj1, hj2⟩ : ∃ j, 6 ≤ j ∧ (b_m (b_jn b k v q) i).testBit j = true := Nat.exists_ge_and_testBit_of_ge_two_pow (n := 6) hlt
    rw [hz i j (by omega)] at hj2
    cases hj2
  · rw [hb, hb, h7 i j, Bool.or_assoc, Bool.or_assoc]
    congr 1
    rw [Bool.or_comm]
  · rw [hb, h8]
    by_cases e : i = b_n b
    · subst e; rw [hqn _ (Nat.le_refl _)]; simp
    · simp [e]
/-- one of the marks turned is one friendship turned -/
theorem b_jn_fl {b : BS} (h : VB b) {k v q o : Nat} (hq : q < 2 ^ b_n b) (ho : o < b_n b) (i : Nat) : b_m (b_flip (b_jn b k v q) (b_n b) o) i = b_m (b_jn b k v (q ^^^ 2 ^ o)) i := by
  have hq2 : q ^^^ 2 ^ o < 2 ^ b_n b := Nat.xor_lt_two_pow hq (Nat.pow_lt_pow_right (by decide) ho)
  apply Nat.eq_of_testBit_eq
  intro j
  rw [b_jn_b h hq2, Nat.testBit_xor, Nat.testBit_xor, Nat.testBit_two_pow, Nat.testBit_two_pow]
  show (if i = b_n b then b_m (b_jn b k v q) (b_n b) ^^^ 2 ^ o else if i = o then b_m (b_jn b k v q) o ^^^ 2 ^ b_n b else b_m (b_jn b k v q) i).testBit j = _
  have hoo : ¬ o = b_n b := by omega
  by_cases e : i = b_n b
  · subst e
    rw [if_pos rfl, Nat.testBit_xor, b_jn_b h hq, Nat.testBit_two_pow, VB_mz h (Nat.le_refl _), Nat.zero_testBit]
    have hqn : q.testBit (b_n b) = false := Nat.testBit_lt_two_pow hq
    simp [hqn, hoo]
  · rw [if_neg e]
    by_cases e2 : i = o
    · subst e2
      rw [if_pos rfl, Nat.testBit_xor, b_jn_b h hq, Nat.testBit_two_pow]
      by_cases e3 : j = b_n b
      · subst e3
        rw [h.2.2.2.2.2.2.2.2 i _ (Nat.le_refl _)]
        simp [e]
      · simp [e, e3, Ne.symm e3]
    · rw [if_neg e2, b_jn_b h hq]
      simp [e, Ne.symm e2]
