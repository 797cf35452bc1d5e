/-! BITS OF MASKS, TRUTHS -/
theorem v_pz {P : Prop} (h : ¬ P) : nI 0 = v_p P := (v_p_f h).symm
theorem v_po {P : Prop} (h : P) : nI 1 = v_p P := (v_p_t h).symm
theorem v_b1 (i : Nat) : bt 1 i = decide (i = 0) := by
  by_cases h : i < 32
  · exact (show ∀ i, i < 32 → bt 1 i = decide (i = 0) by decide +kernel) i h
  · rw [b_big (by omega)]; simp; omega
theorem v_has1 {s : Int32} {k : Nat} (hk : k < 32) : (s >>> (nI k &&& 31)) &&& 1 = if bt s k = true then 1 else 0 := by
  apply b_ext
  intro i hi
  rw [b_and, v_b1, b_sshr k hk s hi]
  by_cases h0 : i = 0
  · subst h0
    simp only [Nat.add_zero, hk, if_true, decide_true, Bool.and_true]
    cases h : bt s k <;> simp [v_b1, b_0]
  · simp only [h0, decide_false, Bool.and_false]
    cases h : bt s k <;> simp [v_b1, b_0, h0]
theorem v_hasI {s : Int32} {k : Nat} (hk : k < 32) : (s >>> (nI k &&& 31)) &&& nI 1 = nI 1 ↔ bt s k = true := by
  rw [show nI 1 = (1 : Int32) from rfl, v_has1 hk]
  cases bt s k <;> decide
theorem v_hasV {s : Int32} {k : Nat} (hk : k < 32) : (s >>> (nI k &&& 31)) &&& nI 1 = nI (if bt s k = true then 1 else 0) := by
  rw [show nI 1 = (1 : Int32) from rfl, v_has1 hk]
  cases bt s k <;> rfl
theorem v_one {k : Nat} (hk : k < 32) (i : Nat) (hi : i < 32) : bt (nI 1 <<< (nI k &&& 31)) i = decide (i = k) := by
  rw [show nI 1 = (1 : Int32) from rfl, b_shl k hk 1 hi, v_b1]
  by_cases h : i = k
  · subst h; simp
  · simp only [h, decide_false, Bool.and_eq_false_iff, decide_eq_false_iff_not]; omega
theorem v_not (x : Int32) {i : Nat} (hi : i < 32) : bt (x ^^^ -1) i = !bt x i := by rw [b_xor, b_m1 i hi]; simp
