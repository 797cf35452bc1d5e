/-! THE CLASS: pure facts for its readers -/
theorem sm_add (g : Nat → Nat) (f : Nat → Bool) : ∀ n, sm (fun i => g i + if f i = true then 1 else 0) n = sm g n + cnt f n
  | 0 => rfl
  | n + 1 => by
    show sm _ n + (g n + if f n = true then 1 else 0) = (sm g n + g n) + (cnt f n + if f n = true then 1 else 0)
    rw [sm_add g f n]; omega
theorem frs_n (B : Nat → Nat → Bool) (hs : ∀ i j, B i j = B j i) (hd : ∀ i, B i i = false) : ∀ n, n ≤ 6 → sm (fun i => cnt (B i) n) n = 2 * cnt (fun k => B (w_l k) (w_g k)) (w_pr n)
  | 0, _ => rfl
  | n + 1, hn => by
    have ih := frs_n B hs hd n (by omega)
    have e1 : sm (fun i => cnt (B i) (n + 1)) (n + 1) = sm (fun i => cnt (B i) n + if B i n = true then 1 else 0) n + (cnt (B n) n + if B n n = true then 1 else 0) := rfl
    have e2 : cnt (B n) n = cnt (fun i => B i n) n := cnt_c (fun i _ => hs n i)
    rw [e1, sm_add, ih, hd n, e2]
    have e3 : w_pr (n + 1) = w_pr n + n := by
      rcases (show n = 0 ∨ n = 1 ∨ n = 2 ∨ n = 3 ∨ n = 4 ∨ n = 5 by omega) with rfl | rfl | rfl | rfl | rfl | rfl <;> rfl
    have e4 : cnt (fun i => (fun k => B (w_l k) (w_g k)) (w_pr n + i)) n = cnt (fun i => B i n) n := cnt_c (fun i hi => by
      have := w_lg n (by omega) i hi
      show B (w_l (w_pr n + i)) (w_g (w_pr n + i)) = _
      rw [this.1, this.2])
    rw [e3, cnt_sp, e4]
    simp; omega
theorem c_frs {b : BS} (hB : VB b) : w_frs b = cnt (fun k => (b_m b (w_l k)).testBit (w_g k)) (w_pr (b_n b)) := by
  have h := frs_n (fun i j => (b_m b i).testBit j) hB.2.2.2.2.2.2.1 hB.2.2.2.2.2.2.2.1 (b_n b) hB.1
  have e : sm (fun i => cnt (fun j => (b_m b i).testBit j) 7) (b_n b) = sm (fun i => cnt (fun j => (b_m b i).testBit j) (b_n b)) (b_n b) := sm_c (fun i _ => cnt_up (by have := hB.1; omega) (fun j _ => by
    by_cases hj : j < b_n b
    · rw [decide_eq_true hj, Bool.true_and]
    · rw [decide_eq_false hj, Bool.false_and]; exact hB.2.2.2.2.2.2.2.2 i j (by omega)))
  unfold w_frs
  rw [e, h]
  omega
/-- the greatest common divisor by trial -/
def w_low (a d : Nat) : Nat → Nat
  | 0 => 1
  | m + 1 => if a % (m + 2) = 0 ∧ d % (m + 2) = 0 then m + 2 else w_low a d m
theorem w_low_ok (a d : Nat) : ∀ m, 1 ≤ w_low a d m ∧ w_low a d m ≤ m + 1 ∧ a % w_low a d m = 0 ∧ d % w_low a d m = 0 ∧ ∀ t, 1 ≤ t → t ≤ m + 1 → a % t = 0 → d % t = 0 → t ≤ w_low a d m
  | 0 => ⟨Nat.le_refl _, Nat.le_refl _, Nat.mod_one a, Nat.mod_one d, fun t h1 h2 _ _ => h2⟩
  | m + 1 => by
    have ih := w_low_ok a d m
    unfold w_low
    split
    · rename_i h
      exact ⟨by omega, Nat.le_refl _, h.1, h.2, fun t _ h2 _ _ => h2⟩
    · rename_i h
      refine ⟨ih.1, by omega, ih.2.2.1, ih.2.2.2.1, fun t h1 h2 h3 h4 => ?_⟩
      rcases Nat.lt_or_ge t (m + 2) with z | z
      · exact ih.2.2.2.2 t h1 (by omega) h3 h4
      · have : t = m + 2 := by omega
        subst this
        exact absurd ⟨h3, h4⟩ h
theorem w_low_gcd {a d : Nat} (hd : 0 < d) : w_low a d (d - 1) = Nat.gcd a d := by
  obtain ⟨h1, h2, h3, h4, h5⟩ := w_low_ok a d (d - 1)
  have g1 : Nat.gcd a d ∣ a := Nat.gcd_dvd_left a d
  have g2 : Nat.gcd a d ∣ d := Nat.gcd_dvd_right a d
  have gp : 0 < Nat.gcd a d := Nat.gcd_pos_of_pos_right a hd
  have gl : Nat.gcd a d ≤ d := Nat.le_of_dvd hd g2
  apply Nat.le_antisymm
  · exact Nat.le_of_dvd gp (Nat.dvd_gcd (Nat.dvd_of_mod_eq_zero h3) (Nat.dvd_of_mod_eq_zero h4))
  · exact h5 _ gp (by omega) (Nat.mod_eq_zero_of_dvd g1) (Nat.mod_eq_zero_of_dvd g2)
/-! far: six steps reach all -/
theorem gr_b (m : Nat → Nat) (S : Nat) : ∀ (n j : Nat), (w_grow m S n).testBit j = true ↔ (S.testBit j = true ∨ ∃ i, i < n ∧ S.testBit i = true ∧ (m i).testBit j = true)
  | 0, j => by
    show S.testBit j = true ↔ _
    exact ⟨Or.inl, fun h => h.elim id (fun ⟨i, hi, _⟩ => absurd hi (by omega))⟩
  | n + 1, j => by
    unfold w_grow
    have ih := gr_b m S n j
    split
    · rename_i h
      rw [Nat.testBit_or, Bool.or_eq_true, ih]
      constructor
      · rintro ((z | ⟨i, h1, h2, h3⟩) | z)
        · exact Or.inl z
        · exact Or.inr ⟨i, by omega, h2, h3⟩
        · exact Or.inr ⟨n, by omega, h, z⟩
      · rintro (z | ⟨i, h1, h2, h3⟩)
        · exact Or.inl (Or.inl z)
        · rcases Nat.lt_succ_iff_lt_or_eq.mp h1 with y | y
          · exact Or.inl (Or.inr ⟨i, y, h2, h3⟩)
          · subst y; exact Or.inr h3
    · rename_i h
      rw [ih]
      constructor
      · rintro (z | ⟨i, h1, h2, h3⟩)
        · exact Or.inl z
        · exact Or.inr ⟨i, by omega, h2, h3⟩
      · rintro (z | ⟨i, h1, h2, h3⟩)
        · exact Or.inl z
        · rcases Nat.lt_succ_iff_lt_or_eq.mp h1 with y | y
          · exact Or.inr ⟨i, y, h2, h3⟩
          · subst y; exact absurd h2 h
theorem cnt_mono {f g : Nat → Bool} (h : ∀ i, f i = true → g i = true) : ∀ n, cnt f n ≤ cnt g n ∧ (cnt f n = cnt g n → ∀ i, i < n → f i = g i)
  | 0 => ⟨Nat.le_refl _, fun _ i hi => absurd hi (by omega)⟩
  | n + 1 => by
    obtain ⟨h1, h2⟩ := cnt_mono h n
    have e : (if f n = true then 1 else 0) ≤ (if g n = true then 1 else 0 : Nat) := by
      by_cases c : f n = true
      · rw [if_pos c, if_pos (h n c)]; exact Nat.le_refl _
      · rw [if_neg c]; exact Nat.zero_le _
    refine ⟨Nat.add_le_add h1 e, fun z i hi => ?_⟩
    have z' : cnt f n + (if f n = true then 1 else 0) = cnt g n + (if g n = true then 1 else 0) := z
    rcases Nat.lt_succ_iff_lt_or_eq.mp hi with y | y
    · exact h2 (by omega) i y
    · subst y
      have : (if f i = true then 1 else 0) = (if g i = true then 1 else 0 : Nat) := by omega
      cases c : f i <;> cases d : g i <;> simp [c, d] at this ⊢
theorem gs_up (m : Nat → Nat) (n S k j : Nat) (h : (w_gs m n S k).testBit j = true) : (w_gs m n S (k + 1)).testBit j = true := (gr_b m _ n j).mpr (Or.inl h)
theorem gs_stay {m : Nat → Nat} {n S k : Nat} (h : w_gs m n S (k + 1) = w_gs m n S k) : ∀ d, w_gs m n S (k + d) = w_gs m n S k
  | 0 => rfl
  | d + 1 => by
    show w_grow m (w_gs m n S (k + d)) n = _
    rw [gs_stay h d]; exact h
theorem gs_cnt {m : Nat → Nat} {n a : Nat} (hm : ∀ i, m i < 64) (ha : a < 6) : ∀ k, k ≤ 5 → (∃ q, q < k ∧ w_gs m n (2 ^ a) (q + 1) = w_gs m n (2 ^ a) q) ∨ k + 1 ≤ cnt (fun j => (w_gs m n (2 ^ a) k).testBit j) 6
  | 0, _ => Or.inr (by
    have : ∀ a, a < 6 → 1 ≤ cnt (fun j => (2 ^ a).testBit j) 6 := by decide
    exact this a ha)
  | k + 1, hk => by
    rcases gs_cnt (n := n) hm ha k (by omega) with ⟨q, h1, h2⟩ | h
    · exact Or.inl ⟨q, by omega, h2⟩
    · by_cases e : w_gs m n (2 ^ a) (k + 1) = w_gs m n (2 ^ a) k
      · exact Or.inl ⟨k, by omega, e⟩
      · right
        have hmo := cnt_mono (f := fun j => (w_gs m n (2 ^ a) k).testBit j) (g := fun j => (w_gs m n (2 ^ a) (k + 1)).testBit j) (fun j hj => gs_up m n _ k j hj) 6
        have h64 : 2 ^ a < 64 := by have := Nat.pow_lt_pow_right (a := 2) (by decide) ha; exact this
        have l1 := w_gs_lt (n := n) hm h64 k
        have l2 := w_gs_lt (n := n) hm h64 (k + 1)
        have hne : cnt (fun j => (w_gs m n (2 ^ a) k).testBit j) 6 ≠ cnt (fun j => (w_gs m n (2 ^ a) (k + 1)).testBit j) 6 := fun z => e (by
          apply Nat.eq_of_testBit_eq
          intro j
          by_cases hj : j < 6
          · exact (hmo.2 z j hj).symm
          · have p6 : 64 ≤ 2 ^ j := Nat.pow_le_pow_right (n := 2) (i := 6) (by decide) (by omega)
            rw [Nat.testBit_lt_two_pow (Nat.lt_of_lt_of_le l1 p6), Nat.testBit_lt_two_pow (Nat.lt_of_lt_of_le l2 p6)])
        have := hmo.1
        omega
theorem gs_6 {m : Nat → Nat} {n a : Nat} (hm : ∀ i, m i < 64) (ha : a < 6) : w_gs m n (2 ^ a) 6 = w_gs m n (2 ^ a) 5 := by
  have h64 : 2 ^ a < 64 := by have := Nat.pow_lt_pow_right (a := 2) (by decide) ha; exact this
  rcases gs_cnt (n := n) hm ha 5 (by decide) with ⟨q, h1, h2⟩ | h
  · have e5 := gs_stay h2 (5 - q)
    have e6 := gs_stay h2 (6 - q)
    rw [show q + (5 - q) = 5 by omega] at e5
    rw [show q + (6 - q) = 6 by omega] at e6
    rw [e5, e6]
  · have hmo := cnt_mono (f := fun j => (w_gs m n (2 ^ a) 5).testBit j) (g := fun _ => true) (fun _ _ => rfl) 6
    have all6 : cnt (fun _ => true) 6 = 6 := rfl
    have full := hmo.2 (by have := hmo.1; omega)
    have l1 := w_gs_lt (n := n) hm h64 5
    have l2 := w_gs_lt (n := n) hm h64 6
    apply Nat.eq_of_testBit_eq
    intro j
    by_cases hj : j < 6
    · have f5 := full j hj
      rw [gs_up m n _ 5 j f5, f5]
    · have p6 : 64 ≤ 2 ^ j := Nat.pow_le_pow_right (n := 2) (i := 6) (by decide) (by omega)
      rw [Nat.testBit_lt_two_pow (Nat.lt_of_lt_of_le l1 p6), Nat.testBit_lt_two_pow (Nat.lt_of_lt_of_le l2 p6)]
theorem fr_6 {m : Nat → Nat} {n a c : Nat} (hm : ∀ i, m i < 64) (ha : a < 6) : w_ff (w_fr m n (2 ^ a) c) 7 = w_ff (w_fr m n (2 ^ a) c) 6 := by
  rcases h : w_ff (w_fr m n (2 ^ a) c) 6 with - | x
  · have h5 : w_fr m n (2 ^ a) c 5 = none := by
      cases e : w_fr m n (2 ^ a) c 5 with
      | none => rfl
      | some y =>
        cases h5 : w_ff (w_fr m n (2 ^ a) c) 5 with
        | none => have := w_ff_s h5 e (show 5 < 6 by decide); rw [h] at this; cases this
        | some z =>
          have : w_ff (w_fr m n (2 ^ a) c) 6 = some z := by
            show (match w_ff (w_fr m n (2 ^ a) c) 5 with | some x => some x | none => w_fr m n (2 ^ a) c 5) = some z
            rw [h5]
          rw [h] at this; cases this
    refine w_ff_n h ?_
    unfold w_fr at h5 ⊢
    rw [gs_6 hm ha]
    split at h5
    · cases h5
    · rename_i z; rw [if_neg z]
  · show (match w_ff (w_fr m n (2 ^ a) c) 6 with | some x => some x | none => w_fr m n (2 ^ a) c 6) = some x
    rw [h]
