/-! THE CLASS: one who comes, befriends -/
def UPK (K K' : Nat × v_TY) : Prop := K.1 ≤ K'.1 ∧ ∀ a k n, v_is K a k n → v_is K' a k n
theorem UPK_rf {K : Nat × v_TY} : UPK K K := ⟨Nat.le_refl _, fun _ _ _ h => h⟩
theorem UPK_k {K : Nat × v_TY} {k n : Nat} : UPK K (v_k K k n) := ⟨Nat.le_succ _, fun _ _ _ h => v_is_old h⟩
theorem TH_lt {K : Nat × v_TY} {R : Nat → Nat → Option Nat} {t : Nat} (h : TH K R t) : t + 5 < K.1 := h.2.1.2.2.2.2.1
theorem CV_up {K K' : Nat × v_TY} {I I' : Nat → Nat → Int32} {R R' : Nat → Nat → Option Nat} {h hm : Nat} {b : BS} {p : CLS} (hv : CV K I R h b hm p) (hh : v_3 h) (hK : 91 ≤ K.1) (u : UPK K K') (e1 : ∀ a z, a < K.1 → I' a z = I a z) (e2 : ∀ a z, a < K.1 → R' a z = R a z) : CV K' I' R' h b hm p := by
  have hl : h + 9 < K.1 := by rcases hh with rfl | rfl | rfl <;> omega
  refine ⟨⟨(e1 _ _ (by omega)).trans hv.1.1, (e1 _ _ (by omega)).trans hv.1.2.1, (e1 _ _ (by omega)).trans hv.1.2.2.1, fun i hi => (e1 _ _ (by omega)).trans (hv.1.2.2.2.1 i hi), fun j hj => (e1 _ _ (by omega)).trans (hv.1.2.2.2.2 j hj)⟩, hv.2.1, hv.2.2.1, fun i hi => ?_, ?_⟩
  · obtain ⟨a, g1, g2⟩ := hv.2.2.2.1 i hi
    have ha : a < K.1 := g2.2.1.1
    exact ⟨a, (e2 _ _ (by omega)).trans g1, g2.1, u.2 _ _ _ g2.2.1, (e1 a _ ha).trans g2.2.2.1, (e1 a _ ha).trans g2.2.2.2.1, (e1 a _ ha).trans g2.2.2.2.2⟩
  · rw [e2 _ _ (by omega)]
    refine hv.2.2.2.2.elim Or.inl (fun ⟨t, h1, h2, h3⟩ => Or.inr ⟨t, h1, ?_, ?_⟩)
    · have hlt := TH_lt h2
      have hR := TH_R h2 (R' := R') (fun z => e2 t z (by omega))
      exact ⟨u.2 _ _ _ hR.1, ⟨u.2 _ _ _ hR.2.1.1, u.2 _ _ _ hR.2.1.2.1, u.2 _ _ _ hR.2.1.2.2.1, u.2 _ _ _ hR.2.1.2.2.2.1, u.2 _ _ _ hR.2.1.2.2.2.2⟩, hR.2.2⟩
    · have hlt := TH_lt h2
      exact TC_o h3 (fun a z l1 l2 => e1 a z (by omega))
theorem Lay_up {K K' : Nat × v_TY} {R R' : Nat → Nat → Option Nat} (hL : Lay K R) (u : UPK K K') (e2 : ∀ a z, a < 91 → R' a z = R a z) : Lay K' R' := by
  have h1 : ∀ q ∈ v_layR, q.1 < 91 := by decide
  exact ⟨fun q hq => u.2 _ _ _ (hL.1 q hq), fun q hq => (e2 _ _ (h1 q hq)).trans (hL.2 q hq)⟩
def w_cj (I : Nat → Nat → Int32) (h n hm : Nat) : Nat → Nat → Int32 := v_u (v_u (fun a z => if a = h + 3 ∧ n * 4 ≤ z ∧ z < n * 4 + 4 then nI 0 else v_u (v_u I (h + 2) n (nI 0)) (h + 4) n (nI 0) a z) h 1 (nI (hm ||| 2 ^ n))) h 0 (nI (n + 1))
theorem HF_jn {b : BS} {hm k v q : Nat} (h : HF b hm) (hn : b_n b < 6) : HF (b_jn b k v q) (hm ||| 2 ^ b_n b) := by
  refine ⟨Nat.or_lt_two_pow (n := 6) h.1 (Nat.pow_lt_pow_right (by decide) hn), fun j => ?_⟩
  rw [Nat.testBit_or, h.2, Nat.testBit_two_pow]
  show (decide (j < b_n b) || decide (b_n b = j)) = decide (j < b_n b + 1)
  by_cases e : j < b_n b
  · rw [decide_eq_true e, decide_eq_true (show j < b_n b + 1 by omega)]; rfl
  · by_cases e2 : b_n b = j
    · rw [decide_eq_true e2, decide_eq_true (show j < b_n b + 1 by omega), Bool.or_true]
    · rw [decide_eq_false e, decide_eq_false e2, decide_eq_false (show ¬ j < b_n b + 1 by omega)]; rfl
theorem CV_join {K : Nat × v_TY} {I : Nat → Nat → Int32} {R : Nat → Nat → Option Nat} {h hm k v a : Nat} {b : BS} {p : CLS} (hv : CV K I R h b hm p) (hh : v_3 h) (hf : HF b hm) (hn : b_n b < 6) (hk : k ≤ 6) (hvv : v ≤ 9) (hz : ∀ j, 4 * b_n b ≤ j → b_r b j = 0) (ha : PS K I a (p_ci k) (b_n b) k v) : CV K (w_cj I h (b_n b) hm) (v_u R (h + 1) (b_n b) (some a)) h (b_jn b k v 0) (hm ||| 2 ^ b_n b) p := by
  have hl : h ≤ 21 := by rcases hh with rfl | rfl | rfl <;> omega
  have hB := hv.2.1
  have far : ∀ a z, a < h ∨ h + 4 < a → w_cj I h (b_n b) hm a z = I a z := fun a z c => by
    unfold w_cj
    rw [v_u_h (by omega), v_u_h (by omega), if_neg (by omega), v_u_h (by omega), v_u_h (by omega)]
  have hf2 := HF_jn (k := k) (v := v) (q := 0) hf hn
  refine ⟨⟨v_u_same, (v_u_k (by decide)).trans v_u_same, ?_, fun i hi => ?_, fun j hj => ?_⟩, VB_jn hB hn hk hvv (Nat.two_pow_pos _), HF_HM hf2, fun i hi => ?_, ?_⟩
  · unfold w_cj
    rw [v_u_k (by decide), v_u_k (by decide), if_neg (by omega), v_u_h (by omega), v_u_h (by omega)]
    exact hv.1.2.2.1
  · unfold w_cj
    rw [v_u_h (by omega), v_u_h (by omega), if_neg (by omega), v_u_h (by omega)]
    by_cases e : i = b_n b
    · subst e
      rw [v_u_same]
      exact congrArg nI (if_pos rfl).symm
    · rw [v_u_k e, hv.1.2.2.2.1 i hi, b_jn_0 e]
  · unfold w_cj
    rw [v_u_h (by omega), v_u_h (by omega)]
    show _ = nI (b_r b j)
    by_cases e : b_n b * 4 ≤ j ∧ j < b_n b * 4 + 4
    · rw [if_pos ⟨rfl, e⟩, hz j (by omega)]
    · rw [if_neg (fun z => e z.2), v_u_h (by omega), v_u_h (by omega)]
      exact hv.1.2.2.2.2 j hj
  · show ∃ c, v_u R (h + 1) (b_n b) (some a) (h + 1) i = some c ∧ PS K _ c (p_ci (if i = b_n b then k else b_k b i)) i (if i = b_n b then k else b_k b i) (if i = b_n b then v else b_v b i)
    by_cases e : i = b_n b
    · subst e
      rw [if_pos rfl, if_pos rfl]
      exact ⟨a, v_u_same, PS_o ha (fun z => far a z (by have := ha.1; omega))⟩
    · rw [if_neg e, if_neg e, v_u_k e]
      have hi2 : i < b_n b + 1 := hi
      obtain ⟨c, g1, g2⟩ := hv.2.2.2.1 i (by omega)
      exact ⟨c, g1, PS_o g2 (fun z => far c z (by have := g2.1; omega))⟩
  · rw [v_u_h (by omega)]
    exact TN_o hv.2.2.2.2 (fun a z l1 _ => far a z (by omega)) (fun a z l => v_u_h (by omega))
theorem PS_np {K : Nat × v_TY} {I : Nat → Nat → Int32} {k i w : Nat} (hK : 91 ≤ K.1) : PS (v_k K (p_ci k) 0) (w_p3 (v_z I K.1 0) K.1 k i w) K.1 (p_ci k) i k w := ⟨hK, v_is_new, by simp [w_p3, v_u], by simp [w_p3, v_u], by simp [w_p3, v_u]⟩
theorem p3_o {I : Nat → Nat → Int32} {a k i w c z : Nat} (h : c ≠ a) : w_p3 (v_z I a 0) a k i w c z = I c z := by
  unfold w_p3
  rw [v_u_h h, v_u_h h, v_u_h h, v_z_h h]
/-- who comes, tied or not -/
theorem jn_tie {b : BS} (hB : VB b) {k v q i : Nat} {ar : Bool} (hn : b_n b < 6) (hq : q < 2 ^ b_n b) (hi : i < b_n b) (hk : k ≤ 6) (hv : v ≤ 9) : s_tie ar q i < 2 ^ b_n b ∧ (∀ j, j < 6 → (s_tie ar q i).testBit j = if j = i then ar else q.testBit j) ∧ s_tie ar (b_m (b_jn b k v q) (b_n b)) i = b_m (b_jn b k v (s_tie ar q i)) (b_n b) ∧ s_tie ar (b_m (b_jn b k v q) i) (b_n b) = b_m (b_jn b k v (s_tie ar q i)) i ∧ ∀ j, j ≠ i → j ≠ b_n b → b_m (b_jn b k v q) j = b_m (b_jn b k v (s_tie ar q i)) j := by
  have h64 : q < 64 := Nat.lt_of_lt_of_le hq (Nat.pow_le_pow_right (n := 2) (i := b_n b) (j := 6) (by decide) (by omega))
  have hb := s_tie_b q h64 i (by omega) ar
  have hlt := s_tie_lt q h64 i (by omega) ar
  have hqn : ∀ a, b_n b ≤ a → q.testBit a = false := fun a ha => Nat.testBit_lt_two_pow (Nat.lt_of_lt_of_le hq (Nat.pow_le_pow_right (by decide) ha))
  have hhi : ∀ (m a : Nat), m < 64 → 6 ≤ a → m.testBit a = false := fun m a hm ha => Nat.testBit_lt_two_pow (Nat.lt_of_lt_of_le hm (Nat.pow_le_pow_right (n := 2) (i := 6) (by decide) ha))
  have hq' : s_tie ar q i < 2 ^ b_n b := Nat.lt_of_not_le (fun hle => by
    obtain ⟨j, hj1, hj2⟩ := Nat.exists_ge_and_testBit_of_ge_two_pow (n := b_n b) hle
    by_cases h7 : j < 7
    · rw [hb j h7, if_neg (by omega), hqn j hj1] at hj2; cases hj2
    · rw [hhi _ j hlt (by omega)] at hj2; cases hj2)
  have g1 := b_jn_b hB (k := k) (v := v) hq
  have g2 := b_jn_b hB (k := k) (v := v) hq'
  have l1 := (VB_jn hB hn hk hv hq).2.2.2.2.1
  have l2 := (VB_jn hB hn hk hv hq').2.2.2.2.1
  refine ⟨hq', fun j hj => hb j (by omega), ?_, ?_, fun j n1 n2 => ?_⟩
  · show s_tie ar (if b_n b = b_n b then q else _) i = (if b_n b = b_n b then s_tie ar q i else _)
    rw [if_pos rfl, if_pos rfl]
  · have t1 := s_tie_b _ (l1 i) (b_n b) hn ar
    have t2 := s_tie_lt _ (l1 i) (b_n b) hn ar
    apply Nat.eq_of_testBit_eq
    intro j
    by_cases h7 : j < 7
    · rw [t1 j h7, g1, g2, hb i (by omega), if_pos rfl]
      by_cases e : j = b_n b
      · subst e
        rw [if_pos rfl, hB.2.2.2.2.2.2.2.2 i _ (Nat.le_refl _), decide_eq_false (show ¬ i = b_n b by omega), decide_eq_true rfl]
        simp
      · rw [if_neg e, decide_eq_false e, decide_eq_false (show ¬ i = b_n b by omega)]; simp
    · rw [hhi _ j t2 (by omega), hhi _ j (l2 i) (by omega)]
  · apply Nat.eq_of_testBit_eq
    intro z
    rw [g1, g2, decide_eq_false n2]
    by_cases e : z = b_n b
    · rw [decide_eq_true e]
      by_cases h7 : j < 7
      · rw [hb j h7, if_neg n1]; simp
      · rw [hhi _ j hlt (by omega), hqn j (by omega)]; simp
    · rw [decide_eq_false e]; simp
