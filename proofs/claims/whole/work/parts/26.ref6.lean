/-! THE REFERENCE: a change tried, and put back -/
def b_flip (b : BS) (a c : Nat) : BS := (b_n b, b_y b, b_k b, b_v b, (fun i => if i = a then b_m b a ^^^ 2 ^ c else if i = c then b_m b c ^^^ 2 ^ a else b_m b i), b_r b)
theorem VB_flip {b : BS} (h : VB b) {a c : Nat} (ha : a < b_n b) (hc : c < b_n b) (hac : a ≠ c) : VB (b_flip b a c) := by
  obtain ⟨h1, h2, h3, h4, h5, h6, h7, h8, h9⟩ := h
  have hb : ∀ i j, (b_m (b_flip b a c) i).testBit j = ((b_m b i).testBit j ^^ (decide (i = a ∧ j = c) || decide (i = c ∧ j = a))) := by
    intro i j
    show (if i = a then b_m b a ^^^ 2 ^ c else if i = c then b_m b c ^^^ 2 ^ a else b_m b i).testBit j = _
    by_cases e1 : i = a
    · subst e1
      simp only [if_true, Nat.testBit_xor, Nat.testBit_two_pow]
      have : ¬ i = c := hac
      simp [this, eq_comm]
    · by_cases e2 : i = c
      · subst e2
        simp only [e1, if_false, if_true, Nat.testBit_xor, Nat.testBit_two_pow]
        simp [e1, eq_comm]
      · simp [e1, e2]
  refine ⟨h1, h2, h3, h4, fun i => ?_, h6, fun i j => ?_, fun i => ?_, fun i j hj => ?_⟩
  · apply Nat.lt_of_not_le
    intro hlt
    obtain ⟨j, hj1, hj2⟩ : ∃ j, 6 ≤ j ∧ (b_m (b_flip b a c) i).testBit j = true := Nat.exists_ge_and_testBit_of_ge_two_pow (n := 6) hlt
    rw [hb, h9 i j (by omega)] at hj2
    have : ¬ (i = a ∧ j = c) := fun z => by omega
    have : ¬ (i = c ∧ j = a) := fun z => by omega
    simp_all
  · rw [hb, hb, h7 i j]
    congr 1
    rw [Bool.or_comm]
    congr 1 <;> simp [and_comm]
  · rw [hb, h8]
    have : ¬ (i = a ∧ i = c) := fun z => hac (z.1.symm.trans z.2)
    have : ¬ (i = c ∧ i = a) := fun z => hac (z.2.symm.trans z.1)
    simp_all
  · have hj : b_n b ≤ j := hj
    rw [hb, h9 i j hj]
    have : ¬ (i = a ∧ j = c) := fun z => by omega
    have : ¬ (i = c ∧ j = a) := fun z => by omega
    simp_all
theorem b_flip2 (b : BS) {a c : Nat} (hac : a ≠ c) (i : Nat) : b_m (b_flip (b_flip b a c) a c) i = b_m b i := by
  show (if i = a then b_m (b_flip b a c) a ^^^ 2 ^ c else if i = c then b_m (b_flip b a c) c ^^^ 2 ^ a else b_m (b_flip b a c) i) = b_m b i
  have e1 : b_m (b_flip b a c) a = b_m b a ^^^ 2 ^ c := if_pos rfl
  have e2 : b_m (b_flip b a c) c = b_m b c ^^^ 2 ^ a := (if_neg (Ne.symm hac)).trans (if_pos rfl)
  by_cases h1 : i = a
  · subst h1; rw [if_pos rfl, e1, Nat.xor_assoc, Nat.xor_self, Nat.xor_zero]
  · by_cases h2 : i = c
    · subst h2; rw [if_neg h1, if_pos rfl, e2, Nat.xor_assoc, Nat.xor_self, Nat.xor_zero]
    · rw [if_neg h1, if_neg h2]
      exact (if_neg h1).trans (if_neg h2)
def b_fp (b : BS) (k : Nat) : BS := b_flip b (w_l k) (w_g k)
theorem VB_fp {b : BS} (h : VB b) {k : Nat} (hk : k < w_pr (b_n b)) : VB (b_fp b k) := by
  have h1 := w_g_n (b_n b) (by have := h.1; omega) k hk
  have h15 := w_pr_lt (b_n b) (by have := h.1; omega)
  have h2 := w_g_in k (by omega)
  exact VB_flip h (by omega) h1 (by omega)
/-- the masks are those of b, all else is as it was -/
def mK (I I' : Nat → Nat → Int32) (b : BS) : Prop := (∀ x z, x ≠ 58 → I' x z = I x z) ∧ (∀ i, i < 7 → I' 58 i = nI (b_m b i)) ∧ ∀ i, 7 ≤ i → I' 58 i = I 58 i
theorem MB_K {I I' : Nat → Nat → Int32} {b b' : BS} (h : MB I b) (m : mK I I' b') (e : b_n b' = b_n b ∧ b_y b' = b_y b ∧ b_k b' = b_k b ∧ b_v b' = b_v b ∧ b_r b' = b_r b) : MB I' b' := by
  obtain ⟨e1, e2, e3, e4, e5⟩ := e
  refine ⟨?_, ?_, fun i hi => ?_, fun i hi => ?_, m.2.1, fun j hj => ?_⟩
  · rw [e1, m.1 _ _ (by decide)]; exact h.1
  · rw [e2, m.1 _ _ (by decide)]; exact h.2.1
  · rw [e3, m.1 _ _ (by decide)]; exact h.2.2.1 i hi
  · rw [e4, m.1 _ _ (by decide)]; exact h.2.2.2.1 i hi
  · rw [e5, m.1 _ _ (by decide)]; exact h.2.2.2.2.2 j hj
theorem MW_K {I I' : Nat → Nat → Int32} {b b' : BS} {g : Nat} {p : List (Nat × Nat × List Nat)} (h : MW I b g p) (m : mK I I' b') (e : b_n b' = b_n b ∧ b_y b' = b_y b ∧ b_k b' = b_k b ∧ b_v b' = b_v b ∧ b_r b' = b_r b) (hv : VB b') : MW I' b' g p := by
  refine ⟨⟨MB_K h.1.1 m e, hv, ?_⟩, ?_⟩
  · rcases h.1.2.2 with z | z
    · exact Or.inl ⟨z.1, (m.1 _ _ (by decide)).trans z.2⟩
    · exact Or.inr ⟨z.1, (m.1 _ _ (by decide)).trans z.2⟩
  · rcases h.2 with z | ⟨f, z1, z2⟩
    · exact Or.inl ⟨z.1, (m.1 _ _ (by decide)).trans z.2⟩
    · refine Or.inr ⟨f, (m.1 _ _ (by decide)).trans z1, z2.1, z2.2.1, (m.1 _ _ (by decide)).trans z2.2.2.1, fun c q hq => ?_⟩
      obtain ⟨h1, h2, s, h3, h4, h5, h6⟩ := z2.2.2.2 c q hq
      exact ⟨(m.1 _ _ (by decide)).trans h1, (m.1 _ _ (by decide)).trans h2, s, (m.1 _ _ (by decide)).trans h3, (m.1 _ _ (by decide)).trans h4, h5, fun i k hk => (m.1 _ _ (by decide)).trans (h6 i k hk)⟩
/-- there and back: nothing but scratch has changed -/
theorem mK_back {I I1 I2 I3 : Nat → Nat → Int32} {b b' : BS} (h : ∀ i, i < 7 → I 58 i = nI (b_m b i)) (m1 : mK I I1 b') (j : mJ I1 I2) (m2 : mK I2 I3 b) : mJ I I3 := by
  intro x z n
  by_cases hx : x = 58
  · subst hx
    by_cases hz : z < 7
    · rw [m2.2.1 z hz, h z hz]
    · rw [m2.2.2 z (by omega), j _ _ n, m1.2.2 z (by omega)]
  · rw [m2.1 _ _ hx, j _ _ n, m1.1 _ _ hx]
abbrev rm_X12_turn : Room := { frames := 2, cells := 0, slots := 0, locals := 43 }
set_option maxRecDepth 20000 in
theorem c_X12_turn (G : v_G) (l : Launch) {K : Nat × v_TY} {I : Nat → Nat → Int32} {J : Nat → Nat → Int64} {R : Nat → Nat → Option Nat} (hL : Lay K R) {k : Nat} {b : BS} (h : ∀ i, i < 7 → I 58 i = nI (b_m b i)) (hk : k < 15) : v_M G l yX12_turn cX12_turn 2 none rm_X12_turn [.ref 55, .int (nI k)] (K, I, J, R) (v_Qv G (fun (M' : v_MM) => ∃ I', M' = (K, I', J, R) ∧ mK I I' (b_fp b k))) := by
  refine v_of [some (.ref 55), some (.int (nI k))] (by decide) (Nat.le_of_ble_eq_true rfl) (Nat.le_of_ble_eq_true rfl) rfl ?_
  have hg := w_g_in k hk
  refine v_aload_n (pc := 0) dX12_turn_0 rfl rfl ?_
  refine v_aload_n (pc := 1) dX12_turn_1 rfl rfl ?_
  refine v_iload_n (pc := 2) dX12_turn_2 rfl rfl ?_
  refine v_ci (pc := 3) (v_rV (c_X12_lesserOf G l hL hk) rfl kV_X12_313 (v_rcO (li_55 hL) rfl (by decide)) ⟨Nat.le_of_ble_eq_true rfl, Nat.le_of_ble_eq_true rfl⟩ ⟨Nat.le_of_ble_eq_true rfl, Nat.le_of_ble_eq_true rfl⟩ dX12_turn_3 (Nat.le_of_ble_eq_true rfl)) (fun x3 M3 h3 => ?_)
  obtain ⟨rfl, rfl⟩ := h3
  refine v_aload_n (pc := 6) dX12_turn_6 rfl rfl ?_
  refine v_iload_n (pc := 7) dX12_turn_7 rfl rfl ?_
  refine v_ci (pc := 8) (v_rV (c_X12_greaterOf G l hL hk) rfl kV_X12_205 (v_rcO (li_55 hL) rfl (by decide)) ⟨Nat.le_of_ble_eq_true rfl, Nat.le_of_ble_eq_true rfl⟩ ⟨Nat.le_of_ble_eq_true rfl, Nat.le_of_ble_eq_true rfl⟩ dX12_turn_8 (Nat.le_of_ble_eq_true rfl)) (fun x8 M8 h8 => ?_)
  obtain ⟨rfl, rfl⟩ := h8
  refine v_cv (pc := 11) (v_rV (c_X12_turns G l hL h ⟨by omega, by omega, by omega⟩) rfl kV_X12_221 (v_rcO (li_55 hL) rfl (by decide)) ⟨Nat.le_of_ble_eq_true rfl, Nat.le_of_ble_eq_true rfl⟩ ⟨Nat.le_of_ble_eq_true rfl, Nat.le_of_ble_eq_true rfl⟩ dX12_turn_11 (Nat.le_of_ble_eq_true rfl)) (fun M11 h11 => ?_)
  subst h11
  exact v_vret (pc := 14) dX12_turn_14 rfl (Nat.le_of_ble_eq_true rfl) (Nat.le_of_ble_eq_true rfl) ⟨_, rfl, fun x z n => by rw [v_u_h n, v_u_h n], fun i hi => by
        show _ = nI (if i = w_l k then b_m b (w_l k) ^^^ 2 ^ w_g k else if i = w_g k then b_m b (w_g k) ^^^ 2 ^ w_l k else b_m b i)
        by_cases e1 : i = w_l k
        · subst e1; rw [v_u_k (by omega), v_u_same, if_pos rfl]
        · by_cases e2 : i = w_g k
          · subst e2; rw [v_u_same, if_neg e1, if_pos rfl]
          · rw [v_u_k e2, v_u_k e1, if_neg e1, if_neg e2]; exact h i hi, fun i hi => by rw [v_u_k (by omega), v_u_k (by omega)]⟩
abbrev rm_X12_amissBy : Room := { frames := 7, cells := 0, slots := 0, locals := 168 }
set_option maxRecDepth 20000 in
theorem c_X12_amissBy (G : v_G) (l : Launch) {K : Nat × v_TY} {I : Nat → Nat → Int32} {J : Nat → Nat → Int64} {R : Nat → Nat → Option Nat} (hL : Lay K R) {k : Nat} {b : BS} {g : Nat} {p : List (Nat × Nat × List Nat)} (h : MW I b g p) (hk : k < w_pr (b_n b)) : v_M G l yX12_amissBy cX12_amissBy 3 (some .int) rm_X12_amissBy [.ref 55, .int (nI k)] (K, I, J, R) (v_Qi G (fun (x : Int32) (M' : v_MM) => x = nI (w_many (vw (b_fp b k) g p)) ∧ ∃ I', M' = (K, I', J, R) ∧ mJ I I')) := by
  refine v_of [some (.ref 55), some (.int (nI k)), none] (by decide) (Nat.le_of_ble_eq_true rfl) (Nat.le_of_ble_eq_true rfl) rfl ?_
  have h15 := w_pr_lt (b_n b) (by have := VBn h.1; omega)
  have hg := w_g_in k (by omega)
  refine v_aload_n (pc := 0) dX12_amissBy_0 rfl rfl ?_
  refine v_iload_n (pc := 1) dX12_amissBy_1 rfl rfl ?_
  refine v_cv (pc := 2) (v_rV (c_X12_turn G l hL (b := b) (k := k) (fun i hi => MVm h.1 hi) (by omega)) rfl kV_X12_322 (v_rcO (li_55 hL) rfl (by decide)) ⟨Nat.le_of_ble_eq_true rfl, Nat.le_of_ble_eq_true rfl⟩ ⟨Nat.le_of_ble_eq_true rfl, Nat.le_of_ble_eq_true rfl⟩ dX12_amissBy_2 (Nat.le_of_ble_eq_true rfl)) (fun M2 h2 => ?_)
  obtain ⟨I1, rfl, m1⟩ := h2
  have hw1 : MW I1 (b_fp b k) g p := MW_K h m1 ⟨rfl, rfl, rfl, rfl, rfl⟩ (VB_fp h.1.2.1 hk)
  refine v_aload_n (pc := 5) dX12_amissBy_5 rfl rfl ?_
  refine v_ci (pc := 6) (v_rV (c_X12_layAmiss G l hL hw1) rfl kV_X12_307 (v_rcO (li_55 hL) rfl (by decide)) ⟨Nat.le_of_ble_eq_true rfl, Nat.le_of_ble_eq_true rfl⟩ ⟨Nat.le_of_ble_eq_true rfl, Nat.le_of_ble_eq_true rfl⟩ dX12_amissBy_6 (Nat.le_of_ble_eq_true rfl)) (fun x6 M6 h6 => ?_)
  obtain ⟨rfl, I2, rfl, m6⟩ := h6
  refine v_istore_n (pc := 9) dX12_amissBy_9 rfl (by decide) rfl ?_
  refine v_aload_n (pc := 10) dX12_amissBy_10 rfl rfl ?_
  refine v_iload_n (pc := 11) dX12_amissBy_11 rfl rfl ?_
  refine v_cv (pc := 12) (v_rV (c_X12_turn G l hL (b := b_fp b k) (k := k) (fun i hi => MVm (MW_J hw1 m6.1).1 hi) (by omega)) rfl kV_X12_322 (v_rcO (li_55 hL) rfl (by decide)) ⟨Nat.le_of_ble_eq_true rfl, Nat.le_of_ble_eq_true rfl⟩ ⟨Nat.le_of_ble_eq_true rfl, Nat.le_of_ble_eq_true rfl⟩ dX12_amissBy_12 (Nat.le_of_ble_eq_true rfl)) (fun M12 h12 => ?_)
  obtain ⟨I3, rfl, m3⟩ := h12
  refine v_iload_n (pc := 15) dX12_amissBy_15 rfl rfl ?_
  exact v_iret (pc := 16) dX12_amissBy_16 rfl rfl (Nat.le_of_ble_eq_true rfl) (Nat.le_of_ble_eq_true rfl) ⟨rfl, I3, rfl, mK_back (b := b) (fun i hi => MVm h.1 hi) m1 m6.1 ⟨m3.1, fun i hi => (m3.2.1 i hi).trans (by rw [b_fp, b_fp, b_flip2 b (by omega)]), m3.2.2⟩⟩
