/-! THE CLASS: two views that say the same -/
def VEQ (v v' : VW) : Prop := w_n v = w_n v' ∧ w_n v ≤ 6 ∧ (∀ j, j < w_n v → w_h v j = w_h v' j) ∧ (∀ i j, i < 7 → j < 7 → w_a v i j = w_a v' i j) ∧ w_k v = w_k v' ∧ w_v v = w_v v' ∧ w_r v = w_r v' ∧ w_y v = w_y v' ∧ w_p v = w_p v'
section VEQS
variable {v v' : VW} (e : VEQ v v')
theorem ve_deg (e : VEQ v v') {i : Nat} (hi : i < 7) : w_deg v i = w_deg v' i := cnt_c (fun j hj => e.2.2.2.1 i j hi hj)
theorem ve_all (e : VEQ v v') {i : Nat} (hi : i < 7) : w_all v i = w_all v' i := by
  unfold w_all
  rw [← e.1]
  exact al_c (fun o ho => by rw [e.2.2.1 o ho, e.2.2.2.1 i o hi (by have := e.2.1; omega)])
theorem ve_worth (e : VEQ v v') {i : Nat} (hi : i < 7) (fr : Bool) : w_worth v i fr = w_worth v' i fr := by
  unfold w_worth
  rw [← e.2.2.2.2.1, ← e.2.2.2.2.2.1, ← e.2.2.2.2.2.2.1, ← e.2.2.2.2.2.2.2.1, ve_all e hi, ve_deg e hi]
theorem ve_com (e : VEQ v v') {a c : Nat} (ha : a < 7) (hc : c < 7) : w_com v a c = w_com v' a c := by
  unfold w_com
  rw [← e.1]
  refine sm_c (fun i hi => ?_)
  have h6 := e.2.1
  rw [e.2.2.2.1 i a (by omega) ha, e.2.2.2.1 i c (by omega) hc, e.2.2.2.1 a c ha hc, ve_worth e (by omega)]
theorem ve_fact (e : VEQ v v') {a c : Nat} (ha : a < 7) (hc : c < 7) : w_fact v a c = w_fact v' a c := by
  funext f
  unfold w_fact
  rw [e.2.2.2.1 a c ha hc, ve_deg e ha, ve_deg e hc, e.2.2.2.2.2.2.2.1]
theorem ve_sum (e : VEQ v v') {a c : Nat} (w : Nat) (ha : a < 7) (hc : c < 7) : w_sum v w a c = w_sum v' w a c := by
  unfold w_sum
  rw [ve_fact e ha hc, e.2.2.2.2.2.2.2.2]
theorem ve_price (e : VEQ v v') {a c : Nat} (ha : a < 7) (hc : c < 7) : w_price v a c = w_price v' a c := by
  unfold w_price
  rw [e.2.2.2.1 a c ha hc, ve_sum e _ ha hc]
theorem ve_off (e : VEQ v v') {a c : Nat} (ha : a < 7) (hc : c < 7) : w_off v a c = w_off v' a c := by
  unfold w_off
  rw [ve_com e ha hc, ve_sum e 0 ha hc]
theorem ve_lg {n k : Nat} (hn : n ≤ 6) (hk : k < w_pr n) : w_l k < n ∧ w_g k < n := by
  have h15 := w_pr_lt n (by omega)
  have hg := w_g_in k (by omega)
  have := w_g_n n (by omega) k hk
  omega
theorem ve_amp (e : VEQ v v') {k : Nat} (hk : k < w_pr (w_n v)) : w_amp v k = w_amp v' k := by
  have h6 := e.2.1
  obtain ⟨h1, h2⟩ := ve_lg h6 hk
  unfold w_amp w_am
  rw [e.2.2.1 _ h1, e.2.2.1 _ h2, ve_off e (by omega) (by omega)]
theorem ve_many (e : VEQ v v') : w_many v = w_many v' := by
  unfold w_many
  rw [← e.1]
  exact cnt_c (fun k hk => ve_amp e hk)
theorem ve_set (e : VEQ v v') : ∀ k, k ≤ w_pr (w_n v) → w_set v k = w_set v' k
  | 0, _ => rfl
  | k + 1, hk => by
    unfold w_set
    rw [ve_amp e hk, ve_set e k (by omega)]
theorem ve_os (e : VEQ v v') : w_os v (w_pr (w_n v)) = w_os v' (w_pr (w_n v)) := by
  unfold w_os
  refine sm_c (fun k hk => ?_)
  have h6 := e.2.1
  obtain ⟨h1, h2⟩ := ve_lg h6 hk
  rw [ve_amp e hk, ve_off e (by omega) (by omega)]
theorem ve_cp (e : VEQ v v') (i : Nat) : w_cp v (w_pr (w_n v)) i = w_cp v' (w_pr (w_n v)) i := by
  unfold w_cp
  exact cnt_c (fun k hk => by rw [ve_amp e hk])
theorem ve_told (e : VEQ v v') (c : Nat → Nat) : w_told v c (w_n v) = w_told v' c (w_n v) := by
  unfold w_told
  exact al_c (fun i _ => by rw [ve_cp e])
end VEQS
def HF (b : BS) (hm : Nat) : Prop := hm < 64 ∧ ∀ j, hm.testBit j = decide (j < b_n b)
theorem HF_HM {b : BS} {hm : Nat} (h : HF b hm) : HM b hm := ⟨h.1, fun j hj => by rw [h.2] at hj; exact of_decide_eq_true hj⟩
theorem ve_now {b : BS} {hm : Nat} {p : CLS} (hB : VB b) (h : HF b hm) : VEQ (c_vw b hm p) (vw b 9 p) := by
  refine ⟨rfl, hB.1, fun j hj => ?_, fun i j hi hj => ?_, rfl, rfl, rfl, rfl, rfl⟩
  · have hn := hB.1
    have hj' : j < b_n b := hj
    show hm.testBit j = decide (j ≠ 9)
    rw [h.2, decide_eq_true hj', decide_eq_true (by omega)]
  · show (b_m b i).testBit j = ((b_m b i).testBit j && decide (i ≠ 9) && decide (j ≠ 9))
    rw [decide_eq_true (by omega), decide_eq_true (by omega), Bool.and_true, Bool.and_true]
/-- all but the one of number g -/
def b_lv (b : BS) (g : Nat) : BS := (b_n b, b_y b, b_k b, b_v b, (fun j => if j = g then 0 else b_m b j &&& (127 - 2 ^ g)), b_r b)
theorem b_lv_b {b : BS} (hB : VB b) {g : Nat} (hg : g < 6) (i j : Nat) : (b_m (b_lv b g) i).testBit j = ((b_m b i).testBit j && decide (i ≠ g) && decide (j ≠ g)) := by
  show (if i = g then 0 else b_m b i &&& (127 - 2 ^ g)).testBit j = _
  by_cases e : i = g
  · rw [if_pos e, decide_eq_false (fun z => z e)]; simp
  · rw [if_neg e, Nat.testBit_and, decide_eq_true e, Bool.and_true]
    by_cases hj : j < 7
    · rw [w_cm g (by omega) j hj]
    · have : (b_m b i).testBit j = false := hB.2.2.2.2.2.2.2.2 i j (by have := hB.1; omega)
      rw [this, Bool.false_and, Bool.false_and]
theorem VB_lv {b : BS} (hB : VB b) {g : Nat} (hg : g < 6) : VB (b_lv b g) := by
  have hb := b_lv_b hB hg
  obtain ⟨h1, h2, h3, h4, h5, h6, h7, h8, h9⟩ := hB
  refine ⟨h1, h2, h3, h4, fun i => ?_, h6, fun i j => ?_, fun i => ?_, fun i j hj => ?_⟩
  · show (if i = g then 0 else b_m b i &&& (127 - 2 ^ g)) < 64
    split
    · decide
    · exact Nat.lt_of_le_of_lt Nat.and_le_left (h5 i)
  · rw [hb, hb, h7 i j, Bool.and_assoc, Bool.and_assoc, Bool.and_comm (decide (i ≠ g))]
  · rw [hb, h8]; rfl
  · rw [hb, h9 i j hj]; rfl
theorem ve_lv {b : BS} {hm g : Nat} {p : CLS} (hB : VB b) (h : HF b hm) (hg : g < b_n b) : VEQ (c_vw (b_lv b g) (hm &&& (127 - 2 ^ g)) p) (vw b g p) := by
  have hn := hB.1
  refine ⟨rfl, hn, fun j hj => ?_, fun i j hi hj => ?_, rfl, rfl, rfl, rfl, rfl⟩
  · have hj' : j < b_n b := hj
    show (hm &&& (127 - 2 ^ g)).testBit j = decide (j ≠ g)
    rw [Nat.testBit_and, h.2, decide_eq_true hj', w_cm g (by omega) j (by omega), Bool.true_and]
  · exact b_lv_b hB (by omega) i j
