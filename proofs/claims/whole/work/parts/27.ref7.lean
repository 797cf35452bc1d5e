/-! ANSWERS that change nothing: by the view -/
/-- the number that an int is below n, if it is one -/
def x_nat (p : Int32) (n : Nat) : Option Nat := if p < 0 ∨ n ≤ p.toNatClampNeg then none else some p.toNatClampNeg
theorem x_nat_s {j n : Nat} (hj : j < n) (hn : n < 2 ^ 31) : x_nat (nI j) n = some j := by
  have h1 : (nI j).toInt = (j : Int) := nI_toInt (by omega)
  have h2 : (nI j).toNatClampNeg = j := by rw [Int32.toNatClampNeg, h1]; rfl
  have h3 : ¬ nI j < 0 := by rw [Int32.lt_iff_toInt_lt, h1]; exact Int.not_lt.mpr (Int.natCast_nonneg j)
  rw [x_nat, h2, if_neg (by intro z; rcases z with z | z; exact h3 z; omega)]
theorem x_nat_n {p : Int32} {n : Nat} (h : ¬ vp_in p n) : x_nat p n = none := if_pos (Classical.not_not.mp h)
theorem x_nat_i {p : Int32} {n : Nat} (h : vp_in p n) (hn : n < 2 ^ 31) : ∃ j : Nat, j < n ∧ p = nI j ∧ x_nat p n = some j := by
  obtain ⟨j, hj, rfl⟩ := v_in_of h hn
  exact ⟨j, hj, rfl, x_nat_s hj hn⟩
theorem x_nat_o {p : Int32} {n : Nat} (h : ¬ vp_in p n) : p.toInt < 0 ∨ (n : Int) ≤ p.toInt := by
  have := mt vp_in_iff.mpr h
  omega
theorem x_sw (n : Nat) (hn : n < 2 ^ 31) (p : Int32) : (∃ j : Nat, j < n ∧ p = nI j ∧ x_nat p n = some j) ∨ (x_nat p n = none ∧ (p.toInt < 0 ∨ (n : Int) ≤ p.toInt)) := by
  by_cases h : vp_in p n
  · exact Or.inl (x_nat_i h hn)
  · exact Or.inr ⟨x_nat_n h, x_nat_o h⟩
theorem x_sw2 (p : Int32) : (p = nI 0) ∨ (p = nI 1) ∨ (x_nat p 2 = none ∧ (p.toInt < 0 ∨ 1 < p.toInt)) := by
  rcases x_sw 2 (by decide) p with ⟨j, hj, e1, e2⟩ | ⟨e1, e2⟩
  · rcases (show j = 0 ∨ j = 1 by omega) with rfl | rfl <;> simp [e1]
  · simp only [e1]; simp; omega
theorem x_sw3 (p : Int32) : (p = nI 0) ∨ (p = nI 1) ∨ (p = nI 2) ∨ (x_nat p 3 = none ∧ (p.toInt < 0 ∨ 2 < p.toInt)) := by
  rcases x_sw 3 (by decide) p with ⟨j, hj, e1, e2⟩ | ⟨e1, e2⟩
  · rcases (show j = 0 ∨ j = 1 ∨ j = 2 by omega) with rfl | rfl | rfl <;> simp [e1]
  · simp only [e1]; simp; omega
theorem x_sw4 (p : Int32) : (p = nI 0) ∨ (p = nI 1) ∨ (p = nI 2) ∨ (p = nI 3) ∨ (x_nat p 4 = none ∧ (p.toInt < 0 ∨ 3 < p.toInt)) := by
  rcases x_sw 4 (by decide) p with ⟨j, hj, e1, e2⟩ | ⟨e1, e2⟩
  · rcases (show j = 0 ∨ j = 1 ∨ j = 2 ∨ j = 3 by omega) with rfl | rfl | rfl | rfl <;> simp [e1]
  · simp only [e1]; simp; omega
theorem x_sw5 (p : Int32) : (p = nI 0) ∨ (p = nI 1) ∨ (p = nI 2) ∨ (p = nI 3) ∨ (p = nI 4) ∨ (x_nat p 5 = none ∧ (p.toInt < 0 ∨ 4 < p.toInt)) := by
  rcases x_sw 5 (by decide) p with ⟨j, hj, e1, e2⟩ | ⟨e1, e2⟩
  · rcases (show j = 0 ∨ j = 1 ∨ j = 2 ∨ j = 3 ∨ j = 4 by omega) with rfl | rfl | rfl | rfl | rfl <;> simp [e1]
  · simp only [e1]; simp; omega
theorem x_sw6 (p : Int32) : (p = nI 0) ∨ (p = nI 1) ∨ (p = nI 2) ∨ (p = nI 3) ∨ (p = nI 4) ∨ (p = nI 5) ∨ (x_nat p 6 = none ∧ (p.toInt < 0 ∨ 5 < p.toInt)) := by
  rcases x_sw 6 (by decide) p with ⟨j, hj, e1, e2⟩ | ⟨e1, e2⟩
  · rcases (show j = 0 ∨ j = 1 ∨ j = 2 ∨ j = 3 ∨ j = 4 ∨ j = 5 by omega) with rfl | rfl | rfl | rfl | rfl | rfl <;> simp [e1]
  · simp only [e1]; simp; omega
theorem x_sw7 (p : Int32) : (p = nI 0) ∨ (p = nI 1) ∨ (p = nI 2) ∨ (p = nI 3) ∨ (p = nI 4) ∨ (p = nI 5) ∨ (p = nI 6) ∨ (x_nat p 7 = none ∧ (p.toInt < 0 ∨ 6 < p.toInt)) := by
  rcases x_sw 7 (by decide) p with ⟨j, hj, e1, e2⟩ | ⟨e1, e2⟩
  · rcases (show j = 0 ∨ j = 1 ∨ j = 2 ∨ j = 3 ∨ j = 4 ∨ j = 5 ∨ j = 6 by omega) with rfl | rfl | rfl | rfl | rfl | rfl | rfl <;> simp [e1]
  · simp only [e1]; simp; omega
theorem x_two {p : Int32} (h : vp_in p 2) : p = nI 0 ∨ p = nI 1 := by
  obtain ⟨j, hj, rfl⟩ := v_in_of h (by decide)
  rcases (show j = 0 ∨ j = 1 by omega) with rfl | rfl <;> simp
def s_pair (n : Nat) (p q : Int32) : Int32 := match x_nat p n, x_nat q n with
  | some a, some c => if a = c then -2 else nI (w_po a c)
  | _, _ => -1
def s_of (b : BS) (c : Nat → Nat) (p : List (Nat × Nat × List Nat)) (i w : Int32) : Int32 := match x_nat i (b_n b), x_nat w 5 with
  | some j, some 0 => nI (b_k b j)
  | some j, some 1 => nI (b_v b j)
  | some j, some 2 => nI (b_m b j)
  | some j, some 3 => nI (w_cp (vw b 9 p) (w_pr (b_n b)) j)
  | some j, some 4 => nI (c j)
  | _, _ => -1
def s_at (b : BS) (p : List (Nat × Nat × List Nat)) (i w : Int32) : Int32 := match x_nat i (w_pr (b_n b)), x_nat w 6 with
  | some k, some 0 => nI (if w_a (vw b 9 p) (w_l k) (w_g k) = true then 1 else 0)
  | some k, some 1 => nI (w_com (vw b 9 p) (w_l k) (w_g k))
  | some k, some 2 => nI (w_sum (vw b 9 p) 0 (w_l k) (w_g k))
  | some k, some 3 => nI (w_price (vw b 9 p) (w_l k) (w_g k))
  | some k, some 4 => nI (w_l k)
  | some k, some 5 => nI (w_g k)
  | _, _ => -1
def w_frs (b : BS) : Nat := sm (fun i => cnt (fun j => (b_m b i).testBit j) 7) (b_n b) / 2
def s_told (b : BS) (w : Int32) : Int32 := match x_nat w 3 with
  | some 0 => nI (b_y b)
  | some 1 => nI (w_pr (b_n b))
  | some 2 => nI (w_frs b)
  | _ => -1
def s_amiss (b : BS) (p : List (Nat × Nat × List Nat)) (w : Int32) : Int32 := match x_nat w 3 with
  | some 0 => nI (w_set (vw b 9 p) (w_pr (b_n b)))
  | some 1 => nI (w_many (vw b 9 p))
  | some 2 => nI (w_os (vw b 9 p) (w_pr (b_n b)))
  | _ => -1
def w_alls (v : VW) : Nat → Nat
  | 0 => 0
  | k + 1 => if w_all v k = true then w_alls v k ||| 2 ^ k else w_alls v k
/-- which of the first k has the fewest, and how many: the first that has fewer than all before -/
def w_fst (m : Nat → Nat) (z : Option Nat × Nat) : Nat → Option Nat × Nat
  | 0 => z
  | k + 1 => if m k < (w_fst m z k).2 then (some k, m k) else w_fst m z k
/-- the fewest is below a bound -/
theorem w_fst_lt (m : Nat → Nat) (z : Option Nat × Nat) (c : Nat) (hz : z.2 < c) : ∀ k, (∀ i, i < k → m i < c) → (w_fst m z k).2 < c
  | 0, _ => hz
  | k + 1, h => by
    show (if m k < (w_fst m z k).2 then (some k, m k) else w_fst m z k).2 < c
    split
    · exact h k (Nat.lt_succ_self k)
    · exact w_fst_lt m z c hz k (fun i hi => h i (Nat.lt_succ_of_lt hi))
theorem w_fst_k (m : Nat → Nat) (z : Option Nat × Nat) (c : Nat) (hz : ∀ k, z.1 = some k → k < c) : ∀ n, n ≤ c → ∀ k, (w_fst m z n).1 = some k → k < c
  | 0, _ => hz
  | n + 1, h => by
    intro k
    show (if m n < (w_fst m z n).2 then (some n, m n) else w_fst m z n).1 = some k → k < c
    split
    · intro e; cases e; omega
    · exact w_fst_k m z c hz n (by omega) k
def w_o (o : Option Nat) : Int32 := match o with
  | some k => nI k
  | none => -5
def s_best (z : Option Nat × Nat) (w : Int32) : Int32 := match x_nat w 2, z.1 with
  | some 0, o => w_o o
  | some 1, some _ => nI z.2
  | some 1, none => -5
  | _, _ => -1
def w_tr (b : BS) (p : List (Nat × Nat × List Nat)) (k : Nat) : Nat := w_many (vw (b_fp b k) 9 p)
def s_first (b : BS) (p : List (Nat × Nat × List Nat)) (w : Int32) : Int32 := s_best (w_fst (w_tr b p) (none, w_many (vw b 9 p)) (w_pr (b_n b))) w
theorem w_many_lt {b : BS} (h : VB b) (g : Nat) (p : List (Nat × Nat × List Nat)) : w_many (vw b g p) ≤ 15 := Nat.le_trans (cnt_le _ _) (w_pr_lt _ (by have := h.1; have e : w_n (vw b g p) = b_n b := rfl; omega))
theorem w_set_lt (v : VW) : ∀ k, w_set v k < 2 ^ k
  | 0 => Nat.zero_lt_one
  | k + 1 => by
    show (if w_amp v k = true then w_set v k ||| 2 ^ k else w_set v k) < _
    have h := w_set_lt v k
    have h2 : (2 : Nat) ^ (k + 1) = 2 ^ k + 2 ^ k := by rw [Nat.pow_succ]; omega
    split
    · exact Nat.or_lt_two_pow (by omega) (by omega)
    · omega
abbrev rm_X12_friendships : Room := { frames := 1, cells := 0, slots := 0, locals := 23 }
set_option maxRecDepth 20000 in
theorem c_X12_friendships (G : v_G) (l : Launch) {K : Nat × v_TY} {I : Nat → Nat → Int32} {J : Nat → Nat → Int64} {R : Nat → Nat → Option Nat} (hL : Lay K R) {b : BS} {p : List (Nat × Nat × List Nat)} (h : MW I b 9 p) : v_M G l yX12_friendships cX12_friendships 3 (some .int) rm_X12_friendships [.ref 55] (K, I, J, R) (v_Qi G (fun (x : Int32) (M' : v_MM) => x = nI (w_frs b) ∧ M' = (K, I, J, R))) := by
  refine v_of [some (.ref 55), none, none] (by decide) (Nat.le_of_ble_eq_true rfl) (Nat.le_of_ble_eq_true rfl) rfl ?_
  refine v_iconst (pc := 0) (v := nI 0) dX12_friendships_0 (by decide) ?_
  refine v_istore_n (pc := 1) dX12_friendships_1 rfl (by decide) rfl ?_
  refine v_iconst (pc := 2) (v := nI 0) dX12_friendships_2 (by decide) ?_
  refine v_istore_n (pc := 3) dX12_friendships_3 rfl (by decide) rfl ?_
  have hn := VBn h.1
  refine v_down (b_n b) (P := fun i => v_V G l yX12_friendships cX12_friendships 3 (some .int) rm_X12_friendships (v_Qi G (fun (x : Int32) (M' : v_MM) => x = nI (w_frs b) ∧ M' = (K, I, J, R))) 0 0 4 [some (.ref 55), some (.int (nI (sm (fun i => cnt (fun j => (b_m b i).testBit j) 7) i))), some (.int (nI i))] [] (K, I, J, R)) (fun i hi ih => ?_) 0 (by omega)
  refine v_iload_n (pc := 4) dX12_friendships_4 rfl rfl ?_
  refine v_aload_n (pc := 5) dX12_friendships_5 rfl rfl ?_
  refine v_getV (pc := 6) fg_X12_7_12 dX12_friendships_6 (li_55 hL) (MVn h.1) ?_
  refine v_icmp_geN (pc := 9) (tgt := 31) ⟨by omega, by omega⟩ dX12_friendships_9 (by decide) (fun c9 => ?_) (fun c9 => ?_)
  · have e : i = b_n b := by omega
    subst e
    refine v_iload_n (pc := 31) dX12_friendships_31 rfl rfl ?_
    refine v_iconst (pc := 32) (v := nI 2) dX12_friendships_32 (by decide) ?_
    refine v_idivN (pc := 33) (by have := sm_le (f := (fun i => cnt (fun j => (b_m b i).testBit j) 7)) (c := 7) (n := b_n b) (fun j _ => cnt_le _ _); omega) (by decide) (by decide) dX12_friendships_33 ?_
    exact v_iret (pc := 34) dX12_friendships_34 rfl rfl (Nat.le_of_ble_eq_true rfl) (Nat.le_of_ble_eq_true rfl) ⟨rfl, rfl⟩
  · refine v_iload_n (pc := 12) dX12_friendships_12 rfl rfl ?_
    refine v_aload_n (pc := 13) dX12_friendships_13 rfl rfl ?_
    refine v_aload_n (pc := 14) dX12_friendships_14 rfl rfl ?_
    refine v_getH (pc := 15) fg_X12_26_12 dX12_friendships_15 (li_55 hL) (lr_55_5 hL) ?_
    refine v_iload_n (pc := 18) dX12_friendships_18 rfl rfl ?_
    refine v_ialoadN (pc := 19) dX12_friendships_19 (li_58 hL) ⟨by omega, by omega⟩ (MVm h.1 (by omega)) ?_
    refine v_ci (pc := 20) (v_rV (c_X12_ones G l hL (Nat.lt_trans (VBm h.1 i) (by decide))) rfl kV_X12_273 (v_rcO (li_55 hL) rfl (by decide)) ⟨Nat.le_of_ble_eq_true rfl, Nat.le_of_ble_eq_true rfl⟩ ⟨Nat.le_of_ble_eq_true rfl, Nat.le_of_ble_eq_true rfl⟩ dX12_friendships_20 (Nat.le_of_ble_eq_true rfl)) (fun x20 M20 h20 => ?_)
    obtain ⟨rfl, rfl⟩ := h20
    refine v_iaddN (pc := 23) dX12_friendships_23 ?_
    refine v_istore_n (pc := 24) dX12_friendships_24 rfl (by decide) rfl ?_
    refine v_iincN (pc := 25) (b := 1) dX12_friendships_25 rfl (by decide) (by decide) rfl ?_
    refine v_goto (pc := 28) (tgt := 4) dX12_friendships_28 (by decide) ?_
    exact ih (i + 1) (by omega) (by omega)
abbrev rm_X12_pair : Room := { frames := 2, cells := 0, slots := 0, locals := 44 }
set_option maxRecDepth 20000 in
theorem c_X12_pair (G : v_G) (l : Launch) {K : Nat × v_TY} {I : Nat → Nat → Int32} {J : Nat → Nat → Int64} {R : Nat → Nat → Option Nat} (hL : Lay K R) {pp qq : Int32} {b : BS} {p : List (Nat × Nat × List Nat)} (h : MW I b 9 p) : v_M G l yX12_pair cX12_pair 3 (some .int) rm_X12_pair [.ref 55, .int pp, .int qq] (K, I, J, R) (v_Qi G (fun (x : Int32) (M' : v_MM) => x = s_pair (b_n b) pp qq ∧ ∃ I', M' = (K, I', J, R) ∧ mJ I I')) := by
  refine v_of [some (.ref 55), some (.int pp), some (.int qq)] (by decide) (Nat.le_of_ble_eq_true rfl) (Nat.le_of_ble_eq_true rfl) rfl ?_
  have hn := VBn h.1
  refine v_aload_n (pc := 0) dX12_pair_0 rfl rfl ?_
  refine v_iload_n (pc := 1) dX12_pair_1 rfl rfl ?_
  refine v_ci (pc := 2) (v_rV (c_X12_isPerson G l hL (MVn h.1) (by have := VBn h.1; omega)) rfl kV_X12_213 (v_rcO (li_55 hL) rfl (by decide)) ⟨Nat.le_of_ble_eq_true rfl, Nat.le_of_ble_eq_true rfl⟩ ⟨Nat.le_of_ble_eq_true rfl, Nat.le_of_ble_eq_true rfl⟩ dX12_pair_2 (Nat.le_of_ble_eq_true rfl)) (fun x2 M2 h2 => ?_)
  obtain ⟨rfl, rfl⟩ := h2
  refine v_if_eqP (pc := 5) (tgt := 16) dX12_pair_5 (by decide) (fun c5 => ?_) (fun c5 => ?_)
  · have e1 := x_nat_n c5
    refine v_iconst (pc := 16) (v := -1) dX12_pair_16 (by decide) ?_
    exact v_iret (pc := 17) dX12_pair_17 rfl rfl (Nat.le_of_ble_eq_true rfl) (Nat.le_of_ble_eq_true rfl) ⟨by first | (simp only [s_pair, e1]; done) | (simp only [s_pair, e1, e2]; done) | (simp only [s_pair, e1, e2, if_pos c20]; done) | (simp only [s_pair, e1, e2, if_neg c20]; done), I, rfl, mJ_rf⟩
  · obtain ⟨a, ha, ea, e1⟩ := x_nat_i c5 (by omega)
    refine v_aload_n (pc := 8) dX12_pair_8 rfl rfl ?_
    refine v_iload_n (pc := 9) dX12_pair_9 rfl rfl ?_
    refine v_ci (pc := 10) (v_rV (c_X12_isPerson G l hL (MVn h.1) (by have := VBn h.1; omega)) rfl kV_X12_213 (v_rcO (li_55 hL) rfl (by decide)) ⟨Nat.le_of_ble_eq_true rfl, Nat.le_of_ble_eq_true rfl⟩ ⟨Nat.le_of_ble_eq_true rfl, Nat.le_of_ble_eq_true rfl⟩ dX12_pair_10 (Nat.le_of_ble_eq_true rfl)) (fun x10 M10 h10 => ?_)
    obtain ⟨rfl, rfl⟩ := h10
    refine v_if_neP (pc := 13) (tgt := 18) dX12_pair_13 (by decide) (fun c13 => ?_) (fun c13 => ?_)
    · obtain ⟨c, hc, ec, e2⟩ := x_nat_i c13 (by omega)
      subst ea; subst ec
      refine v_iload_n (pc := 18) dX12_pair_18 rfl rfl ?_
      refine v_iload_n (pc := 19) dX12_pair_19 rfl rfl ?_
      refine v_icmp_neN (pc := 20) (tgt := 28) ⟨by omega, by omega⟩ dX12_pair_20 (by decide) (fun c20 => ?_) (fun c20 => ?_)
      · refine v_aload_n (pc := 28) dX12_pair_28 rfl rfl ?_
        refine v_iload_n (pc := 29) dX12_pair_29 rfl rfl ?_
        refine v_iload_n (pc := 30) dX12_pair_30 rfl rfl ?_
        refine v_ci (pc := 31) (v_rV (c_X12_pairOf G l hL ⟨by omega, by omega, by omega⟩) rfl kV_X12_225 (v_rcO (li_55 hL) rfl (by decide)) ⟨Nat.le_of_ble_eq_true rfl, Nat.le_of_ble_eq_true rfl⟩ ⟨Nat.le_of_ble_eq_true rfl, Nat.le_of_ble_eq_true rfl⟩ dX12_pair_31 (Nat.le_of_ble_eq_true rfl)) (fun x31 M31 h31 => ?_)
        obtain ⟨rfl, rfl⟩ := h31
        exact v_iret (pc := 34) dX12_pair_34 rfl rfl (Nat.le_of_ble_eq_true rfl) (Nat.le_of_ble_eq_true rfl) ⟨by first | (simp only [s_pair, e1]; done) | (simp only [s_pair, e1, e2]; done) | (simp only [s_pair, e1, e2, if_pos c20]; done) | (simp only [s_pair, e1, e2, if_neg c20]; done), I, rfl, mJ_rf⟩
      · refine v_bipush (pc := 23) (v := -2) dX12_pair_23 (by decide) ?_
        refine v_goto (pc := 25) (tgt := 34) dX12_pair_25 (by decide) ?_
        exact v_iret (pc := 34) dX12_pair_34 rfl rfl (Nat.le_of_ble_eq_true rfl) (Nat.le_of_ble_eq_true rfl) ⟨by first | (simp only [s_pair, e1]; done) | (simp only [s_pair, e1, e2]; done) | (simp only [s_pair, e1, e2, if_pos c20]; done) | (simp only [s_pair, e1, e2, if_neg c20]; done), I, rfl, mJ_rf⟩
    · have e2 := x_nat_n c13
      refine v_iconst (pc := 16) (v := -1) dX12_pair_16 (by decide) ?_
      exact v_iret (pc := 17) dX12_pair_17 rfl rfl (Nat.le_of_ble_eq_true rfl) (Nat.le_of_ble_eq_true rfl) ⟨by first | (simp only [s_pair, e1]; done) | (simp only [s_pair, e1, e2]; done) | (simp only [s_pair, e1, e2, if_pos c20]; done) | (simp only [s_pair, e1, e2, if_neg c20]; done), I, rfl, mJ_rf⟩
abbrev rm_X12_pricePair : Room := { frames := 6, cells := 0, slots := 0, locals := 143 }
set_option maxRecDepth 20000 in
theorem c_X12_pricePair (G : v_G) (l : Launch) {K : Nat × v_TY} {I : Nat → Nat → Int32} {J : Nat → Nat → Int64} {R : Nat → Nat → Option Nat} (hL : Lay K R) {k : Nat} {b : BS} {p : List (Nat × Nat × List Nat)} (h : MW I b 9 p) (hk : k < w_pr (b_n b)) : v_M G l yX12_pricePair cX12_pricePair 2 (some .int) rm_X12_pricePair [.ref 55, .int (nI k)] (K, I, J, R) (v_Qi G (fun (x : Int32) (M' : v_MM) => x = nI (w_price (vw b 9 p) (w_l k) (w_g k)) ∧ ∃ I', M' = (K, I', J, R) ∧ mP I I')) := by
  refine v_of [some (.ref 55), some (.int (nI k))] (by decide) (Nat.le_of_ble_eq_true rfl) (Nat.le_of_ble_eq_true rfl) rfl ?_
  have hn := VBn h.1
  have h15 := w_pr_lt (b_n b) (by omega)
  have hg := w_g_in k (by omega)
  refine v_aload_n (pc := 0) dX12_pricePair_0 rfl rfl ?_
  refine v_aload_n (pc := 1) dX12_pricePair_1 rfl rfl ?_
  refine v_iload_n (pc := 2) dX12_pricePair_2 rfl rfl ?_
  refine v_ci (pc := 3) (v_rV (c_X12_lesserOf G l hL (by omega)) rfl kV_X12_313 (v_rcO (li_55 hL) rfl (by decide)) ⟨Nat.le_of_ble_eq_true rfl, Nat.le_of_ble_eq_true rfl⟩ ⟨Nat.le_of_ble_eq_true rfl, Nat.le_of_ble_eq_true rfl⟩ dX12_pricePair_3 (Nat.le_of_ble_eq_true rfl)) (fun x3 M3 h3 => ?_)
  obtain ⟨rfl, rfl⟩ := h3
  refine v_aload_n (pc := 6) dX12_pricePair_6 rfl rfl ?_
  refine v_iload_n (pc := 7) dX12_pricePair_7 rfl rfl ?_
  refine v_ci (pc := 8) (v_rV (c_X12_greaterOf G l hL (by omega)) rfl kV_X12_205 (v_rcO (li_55 hL) rfl (by decide)) ⟨Nat.le_of_ble_eq_true rfl, Nat.le_of_ble_eq_true rfl⟩ ⟨Nat.le_of_ble_eq_true rfl, Nat.le_of_ble_eq_true rfl⟩ dX12_pricePair_8 (Nat.le_of_ble_eq_true rfl)) (fun x8 M8 h8 => ?_)
  obtain ⟨rfl, rfl⟩ := h8
  refine v_ci (pc := 11) (v_rV (c_X12_priceOf G l hL h ⟨by omega, by omega⟩ ⟨by omega, by omega⟩) rfl kV_X12_316 (v_rcO (li_55 hL) rfl (by decide)) ⟨Nat.le_of_ble_eq_true rfl, Nat.le_of_ble_eq_true rfl⟩ ⟨Nat.le_of_ble_eq_true rfl, Nat.le_of_ble_eq_true rfl⟩ dX12_pricePair_11 (Nat.le_of_ble_eq_true rfl)) (fun x11 M11 h11 => ?_)
  obtain ⟨rfl, I2, rfl, hm2⟩ := h11
  exact v_iret (pc := 14) dX12_pricePair_14 rfl rfl (Nat.le_of_ble_eq_true rfl) (Nat.le_of_ble_eq_true rfl) ⟨rfl, I2, rfl, hm2⟩
abbrev rm_X12_of : Room := { frames := 7, cells := 0, slots := 0, locals := 168 }
set_option maxRecDepth 20000 in
theorem c_X12_of (G : v_G) (l : Launch) {K : Nat × v_TY} {I : Nat → Nat → Int32} {J : Nat → Nat → Int64} {R : Nat → Nat → Option Nat} (hL : Lay K R) {pp ww : Int32} {cm : Nat → Nat} {b : BS} {p : List (Nat × Nat × List Nat)} (h : MW I b 9 p) (hc : ∀ i, i < 7 → I 60 i = nI (cm i)) : v_M G l yX12_of cX12_of 4 (some .int) rm_X12_of [.ref 55, .int pp, .int ww] (K, I, J, R) (v_Qi G (fun (x : Int32) (M' : v_MM) => x = s_of b cm p pp ww ∧ ∃ I', M' = (K, I', J, R) ∧ mJ I I')) := by
  refine v_of [some (.ref 55), some (.int pp), some (.int ww), none] (by decide) (Nat.le_of_ble_eq_true rfl) (Nat.le_of_ble_eq_true rfl) rfl ?_
  have hn := VBn h.1
  refine v_aload_n (pc := 0) dX12_of_0 rfl rfl ?_
  refine v_iload_n (pc := 1) dX12_of_1 rfl rfl ?_
  refine v_ci (pc := 2) (v_rV (c_X12_isPerson G l hL (MVn h.1) (by have := VBn h.1; omega)) rfl kV_X12_213 (v_rcO (li_55 hL) rfl (by decide)) ⟨Nat.le_of_ble_eq_true rfl, Nat.le_of_ble_eq_true rfl⟩ ⟨Nat.le_of_ble_eq_true rfl, Nat.le_of_ble_eq_true rfl⟩ dX12_of_2 (Nat.le_of_ble_eq_true rfl)) (fun x2 M2 h2 => ?_)
  obtain ⟨rfl, rfl⟩ := h2
  refine v_if_neP (pc := 5) (tgt := 10) dX12_of_5 (by decide) (fun c5 => ?_) (fun c5 => ?_)
  · obtain ⟨j, hj, ej, e1⟩ := x_nat_i c5 (by omega)
    subst ej
    refine v_aload_n (pc := 10) dX12_of_10 rfl rfl ?_
    refine v_ci (pc := 11) (v_rV (c_X12_layAmiss G l hL h) rfl kV_X12_307 (v_rcO (li_55 hL) rfl (by decide)) ⟨Nat.le_of_ble_eq_true rfl, Nat.le_of_ble_eq_true rfl⟩ ⟨Nat.le_of_ble_eq_true rfl, Nat.le_of_ble_eq_true rfl⟩ dX12_of_11 (Nat.le_of_ble_eq_true rfl)) (fun x11 M11 h11 => ?_)
    obtain ⟨rfl, I2, rfl, m2⟩ := h11
    have hm := m2.1
    have hw := MW_J h hm
    refine v_istore_n (pc := 14) dX12_of_14 rfl (by decide) rfl ?_
    refine v_iload_n (pc := 15) dX12_of_15 rfl rfl ?_
    rcases x_sw5 ww with rfl | rfl | rfl | rfl | rfl | ⟨e2, e3⟩
    · have e2 : x_nat (nI 0) 5 = some 0 := rfl
      refine v_tableIn (pc := 16) (tgt := 52) dX12_of_16 (by decide) (by decide) rfl (by decide) ?_
      refine v_aload_n (pc := 52) dX12_of_52 rfl rfl ?_
      refine v_getH (pc := 53) fg_X12_19_12 dX12_of_53 (li_55 hL) (lr_55_3 hL) ?_
      refine v_iload_n (pc := 56) dX12_of_56 rfl rfl ?_
      refine v_ialoadN (pc := 57) dX12_of_57 (li_56 hL) ⟨by omega, by omega⟩ (MVk hw.1 (by omega)) ?_
      exact v_iret (pc := 58) dX12_of_58 rfl rfl (Nat.le_of_ble_eq_true rfl) (Nat.le_of_ble_eq_true rfl) ⟨by simp only [s_of, e1, *], _, rfl, by first | exact mJ_rf | exact hm⟩
    · have e2 : x_nat (nI 1) 5 = some 1 := rfl
      refine v_tableIn (pc := 16) (tgt := 59) dX12_of_16 (by decide) (by decide) rfl (by decide) ?_
      refine v_aload_n (pc := 59) dX12_of_59 rfl rfl ?_
      refine v_getH (pc := 60) fg_X12_23_12 dX12_of_60 (li_55 hL) (lr_55_4 hL) ?_
      refine v_iload_n (pc := 63) dX12_of_63 rfl rfl ?_
      refine v_ialoadN (pc := 64) dX12_of_64 (li_57 hL) ⟨by omega, by omega⟩ (MVv hw.1 (by omega)) ?_
      exact v_iret (pc := 65) dX12_of_65 rfl rfl (Nat.le_of_ble_eq_true rfl) (Nat.le_of_ble_eq_true rfl) ⟨by simp only [s_of, e1, *], _, rfl, by first | exact mJ_rf | exact hm⟩
    · have e2 : x_nat (nI 2) 5 = some 2 := rfl
      refine v_tableIn (pc := 16) (tgt := 66) dX12_of_16 (by decide) (by decide) rfl (by decide) ?_
      refine v_aload_n (pc := 66) dX12_of_66 rfl rfl ?_
      refine v_getH (pc := 67) fg_X12_26_12 dX12_of_67 (li_55 hL) (lr_55_5 hL) ?_
      refine v_iload_n (pc := 70) dX12_of_70 rfl rfl ?_
      refine v_ialoadN (pc := 71) dX12_of_71 (li_58 hL) ⟨by omega, by omega⟩ (MVm hw.1 (by omega)) ?_
      exact v_iret (pc := 72) dX12_of_72 rfl rfl (Nat.le_of_ble_eq_true rfl) (Nat.le_of_ble_eq_true rfl) ⟨by simp only [s_of, e1, *], _, rfl, by first | exact mJ_rf | exact hm⟩
    · have e2 : x_nat (nI 3) 5 = some 3 := rfl
      refine v_tableIn (pc := 16) (tgt := 73) dX12_of_16 (by decide) (by decide) rfl (by decide) ?_
      refine v_aload_n (pc := 73) dX12_of_73 rfl rfl ?_
      refine v_getH (pc := 74) fg_X12_96_12 dX12_of_74 (li_55 hL) (lr_55_28 hL) ?_
      refine v_iload_n (pc := 77) dX12_of_77 rfl rfl ?_
      refine v_ialoadN (pc := 78) dX12_of_78 (li_71 hL) ⟨by omega, by omega⟩ (m2.2.2.2 j (by omega)) ?_
      exact v_iret (pc := 79) dX12_of_79 rfl rfl (Nat.le_of_ble_eq_true rfl) (Nat.le_of_ble_eq_true rfl) ⟨by simp only [s_of, e1, *], _, rfl, by first | exact mJ_rf | exact hm⟩
    · have e2 : x_nat (nI 4) 5 = some 4 := rfl
      refine v_tableIn (pc := 16) (tgt := 80) dX12_of_16 (by decide) (by decide) rfl (by decide) ?_
      refine v_aload_n (pc := 80) dX12_of_80 rfl rfl ?_
      refine v_getH (pc := 81) fg_X12_32_12 dX12_of_81 (li_55 hL) (lr_55_7 hL) ?_
      refine v_iload_n (pc := 84) dX12_of_84 rfl rfl ?_
      refine v_ialoadN (pc := 85) dX12_of_85 (li_60 hL) ⟨by omega, by omega⟩ ((mJ_h hm (by decide)).trans (hc j (by omega))) ?_
      exact v_iret (pc := 86) dX12_of_86 rfl rfl (Nat.le_of_ble_eq_true rfl) (Nat.le_of_ble_eq_true rfl) ⟨by simp only [s_of, e1, *], _, rfl, by first | exact mJ_rf | exact hm⟩
    · refine v_tableOut (pc := 16) (tgt := 87) dX12_of_16 e3 (by decide) ?_
      refine v_iconst (pc := 87) (v := -1) dX12_of_87 (by decide) ?_
      exact v_iret (pc := 88) dX12_of_88 rfl rfl (Nat.le_of_ble_eq_true rfl) (Nat.le_of_ble_eq_true rfl) ⟨by simp only [s_of, e1, *], _, rfl, by first | exact mJ_rf | exact hm⟩
  · have e1 := x_nat_n c5
    refine v_iconst (pc := 8) (v := -1) dX12_of_8 (by decide) ?_
    exact v_iret (pc := 9) dX12_of_9 rfl rfl (Nat.le_of_ble_eq_true rfl) (Nat.le_of_ble_eq_true rfl) ⟨by simp only [s_of, e1, *], _, rfl, by first | exact mJ_rf | exact hm⟩
abbrev rm_X12_at : Room := { frames := 6, cells := 0, slots := 0, locals := 143 }
set_option maxRecDepth 20000 in
theorem c_X12_at (G : v_G) (l : Launch) {K : Nat × v_TY} {I : Nat → Nat → Int32} {J : Nat → Nat → Int64} {R : Nat → Nat → Option Nat} (hL : Lay K R) {pp ww : Int32} {b : BS} {p : List (Nat × Nat × List Nat)} (h : MW I b 9 p) : v_M G l yX12_at cX12_at 5 (some .int) rm_X12_at [.ref 55, .int pp, .int ww] (K, I, J, R) (v_Qi G (fun (x : Int32) (M' : v_MM) => x = s_at b p pp ww ∧ ∃ I', M' = (K, I', J, R) ∧ mJ I I')) := by
  refine v_of [some (.ref 55), some (.int pp), some (.int ww), none, none] (by decide) (Nat.le_of_ble_eq_true rfl) (Nat.le_of_ble_eq_true rfl) rfl ?_
  have hn := VBn h.1
  have h15 := w_pr_lt (b_n b) (by omega)
  refine v_aload_n (pc := 0) dX12_at_0 rfl rfl ?_
  refine v_iload_n (pc := 1) dX12_at_1 rfl rfl ?_
  refine v_ci (pc := 2) (v_rV (c_X12_isPair G l hL (MVn h.1) (by have := VBn h.1; omega)) rfl kV_X12_310 (v_rcO (li_55 hL) rfl (by decide)) ⟨Nat.le_of_ble_eq_true rfl, Nat.le_of_ble_eq_true rfl⟩ ⟨Nat.le_of_ble_eq_true rfl, Nat.le_of_ble_eq_true rfl⟩ dX12_at_2 (Nat.le_of_ble_eq_true rfl)) (fun x2 M2 h2 => ?_)
  obtain ⟨rfl, rfl⟩ := h2
  refine v_if_neP (pc := 5) (tgt := 10) dX12_at_5 (by decide) (fun c5 => ?_) (fun c5 => ?_)
  · obtain ⟨j, hj, ej, e1⟩ := x_nat_i c5 (by omega)
    subst ej
    have hg := w_g_in j (by omega)
    refine v_aload_n (pc := 10) dX12_at_10 rfl rfl ?_
    refine v_iload_n (pc := 11) dX12_at_11 rfl rfl ?_
    refine v_ci (pc := 12) (v_rV (c_X12_lesserOf G l hL (by omega)) rfl kV_X12_313 (v_rcO (li_55 hL) rfl (by decide)) ⟨Nat.le_of_ble_eq_true rfl, Nat.le_of_ble_eq_true rfl⟩ ⟨Nat.le_of_ble_eq_true rfl, Nat.le_of_ble_eq_true rfl⟩ dX12_at_12 (Nat.le_of_ble_eq_true rfl)) (fun x12 M12 h12 => ?_)
    obtain ⟨rfl, rfl⟩ := h12
    refine v_istore_n (pc := 15) dX12_at_15 rfl (by decide) rfl ?_
    refine v_aload_n (pc := 16) dX12_at_16 rfl rfl ?_
    refine v_iload_n (pc := 17) dX12_at_17 rfl rfl ?_
    refine v_ci (pc := 18) (v_rV (c_X12_greaterOf G l hL (by omega)) rfl kV_X12_205 (v_rcO (li_55 hL) rfl (by decide)) ⟨Nat.le_of_ble_eq_true rfl, Nat.le_of_ble_eq_true rfl⟩ ⟨Nat.le_of_ble_eq_true rfl, Nat.le_of_ble_eq_true rfl⟩ dX12_at_18 (Nat.le_of_ble_eq_true rfl)) (fun x18 M18 h18 => ?_)
    obtain ⟨rfl, rfl⟩ := h18
    refine v_istore (pc := 21) dX12_at_21 (by decide) rfl ?_
    refine v_iload_n (pc := 23) dX12_at_23 rfl rfl ?_
    rcases x_sw6 ww with rfl | rfl | rfl | rfl | rfl | rfl | ⟨e2, e3⟩
    · have e2 : x_nat (nI 0) 6 = some 0 := rfl
      refine v_tableIn (pc := 24) (tgt := 64) dX12_at_24 (by decide) (by decide) rfl (by decide) ?_
      refine v_aload_n (pc := 64) dX12_at_64 rfl rfl ?_
      refine v_getH (pc := 65) fg_X12_26_12 dX12_at_65 (li_55 hL) (lr_55_5 hL) ?_
      refine v_iload_n (pc := 68) dX12_at_68 rfl rfl ?_
      refine v_ialoadN (pc := 69) dX12_at_69 (li_58 hL) ⟨by omega, by omega⟩ (MVm h.1 (by omega)) ?_
      refine v_iload (pc := 70) dX12_at_70 rfl ?_
      refine v_ishr (pc := 72) dX12_at_72 ?_
      refine v_iconst (pc := 73) (v := nI 1) dX12_at_73 (by decide) ?_
      refine v_iand (pc := 74) dX12_at_74 ?_
      refine v_top (v_hasV (by omega)) ?_
      exact v_iret (pc := 75) dX12_at_75 rfl rfl (Nat.le_of_ble_eq_true rfl) (Nat.le_of_ble_eq_true rfl) ⟨by first | (simp only [s_at, e1, *]; done) | (simp only [s_at, e1, e2]; rw [w_bt (by omega), vw_a, show decide (w_l j ≠ 9) = true by simp; omega, show decide (w_g j ≠ 9) = true by simp; omega, Bool.and_true, Bool.and_true]), _, rfl, by first | exact mJ_rf | exact mP_J hm2⟩
    · have e2 : x_nat (nI 1) 6 = some 1 := rfl
      refine v_tableIn (pc := 24) (tgt := 76) dX12_at_24 (by decide) (by decide) rfl (by decide) ?_
      refine v_aload_n (pc := 76) dX12_at_76 rfl rfl ?_
      refine v_iload_n (pc := 77) dX12_at_77 rfl rfl ?_
      refine v_iload (pc := 78) dX12_at_78 rfl ?_
      refine v_ci (pc := 80) (v_rV (c_X12_commonOf G l hL (q := p) h.1 ⟨by omega, by omega⟩ ⟨by omega, by omega⟩) rfl kV_X12_301 (v_rcO (li_55 hL) rfl (by decide)) ⟨Nat.le_of_ble_eq_true rfl, Nat.le_of_ble_eq_true rfl⟩ ⟨Nat.le_of_ble_eq_true rfl, Nat.le_of_ble_eq_true rfl⟩ dX12_at_80 (Nat.le_of_ble_eq_true rfl)) (fun x80 M80 h80 => ?_)
      obtain ⟨rfl, rfl⟩ := h80
      exact v_iret (pc := 83) dX12_at_83 rfl rfl (Nat.le_of_ble_eq_true rfl) (Nat.le_of_ble_eq_true rfl) ⟨by first | (simp only [s_at, e1, *]; done) | (simp only [s_at, e1, e2]; rw [w_bt (by omega), vw_a, show decide (w_l j ≠ 9) = true by simp; omega, show decide (w_g j ≠ 9) = true by simp; omega, Bool.and_true, Bool.and_true]), _, rfl, by first | exact mJ_rf | exact mP_J hm2⟩
    · have e2 : x_nat (nI 2) 6 = some 2 := rfl
      refine v_tableIn (pc := 24) (tgt := 84) dX12_at_24 (by decide) (by decide) rfl (by decide) ?_
      refine v_aload_n (pc := 84) dX12_at_84 rfl rfl ?_
      refine v_iconst (pc := 85) (v := nI 0) dX12_at_85 (by decide) ?_
      refine v_iload_n (pc := 86) dX12_at_86 rfl rfl ?_
      refine v_iload (pc := 87) dX12_at_87 rfl ?_
      refine v_ci (pc := 89) (v_rV (c_X12_sumOf G l hL h (by omega) ⟨by omega, by omega⟩ ⟨by omega, by omega⟩) rfl kV_X12_292 (v_rcO (li_55 hL) rfl (by decide)) ⟨Nat.le_of_ble_eq_true rfl, Nat.le_of_ble_eq_true rfl⟩ ⟨Nat.le_of_ble_eq_true rfl, Nat.le_of_ble_eq_true rfl⟩ dX12_at_89 (Nat.le_of_ble_eq_true rfl)) (fun x89 M89 h89 => ?_)
      obtain ⟨rfl, I2, rfl, hm2⟩ := h89
      exact v_iret (pc := 92) dX12_at_92 rfl rfl (Nat.le_of_ble_eq_true rfl) (Nat.le_of_ble_eq_true rfl) ⟨by first | (simp only [s_at, e1, *]; done) | (simp only [s_at, e1, e2]; rw [w_bt (by omega), vw_a, show decide (w_l j ≠ 9) = true by simp; omega, show decide (w_g j ≠ 9) = true by simp; omega, Bool.and_true, Bool.and_true]), _, rfl, by first | exact mJ_rf | exact mP_J hm2⟩
    · have e2 : x_nat (nI 3) 6 = some 3 := rfl
      refine v_tableIn (pc := 24) (tgt := 93) dX12_at_24 (by decide) (by decide) rfl (by decide) ?_
      refine v_aload_n (pc := 93) dX12_at_93 rfl rfl ?_
      refine v_iload_n (pc := 94) dX12_at_94 rfl rfl ?_
      refine v_iload (pc := 95) dX12_at_95 rfl ?_
      refine v_ci (pc := 97) (v_rV (c_X12_priceOf G l hL h ⟨by omega, by omega⟩ ⟨by omega, by omega⟩) rfl kV_X12_316 (v_rcO (li_55 hL) rfl (by decide)) ⟨Nat.le_of_ble_eq_true rfl, Nat.le_of_ble_eq_true rfl⟩ ⟨Nat.le_of_ble_eq_true rfl, Nat.le_of_ble_eq_true rfl⟩ dX12_at_97 (Nat.le_of_ble_eq_true rfl)) (fun x97 M97 h97 => ?_)
      obtain ⟨rfl, I2, rfl, hm2⟩ := h97
      exact v_iret (pc := 100) dX12_at_100 rfl rfl (Nat.le_of_ble_eq_true rfl) (Nat.le_of_ble_eq_true rfl) ⟨by first | (simp only [s_at, e1, *]; done) | (simp only [s_at, e1, e2]; rw [w_bt (by omega), vw_a, show decide (w_l j ≠ 9) = true by simp; omega, show decide (w_g j ≠ 9) = true by simp; omega, Bool.and_true, Bool.and_true]), _, rfl, by first | exact mJ_rf | exact mP_J hm2⟩
    · have e2 : x_nat (nI 4) 6 = some 4 := rfl
      refine v_tableIn (pc := 24) (tgt := 101) dX12_at_24 (by decide) (by decide) rfl (by decide) ?_
      refine v_iload_n (pc := 101) dX12_at_101 rfl rfl ?_
      exact v_iret (pc := 102) dX12_at_102 rfl rfl (Nat.le_of_ble_eq_true rfl) (Nat.le_of_ble_eq_true rfl) ⟨by first | (simp only [s_at, e1, *]; done) | (simp only [s_at, e1, e2]; rw [w_bt (by omega), vw_a, show decide (w_l j ≠ 9) = true by simp; omega, show decide (w_g j ≠ 9) = true by simp; omega, Bool.and_true, Bool.and_true]), _, rfl, by first | exact mJ_rf | exact mP_J hm2⟩
    · have e2 : x_nat (nI 5) 6 = some 5 := rfl
      refine v_tableIn (pc := 24) (tgt := 103) dX12_at_24 (by decide) (by decide) rfl (by decide) ?_
      refine v_iload (pc := 103) dX12_at_103 rfl ?_
      exact v_iret (pc := 105) dX12_at_105 rfl rfl (Nat.le_of_ble_eq_true rfl) (Nat.le_of_ble_eq_true rfl) ⟨by first | (simp only [s_at, e1, *]; done) | (simp only [s_at, e1, e2]; rw [w_bt (by omega), vw_a, show decide (w_l j ≠ 9) = true by simp; omega, show decide (w_g j ≠ 9) = true by simp; omega, Bool.and_true, Bool.and_true]), _, rfl, by first | exact mJ_rf | exact mP_J hm2⟩
    · refine v_tableOut (pc := 24) (tgt := 106) dX12_at_24 e3 (by decide) ?_
      refine v_iconst (pc := 106) (v := -1) dX12_at_106 (by decide) ?_
      exact v_iret (pc := 107) dX12_at_107 rfl rfl (Nat.le_of_ble_eq_true rfl) (Nat.le_of_ble_eq_true rfl) ⟨by first | (simp only [s_at, e1, *]; done) | (simp only [s_at, e1, e2]; rw [w_bt (by omega), vw_a, show decide (w_l j ≠ 9) = true by simp; omega, show decide (w_g j ≠ 9) = true by simp; omega, Bool.and_true, Bool.and_true]), _, rfl, by first | exact mJ_rf | exact mP_J hm2⟩
  · have e1 := x_nat_n c5
    refine v_iconst (pc := 8) (v := -1) dX12_at_8 (by decide) ?_
    exact v_iret (pc := 9) dX12_at_9 rfl rfl (Nat.le_of_ble_eq_true rfl) (Nat.le_of_ble_eq_true rfl) ⟨by first | (simp only [s_at, e1, *]; done) | (simp only [s_at, e1, e2]; rw [w_bt (by omega), vw_a, show decide (w_l j ≠ 9) = true by simp; omega, show decide (w_g j ≠ 9) = true by simp; omega, Bool.and_true, Bool.and_true]), _, rfl, by first | exact mJ_rf | exact mP_J hm2⟩
abbrev rm_X12_told : Room := { frames := 2, cells := 0, slots := 0, locals := 45 }
set_option maxRecDepth 20000 in
theorem c_X12_told (G : v_G) (l : Launch) {K : Nat × v_TY} {I : Nat → Nat → Int32} {J : Nat → Nat → Int64} {R : Nat → Nat → Option Nat} (hL : Lay K R) {ww : Int32} {b : BS} {p : List (Nat × Nat × List Nat)} (h : MW I b 9 p) : v_M G l yX12_told cX12_told 2 (some .int) rm_X12_told [.ref 55, .int ww] (K, I, J, R) (v_Qi G (fun (x : Int32) (M' : v_MM) => x = s_told b ww ∧ ∃ I', M' = (K, I', J, R) ∧ mJ I I')) := by
  refine v_of [some (.ref 55), some (.int ww)] (by decide) (Nat.le_of_ble_eq_true rfl) (Nat.le_of_ble_eq_true rfl) rfl ?_
  rcases x_sw3 ww with rfl | rfl | rfl | ⟨e2, e3⟩
  · have hn := VBn h.1
    refine v_iload_n (pc := 0) dX12_told_0 rfl rfl ?_
    refine v_if_neN (pc := 1) (tgt := 11) (by omega) dX12_told_1 (by decide) (fun c1 => ?_) (fun c1 => ?_)
    · refine v_iload_n (pc := 11) dX12_told_11 rfl rfl ?_
      refine v_iconst (pc := 12) (v := nI 1) dX12_told_12 (by decide) ?_
      refine v_icmp_neN (pc := 13) (tgt := 23) ⟨by omega, by omega⟩ dX12_told_13 (by decide) (fun c13 => ?_) (fun c13 => ?_)
      · refine v_iload_n (pc := 23) dX12_told_23 rfl rfl ?_
        refine v_iconst (pc := 24) (v := nI 2) dX12_told_24 (by decide) ?_
        refine v_icmp_neN (pc := 25) (tgt := 35) ⟨by omega, by omega⟩ dX12_told_25 (by decide) (fun c25 => ?_) (fun c25 => ?_)
        · refine v_iconst (pc := 35) (v := -1) dX12_told_35 (by decide) ?_
          exact v_iret (pc := 36) dX12_told_36 rfl rfl (Nat.le_of_ble_eq_true rfl) (Nat.le_of_ble_eq_true rfl) ⟨by first | omega | rfl, I, rfl, mJ_rf⟩
        · refine v_aload_n (pc := 28) dX12_told_28 rfl rfl ?_
          refine v_ci (pc := 29) (v_rV (c_X12_friendships G l hL h) rfl kV_X12_319 (v_rcO (li_55 hL) rfl (by decide)) ⟨Nat.le_of_ble_eq_true rfl, Nat.le_of_ble_eq_true rfl⟩ ⟨Nat.le_of_ble_eq_true rfl, Nat.le_of_ble_eq_true rfl⟩ dX12_told_29 (Nat.le_of_ble_eq_true rfl)) (fun x29 M29 h29 => ?_)
          obtain ⟨rfl, rfl⟩ := h29
          refine v_goto (pc := 32) (tgt := 36) dX12_told_32 (by decide) ?_
          exact v_iret (pc := 36) dX12_told_36 rfl rfl (Nat.le_of_ble_eq_true rfl) (Nat.le_of_ble_eq_true rfl) ⟨by first | omega | rfl, I, rfl, mJ_rf⟩
      · refine v_aload_n (pc := 16) dX12_told_16 rfl rfl ?_
        refine v_ci (pc := 17) (v_rV (c_X12_pairs G l hL (MVn h.1) (by omega)) rfl kV_X12_201 (v_rcO (li_55 hL) rfl (by decide)) ⟨Nat.le_of_ble_eq_true rfl, Nat.le_of_ble_eq_true rfl⟩ ⟨Nat.le_of_ble_eq_true rfl, Nat.le_of_ble_eq_true rfl⟩ dX12_told_17 (Nat.le_of_ble_eq_true rfl)) (fun x17 M17 h17 => ?_)
        obtain ⟨rfl, rfl⟩ := h17
        refine v_goto (pc := 20) (tgt := 36) dX12_told_20 (by decide) ?_
        exact v_iret (pc := 36) dX12_told_36 rfl rfl (Nat.le_of_ble_eq_true rfl) (Nat.le_of_ble_eq_true rfl) ⟨by first | omega | rfl, I, rfl, mJ_rf⟩
    · refine v_aload_n (pc := 4) dX12_told_4 rfl rfl ?_
      refine v_getV (pc := 5) fg_X12_13_12 dX12_told_5 (li_55 hL) (MVy h.1) ?_
      refine v_goto (pc := 8) (tgt := 36) dX12_told_8 (by decide) ?_
      exact v_iret (pc := 36) dX12_told_36 rfl rfl (Nat.le_of_ble_eq_true rfl) (Nat.le_of_ble_eq_true rfl) ⟨by first | omega | rfl, I, rfl, mJ_rf⟩
  · have hn := VBn h.1
    refine v_iload_n (pc := 0) dX12_told_0 rfl rfl ?_
    refine v_if_neN (pc := 1) (tgt := 11) (by omega) dX12_told_1 (by decide) (fun c1 => ?_) (fun c1 => ?_)
    · refine v_iload_n (pc := 11) dX12_told_11 rfl rfl ?_
      refine v_iconst (pc := 12) (v := nI 1) dX12_told_12 (by decide) ?_
      refine v_icmp_neN (pc := 13) (tgt := 23) ⟨by omega, by omega⟩ dX12_told_13 (by decide) (fun c13 => ?_) (fun c13 => ?_)
      · refine v_iload_n (pc := 23) dX12_told_23 rfl rfl ?_
        refine v_iconst (pc := 24) (v := nI 2) dX12_told_24 (by decide) ?_
        refine v_icmp_neN (pc := 25) (tgt := 35) ⟨by omega, by omega⟩ dX12_told_25 (by decide) (fun c25 => ?_) (fun c25 => ?_)
        · refine v_iconst (pc := 35) (v := -1) dX12_told_35 (by decide) ?_
          exact v_iret (pc := 36) dX12_told_36 rfl rfl (Nat.le_of_ble_eq_true rfl) (Nat.le_of_ble_eq_true rfl) ⟨by first | omega | rfl, I, rfl, mJ_rf⟩
        · refine v_aload_n (pc := 28) dX12_told_28 rfl rfl ?_
          refine v_ci (pc := 29) (v_rV (c_X12_friendships G l hL h) rfl kV_X12_319 (v_rcO (li_55 hL) rfl (by decide)) ⟨Nat.le_of_ble_eq_true rfl, Nat.le_of_ble_eq_true rfl⟩ ⟨Nat.le_of_ble_eq_true rfl, Nat.le_of_ble_eq_true rfl⟩ dX12_told_29 (Nat.le_of_ble_eq_true rfl)) (fun x29 M29 h29 => ?_)
          obtain ⟨rfl, rfl⟩ := h29
          refine v_goto (pc := 32) (tgt := 36) dX12_told_32 (by decide) ?_
          exact v_iret (pc := 36) dX12_told_36 rfl rfl (Nat.le_of_ble_eq_true rfl) (Nat.le_of_ble_eq_true rfl) ⟨by first | omega | rfl, I, rfl, mJ_rf⟩
      · refine v_aload_n (pc := 16) dX12_told_16 rfl rfl ?_
        refine v_ci (pc := 17) (v_rV (c_X12_pairs G l hL (MVn h.1) (by omega)) rfl kV_X12_201 (v_rcO (li_55 hL) rfl (by decide)) ⟨Nat.le_of_ble_eq_true rfl, Nat.le_of_ble_eq_true rfl⟩ ⟨Nat.le_of_ble_eq_true rfl, Nat.le_of_ble_eq_true rfl⟩ dX12_told_17 (Nat.le_of_ble_eq_true rfl)) (fun x17 M17 h17 => ?_)
        obtain ⟨rfl, rfl⟩ := h17
        refine v_goto (pc := 20) (tgt := 36) dX12_told_20 (by decide) ?_
        exact v_iret (pc := 36) dX12_told_36 rfl rfl (Nat.le_of_ble_eq_true rfl) (Nat.le_of_ble_eq_true rfl) ⟨by first | omega | rfl, I, rfl, mJ_rf⟩
    · refine v_aload_n (pc := 4) dX12_told_4 rfl rfl ?_
      refine v_getV (pc := 5) fg_X12_13_12 dX12_told_5 (li_55 hL) (MVy h.1) ?_
      refine v_goto (pc := 8) (tgt := 36) dX12_told_8 (by decide) ?_
      exact v_iret (pc := 36) dX12_told_36 rfl rfl (Nat.le_of_ble_eq_true rfl) (Nat.le_of_ble_eq_true rfl) ⟨by first | omega | rfl, I, rfl, mJ_rf⟩
  · have hn := VBn h.1
    refine v_iload_n (pc := 0) dX12_told_0 rfl rfl ?_
    refine v_if_neN (pc := 1) (tgt := 11) (by omega) dX12_told_1 (by decide) (fun c1 => ?_) (fun c1 => ?_)
    · refine v_iload_n (pc := 11) dX12_told_11 rfl rfl ?_
      refine v_iconst (pc := 12) (v := nI 1) dX12_told_12 (by decide) ?_
      refine v_icmp_neN (pc := 13) (tgt := 23) ⟨by omega, by omega⟩ dX12_told_13 (by decide) (fun c13 => ?_) (fun c13 => ?_)
      · refine v_iload_n (pc := 23) dX12_told_23 rfl rfl ?_
        refine v_iconst (pc := 24) (v := nI 2) dX12_told_24 (by decide) ?_
        refine v_icmp_neN (pc := 25) (tgt := 35) ⟨by omega, by omega⟩ dX12_told_25 (by decide) (fun c25 => ?_) (fun c25 => ?_)
        · refine v_iconst (pc := 35) (v := -1) dX12_told_35 (by decide) ?_
          exact v_iret (pc := 36) dX12_told_36 rfl rfl (Nat.le_of_ble_eq_true rfl) (Nat.le_of_ble_eq_true rfl) ⟨by first | omega | rfl, I, rfl, mJ_rf⟩
        · refine v_aload_n (pc := 28) dX12_told_28 rfl rfl ?_
          refine v_ci (pc := 29) (v_rV (c_X12_friendships G l hL h) rfl kV_X12_319 (v_rcO (li_55 hL) rfl (by decide)) ⟨Nat.le_of_ble_eq_true rfl, Nat.le_of_ble_eq_true rfl⟩ ⟨Nat.le_of_ble_eq_true rfl, Nat.le_of_ble_eq_true rfl⟩ dX12_told_29 (Nat.le_of_ble_eq_true rfl)) (fun x29 M29 h29 => ?_)
          obtain ⟨rfl, rfl⟩ := h29
          refine v_goto (pc := 32) (tgt := 36) dX12_told_32 (by decide) ?_
          exact v_iret (pc := 36) dX12_told_36 rfl rfl (Nat.le_of_ble_eq_true rfl) (Nat.le_of_ble_eq_true rfl) ⟨by first | omega | rfl, I, rfl, mJ_rf⟩
      · refine v_aload_n (pc := 16) dX12_told_16 rfl rfl ?_
        refine v_ci (pc := 17) (v_rV (c_X12_pairs G l hL (MVn h.1) (by omega)) rfl kV_X12_201 (v_rcO (li_55 hL) rfl (by decide)) ⟨Nat.le_of_ble_eq_true rfl, Nat.le_of_ble_eq_true rfl⟩ ⟨Nat.le_of_ble_eq_true rfl, Nat.le_of_ble_eq_true rfl⟩ dX12_told_17 (Nat.le_of_ble_eq_true rfl)) (fun x17 M17 h17 => ?_)
        obtain ⟨rfl, rfl⟩ := h17
        refine v_goto (pc := 20) (tgt := 36) dX12_told_20 (by decide) ?_
        exact v_iret (pc := 36) dX12_told_36 rfl rfl (Nat.le_of_ble_eq_true rfl) (Nat.le_of_ble_eq_true rfl) ⟨by first | omega | rfl, I, rfl, mJ_rf⟩
    · refine v_aload_n (pc := 4) dX12_told_4 rfl rfl ?_
      refine v_getV (pc := 5) fg_X12_13_12 dX12_told_5 (li_55 hL) (MVy h.1) ?_
      refine v_goto (pc := 8) (tgt := 36) dX12_told_8 (by decide) ?_
      exact v_iret (pc := 36) dX12_told_36 rfl rfl (Nat.le_of_ble_eq_true rfl) (Nat.le_of_ble_eq_true rfl) ⟨by first | omega | rfl, I, rfl, mJ_rf⟩
  · have z0 : ¬ ww = 0 := fun z => by subst z; exact absurd e2 (by decide)
    have z1 : ¬ ww = nI 1 := fun z => by subst z; exact absurd e2 (by decide)
    have z2 : ¬ ww = nI 2 := fun z => by subst z; exact absurd e2 (by decide)
    have hn := VBn h.1
    refine v_iload_n (pc := 0) dX12_told_0 rfl rfl ?_
    refine v_if_ne (pc := 1) (tgt := 11) dX12_told_1 (by decide) (fun c1 => ?_) (fun c1 => ?_)
    · refine v_iload_n (pc := 11) dX12_told_11 rfl rfl ?_
      refine v_iconst (pc := 12) (v := nI 1) dX12_told_12 (by decide) ?_
      refine v_icmp_ne (pc := 13) (tgt := 23) dX12_told_13 (by decide) (fun c13 => ?_) (fun c13 => ?_)
      · refine v_iload_n (pc := 23) dX12_told_23 rfl rfl ?_
        refine v_iconst (pc := 24) (v := nI 2) dX12_told_24 (by decide) ?_
        refine v_icmp_ne (pc := 25) (tgt := 35) dX12_told_25 (by decide) (fun c25 => ?_) (fun c25 => ?_)
        · refine v_iconst (pc := 35) (v := -1) dX12_told_35 (by decide) ?_
          exact v_iret (pc := 36) dX12_told_36 rfl rfl (Nat.le_of_ble_eq_true rfl) (Nat.le_of_ble_eq_true rfl) ⟨by first | contradiction | simp only [s_told, e2], I, rfl, mJ_rf⟩
        · refine v_aload_n (pc := 28) dX12_told_28 rfl rfl ?_
          refine v_ci (pc := 29) (v_rV (c_X12_friendships G l hL h) rfl kV_X12_319 (v_rcO (li_55 hL) rfl (by decide)) ⟨Nat.le_of_ble_eq_true rfl, Nat.le_of_ble_eq_true rfl⟩ ⟨Nat.le_of_ble_eq_true rfl, Nat.le_of_ble_eq_true rfl⟩ dX12_told_29 (Nat.le_of_ble_eq_true rfl)) (fun x29 M29 h29 => ?_)
          obtain ⟨rfl, rfl⟩ := h29
          refine v_goto (pc := 32) (tgt := 36) dX12_told_32 (by decide) ?_
          exact v_iret (pc := 36) dX12_told_36 rfl rfl (Nat.le_of_ble_eq_true rfl) (Nat.le_of_ble_eq_true rfl) ⟨by first | contradiction | simp only [s_told, e2], I, rfl, mJ_rf⟩
      · refine v_aload_n (pc := 16) dX12_told_16 rfl rfl ?_
        refine v_ci (pc := 17) (v_rV (c_X12_pairs G l hL (MVn h.1) (by omega)) rfl kV_X12_201 (v_rcO (li_55 hL) rfl (by decide)) ⟨Nat.le_of_ble_eq_true rfl, Nat.le_of_ble_eq_true rfl⟩ ⟨Nat.le_of_ble_eq_true rfl, Nat.le_of_ble_eq_true rfl⟩ dX12_told_17 (Nat.le_of_ble_eq_true rfl)) (fun x17 M17 h17 => ?_)
        obtain ⟨rfl, rfl⟩ := h17
        refine v_goto (pc := 20) (tgt := 36) dX12_told_20 (by decide) ?_
        exact v_iret (pc := 36) dX12_told_36 rfl rfl (Nat.le_of_ble_eq_true rfl) (Nat.le_of_ble_eq_true rfl) ⟨by first | contradiction | simp only [s_told, e2], I, rfl, mJ_rf⟩
    · refine v_aload_n (pc := 4) dX12_told_4 rfl rfl ?_
      refine v_getV (pc := 5) fg_X12_13_12 dX12_told_5 (li_55 hL) (MVy h.1) ?_
      refine v_goto (pc := 8) (tgt := 36) dX12_told_8 (by decide) ?_
      exact v_iret (pc := 36) dX12_told_36 rfl rfl (Nat.le_of_ble_eq_true rfl) (Nat.le_of_ble_eq_true rfl) ⟨by first | contradiction | simp only [s_told, e2], I, rfl, mJ_rf⟩
abbrev rm_X12_amiss : Room := { frames := 7, cells := 0, slots := 0, locals := 168 }
set_option maxRecDepth 20000 in
theorem c_X12_amiss (G : v_G) (l : Launch) {K : Nat × v_TY} {I : Nat → Nat → Int32} {J : Nat → Nat → Int64} {R : Nat → Nat → Option Nat} (hL : Lay K R) {ww : Int32} {b : BS} {p : List (Nat × Nat × List Nat)} (h : MW I b 9 p) : v_M G l yX12_amiss cX12_amiss 3 (some .int) rm_X12_amiss [.ref 55, .int ww] (K, I, J, R) (v_Qi G (fun (x : Int32) (M' : v_MM) => x = s_amiss b p ww ∧ ∃ I', M' = (K, I', J, R) ∧ mJ I I')) := by
  refine v_of [some (.ref 55), some (.int ww), none] (by decide) (Nat.le_of_ble_eq_true rfl) (Nat.le_of_ble_eq_true rfl) rfl ?_
  refine v_aload_n (pc := 0) dX12_amiss_0 rfl rfl ?_
  refine v_ci (pc := 1) (v_rV (c_X12_layAmiss G l hL h) rfl kV_X12_307 (v_rcO (li_55 hL) rfl (by decide)) ⟨Nat.le_of_ble_eq_true rfl, Nat.le_of_ble_eq_true rfl⟩ ⟨Nat.le_of_ble_eq_true rfl, Nat.le_of_ble_eq_true rfl⟩ dX12_amiss_1 (Nat.le_of_ble_eq_true rfl)) (fun x1 M1 h1 => ?_)
  obtain ⟨rfl, I2, rfl, m2⟩ := h1
  refine v_istore_n (pc := 4) dX12_amiss_4 rfl (by decide) rfl ?_
  rcases x_sw3 ww with rfl | rfl | rfl | ⟨e2, e3⟩
  · refine v_iload_n (pc := 5) dX12_amiss_5 rfl rfl ?_
    refine v_if_neN (pc := 6) (tgt := 16) (by omega) dX12_amiss_6 (by decide) (fun c6 => ?_) (fun c6 => ?_)
    · refine v_iload_n (pc := 16) dX12_amiss_16 rfl rfl ?_
      refine v_iconst (pc := 17) (v := nI 1) dX12_amiss_17 (by decide) ?_
      refine v_icmp_neN (pc := 18) (tgt := 25) ⟨by omega, by omega⟩ dX12_amiss_18 (by decide) (fun c18 => ?_) (fun c18 => ?_)
      · refine v_iload_n (pc := 25) dX12_amiss_25 rfl rfl ?_
        refine v_iconst (pc := 26) (v := nI 2) dX12_amiss_26 (by decide) ?_
        refine v_icmp_neN (pc := 27) (tgt := 37) ⟨by omega, by omega⟩ dX12_amiss_27 (by decide) (fun c27 => ?_) (fun c27 => ?_)
        · refine v_iconst (pc := 37) (v := -1) dX12_amiss_37 (by decide) ?_
          exact v_iret (pc := 38) dX12_amiss_38 rfl rfl (Nat.le_of_ble_eq_true rfl) (Nat.le_of_ble_eq_true rfl) ⟨by first | rfl | omega, I2, rfl, m2.1⟩
        · refine v_aload_n (pc := 30) dX12_amiss_30 rfl rfl ?_
          refine v_getV (pc := 31) fg_X12_93_12 dX12_amiss_31 (li_55 hL) m2.2.2.1 ?_
          refine v_goto (pc := 34) (tgt := 38) dX12_amiss_34 (by decide) ?_
          exact v_iret (pc := 38) dX12_amiss_38 rfl rfl (Nat.le_of_ble_eq_true rfl) (Nat.le_of_ble_eq_true rfl) ⟨by first | rfl | omega, I2, rfl, m2.1⟩
      · refine v_iload_n (pc := 21) dX12_amiss_21 rfl rfl ?_
        refine v_goto (pc := 22) (tgt := 38) dX12_amiss_22 (by decide) ?_
        exact v_iret (pc := 38) dX12_amiss_38 rfl rfl (Nat.le_of_ble_eq_true rfl) (Nat.le_of_ble_eq_true rfl) ⟨by first | rfl | omega, I2, rfl, m2.1⟩
    · refine v_aload_n (pc := 9) dX12_amiss_9 rfl rfl ?_
      refine v_getV (pc := 10) fg_X12_90_12 dX12_amiss_10 (li_55 hL) m2.2.1 ?_
      refine v_goto (pc := 13) (tgt := 38) dX12_amiss_13 (by decide) ?_
      exact v_iret (pc := 38) dX12_amiss_38 rfl rfl (Nat.le_of_ble_eq_true rfl) (Nat.le_of_ble_eq_true rfl) ⟨by first | rfl | omega, I2, rfl, m2.1⟩
  · refine v_iload_n (pc := 5) dX12_amiss_5 rfl rfl ?_
    refine v_if_neN (pc := 6) (tgt := 16) (by omega) dX12_amiss_6 (by decide) (fun c6 => ?_) (fun c6 => ?_)
    · refine v_iload_n (pc := 16) dX12_amiss_16 rfl rfl ?_
      refine v_iconst (pc := 17) (v := nI 1) dX12_amiss_17 (by decide) ?_
      refine v_icmp_neN (pc := 18) (tgt := 25) ⟨by omega, by omega⟩ dX12_amiss_18 (by decide) (fun c18 => ?_) (fun c18 => ?_)
      · refine v_iload_n (pc := 25) dX12_amiss_25 rfl rfl ?_
        refine v_iconst (pc := 26) (v := nI 2) dX12_amiss_26 (by decide) ?_
        refine v_icmp_neN (pc := 27) (tgt := 37) ⟨by omega, by omega⟩ dX12_amiss_27 (by decide) (fun c27 => ?_) (fun c27 => ?_)
        · refine v_iconst (pc := 37) (v := -1) dX12_amiss_37 (by decide) ?_
          exact v_iret (pc := 38) dX12_amiss_38 rfl rfl (Nat.le_of_ble_eq_true rfl) (Nat.le_of_ble_eq_true rfl) ⟨by first | rfl | omega, I2, rfl, m2.1⟩
        · refine v_aload_n (pc := 30) dX12_amiss_30 rfl rfl ?_
          refine v_getV (pc := 31) fg_X12_93_12 dX12_amiss_31 (li_55 hL) m2.2.2.1 ?_
          refine v_goto (pc := 34) (tgt := 38) dX12_amiss_34 (by decide) ?_
          exact v_iret (pc := 38) dX12_amiss_38 rfl rfl (Nat.le_of_ble_eq_true rfl) (Nat.le_of_ble_eq_true rfl) ⟨by first | rfl | omega, I2, rfl, m2.1⟩
      · refine v_iload_n (pc := 21) dX12_amiss_21 rfl rfl ?_
        refine v_goto (pc := 22) (tgt := 38) dX12_amiss_22 (by decide) ?_
        exact v_iret (pc := 38) dX12_amiss_38 rfl rfl (Nat.le_of_ble_eq_true rfl) (Nat.le_of_ble_eq_true rfl) ⟨by first | rfl | omega, I2, rfl, m2.1⟩
    · refine v_aload_n (pc := 9) dX12_amiss_9 rfl rfl ?_
      refine v_getV (pc := 10) fg_X12_90_12 dX12_amiss_10 (li_55 hL) m2.2.1 ?_
      refine v_goto (pc := 13) (tgt := 38) dX12_amiss_13 (by decide) ?_
      exact v_iret (pc := 38) dX12_amiss_38 rfl rfl (Nat.le_of_ble_eq_true rfl) (Nat.le_of_ble_eq_true rfl) ⟨by first | rfl | omega, I2, rfl, m2.1⟩
  · refine v_iload_n (pc := 5) dX12_amiss_5 rfl rfl ?_
    refine v_if_neN (pc := 6) (tgt := 16) (by omega) dX12_amiss_6 (by decide) (fun c6 => ?_) (fun c6 => ?_)
    · refine v_iload_n (pc := 16) dX12_amiss_16 rfl rfl ?_
      refine v_iconst (pc := 17) (v := nI 1) dX12_amiss_17 (by decide) ?_
      refine v_icmp_neN (pc := 18) (tgt := 25) ⟨by omega, by omega⟩ dX12_amiss_18 (by decide) (fun c18 => ?_) (fun c18 => ?_)
      · refine v_iload_n (pc := 25) dX12_amiss_25 rfl rfl ?_
        refine v_iconst (pc := 26) (v := nI 2) dX12_amiss_26 (by decide) ?_
        refine v_icmp_neN (pc := 27) (tgt := 37) ⟨by omega, by omega⟩ dX12_amiss_27 (by decide) (fun c27 => ?_) (fun c27 => ?_)
        · refine v_iconst (pc := 37) (v := -1) dX12_amiss_37 (by decide) ?_
          exact v_iret (pc := 38) dX12_amiss_38 rfl rfl (Nat.le_of_ble_eq_true rfl) (Nat.le_of_ble_eq_true rfl) ⟨by first | rfl | omega, I2, rfl, m2.1⟩
        · refine v_aload_n (pc := 30) dX12_amiss_30 rfl rfl ?_
          refine v_getV (pc := 31) fg_X12_93_12 dX12_amiss_31 (li_55 hL) m2.2.2.1 ?_
          refine v_goto (pc := 34) (tgt := 38) dX12_amiss_34 (by decide) ?_
          exact v_iret (pc := 38) dX12_amiss_38 rfl rfl (Nat.le_of_ble_eq_true rfl) (Nat.le_of_ble_eq_true rfl) ⟨by first | rfl | omega, I2, rfl, m2.1⟩
      · refine v_iload_n (pc := 21) dX12_amiss_21 rfl rfl ?_
        refine v_goto (pc := 22) (tgt := 38) dX12_amiss_22 (by decide) ?_
        exact v_iret (pc := 38) dX12_amiss_38 rfl rfl (Nat.le_of_ble_eq_true rfl) (Nat.le_of_ble_eq_true rfl) ⟨by first | rfl | omega, I2, rfl, m2.1⟩
    · refine v_aload_n (pc := 9) dX12_amiss_9 rfl rfl ?_
      refine v_getV (pc := 10) fg_X12_90_12 dX12_amiss_10 (li_55 hL) m2.2.1 ?_
      refine v_goto (pc := 13) (tgt := 38) dX12_amiss_13 (by decide) ?_
      exact v_iret (pc := 38) dX12_amiss_38 rfl rfl (Nat.le_of_ble_eq_true rfl) (Nat.le_of_ble_eq_true rfl) ⟨by first | rfl | omega, I2, rfl, m2.1⟩
  · have z0 : ¬ ww = 0 := fun z => by subst z; exact absurd e2 (by decide)
    have z1 : ¬ ww = nI 1 := fun z => by subst z; exact absurd e2 (by decide)
    have z2 : ¬ ww = nI 2 := fun z => by subst z; exact absurd e2 (by decide)
    refine v_iload_n (pc := 5) dX12_amiss_5 rfl rfl ?_
    refine v_if_ne (pc := 6) (tgt := 16) dX12_amiss_6 (by decide) (fun c6 => ?_) (fun c6 => ?_)
    · refine v_iload_n (pc := 16) dX12_amiss_16 rfl rfl ?_
      refine v_iconst (pc := 17) (v := nI 1) dX12_amiss_17 (by decide) ?_
      refine v_icmp_ne (pc := 18) (tgt := 25) dX12_amiss_18 (by decide) (fun c18 => ?_) (fun c18 => ?_)
      · refine v_iload_n (pc := 25) dX12_amiss_25 rfl rfl ?_
        refine v_iconst (pc := 26) (v := nI 2) dX12_amiss_26 (by decide) ?_
        refine v_icmp_ne (pc := 27) (tgt := 37) dX12_amiss_27 (by decide) (fun c27 => ?_) (fun c27 => ?_)
        · refine v_iconst (pc := 37) (v := -1) dX12_amiss_37 (by decide) ?_
          exact v_iret (pc := 38) dX12_amiss_38 rfl rfl (Nat.le_of_ble_eq_true rfl) (Nat.le_of_ble_eq_true rfl) ⟨by first | contradiction | simp only [s_amiss, e2], I2, rfl, m2.1⟩
        · refine v_aload_n (pc := 30) dX12_amiss_30 rfl rfl ?_
          refine v_getV (pc := 31) fg_X12_93_12 dX12_amiss_31 (li_55 hL) m2.2.2.1 ?_
          refine v_goto (pc := 34) (tgt := 38) dX12_amiss_34 (by decide) ?_
          exact v_iret (pc := 38) dX12_amiss_38 rfl rfl (Nat.le_of_ble_eq_true rfl) (Nat.le_of_ble_eq_true rfl) ⟨by first | contradiction | simp only [s_amiss, e2], I2, rfl, m2.1⟩
      · refine v_iload_n (pc := 21) dX12_amiss_21 rfl rfl ?_
        refine v_goto (pc := 22) (tgt := 38) dX12_amiss_22 (by decide) ?_
        exact v_iret (pc := 38) dX12_amiss_38 rfl rfl (Nat.le_of_ble_eq_true rfl) (Nat.le_of_ble_eq_true rfl) ⟨by first | contradiction | simp only [s_amiss, e2], I2, rfl, m2.1⟩
    · refine v_aload_n (pc := 9) dX12_amiss_9 rfl rfl ?_
      refine v_getV (pc := 10) fg_X12_90_12 dX12_amiss_10 (li_55 hL) m2.2.1 ?_
      refine v_goto (pc := 13) (tgt := 38) dX12_amiss_13 (by decide) ?_
      exact v_iret (pc := 38) dX12_amiss_38 rfl rfl (Nat.le_of_ble_eq_true rfl) (Nat.le_of_ble_eq_true rfl) ⟨by first | contradiction | simp only [s_amiss, e2], I2, rfl, m2.1⟩
abbrev rm_X12_alls : Room := { frames := 2, cells := 0, slots := 0, locals := 44 }
set_option maxRecDepth 20000 in
theorem c_X12_alls (G : v_G) (l : Launch) {K : Nat × v_TY} {I : Nat → Nat → Int32} {J : Nat → Nat → Int64} {R : Nat → Nat → Option Nat} (hL : Lay K R) {b : BS} {p : List (Nat × Nat × List Nat)} (h : MW I b 9 p) : v_M G l yX12_alls cX12_alls 3 (some .int) rm_X12_alls [.ref 55] (K, I, J, R) (v_Qi G (fun (x : Int32) (M' : v_MM) => x = nI (w_alls (vw b 9 p) (b_n b)) ∧ ∃ I', M' = (K, I', J, R) ∧ mJ I I')) := by
  refine v_of [some (.ref 55), none, none] (by decide) (Nat.le_of_ble_eq_true rfl) (Nat.le_of_ble_eq_true rfl) rfl ?_
  refine v_iconst (pc := 0) (v := nI 0) dX12_alls_0 (by decide) ?_
  refine v_istore_n (pc := 1) dX12_alls_1 rfl (by decide) rfl ?_
  refine v_iconst (pc := 2) (v := nI 0) dX12_alls_2 (by decide) ?_
  refine v_istore_n (pc := 3) dX12_alls_3 rfl (by decide) rfl ?_
  have hn := VBn h.1
  refine v_down (b_n b) (P := fun i => v_V G l yX12_alls cX12_alls 3 (some .int) rm_X12_alls (v_Qi G (fun (x : Int32) (M' : v_MM) => x = nI (w_alls (vw b 9 p) (b_n b)) ∧ ∃ I', M' = (K, I', J, R) ∧ mJ I I')) 0 0 4 [some (.ref 55), some (.int (nI (w_alls (vw b 9 p) i))), some (.int (nI i))] [] (K, I, J, R)) (fun i hi ih => ?_) 0 (by omega)
  refine v_iload_n (pc := 4) dX12_alls_4 rfl rfl ?_
  refine v_aload_n (pc := 5) dX12_alls_5 rfl rfl ?_
  refine v_getV (pc := 6) fg_X12_7_12 dX12_alls_6 (li_55 hL) (MVn h.1) ?_
  refine v_icmp_geN (pc := 9) (tgt := 36) ⟨by omega, by omega⟩ dX12_alls_9 (by decide) (fun c9 => ?_) (fun c9 => ?_)
  · have e : i = b_n b := by omega
    subst e
    refine v_iload_n (pc := 36) dX12_alls_36 rfl rfl ?_
    exact v_iret (pc := 37) dX12_alls_37 rfl rfl (Nat.le_of_ble_eq_true rfl) (Nat.le_of_ble_eq_true rfl) ⟨rfl, I, rfl, mJ_rf⟩
  · refine v_iload_n (pc := 12) dX12_alls_12 rfl rfl ?_
    refine v_aload_n (pc := 13) dX12_alls_13 rfl rfl ?_
    refine v_iload_n (pc := 14) dX12_alls_14 rfl rfl ?_
    refine v_ci (pc := 15) (v_rV (c_X12_isAlls G l hL (q := p) h.1 (by omega) (by omega)) rfl kV_X12_295 (v_rcO (li_55 hL) rfl (by decide)) ⟨Nat.le_of_ble_eq_true rfl, Nat.le_of_ble_eq_true rfl⟩ ⟨Nat.le_of_ble_eq_true rfl, Nat.le_of_ble_eq_true rfl⟩ dX12_alls_15 (Nat.le_of_ble_eq_true rfl)) (fun x15 M15 h15 => ?_)
    obtain ⟨rfl, rfl⟩ := h15
    refine v_if_eqP (pc := 18) (tgt := 27) dX12_alls_18 (by decide) (fun c18 => ?_) (fun c18 => ?_)
    · have es : w_alls (vw b 9 p) (i + 1) = w_alls (vw b 9 p) i := by simp [w_alls, c18]
      refine v_iconst (pc := 27) (v := nI 0) dX12_alls_27 (by decide) ?_
      refine v_ior (pc := 28) dX12_alls_28 ?_
      refine v_top (by first | exact (nx_or _ _).trans (congrArg nI (Nat.or_zero _)) | exact nx_or _ _) ?_
      refine v_istore_n (pc := 29) dX12_alls_29 rfl (by decide) rfl ?_
      refine v_iincN (pc := 30) (b := 1) dX12_alls_30 rfl (by decide) (by decide) rfl ?_
      refine v_goto (pc := 33) (tgt := 4) dX12_alls_33 (by decide) ?_
      have e := ih (i + 1) (by omega) (by omega)
      rw [es] at e
      exact e
    · have es : w_alls (vw b 9 p) (i + 1) = w_alls (vw b 9 p) i ||| 2 ^ i := by simp [w_alls, c18]
      refine v_iconst (pc := 21) (v := nI 1) dX12_alls_21 (by decide) ?_
      refine v_iload_n (pc := 22) dX12_alls_22 rfl rfl ?_
      refine v_ishl (pc := 23) dX12_alls_23 ?_
      refine v_top (v_shl1 i (by omega)) ?_
      refine v_goto (pc := 24) (tgt := 28) dX12_alls_24 (by decide) ?_
      refine v_ior (pc := 28) dX12_alls_28 ?_
      refine v_top (by first | exact (nx_or _ _).trans (congrArg nI (Nat.or_zero _)) | exact nx_or _ _) ?_
      refine v_istore_n (pc := 29) dX12_alls_29 rfl (by decide) rfl ?_
      refine v_iincN (pc := 30) (b := 1) dX12_alls_30 rfl (by decide) (by decide) rfl ?_
      refine v_goto (pc := 33) (tgt := 4) dX12_alls_33 (by decide) ?_
      have e := ih (i + 1) (by omega) (by omega)
      rw [es] at e
      exact e
abbrev rm_X12_first : Room := { frames := 8, cells := 0, slots := 0, locals := 190 }
set_option maxRecDepth 20000 in
theorem c_X12_first (G : v_G) (l : Launch) {K : Nat × v_TY} {I : Nat → Nat → Int32} {J : Nat → Nat → Int64} {R : Nat → Nat → Option Nat} (hL : Lay K R) {ww : Int32} {b : BS} {p : List (Nat × Nat × List Nat)} (h : MW I b 9 p) : v_M G l yX12_first cX12_first 6 (some .int) rm_X12_first [.ref 55, .int ww] (K, I, J, R) (v_Qi G (fun (x : Int32) (M' : v_MM) => x = s_first b p ww ∧ ∃ I', M' = (K, I', J, R) ∧ mJ I I')) := by
  refine v_of [some (.ref 55), some (.int ww), none, none, none, none] (by decide) (Nat.le_of_ble_eq_true rfl) (Nat.le_of_ble_eq_true rfl) rfl ?_
  refine v_aload_n (pc := 0) dX12_first_0 rfl rfl ?_
  refine v_iload_n (pc := 1) dX12_first_1 rfl rfl ?_
  refine v_iconst (pc := 2) (v := nI 0) dX12_first_2 (by decide) ?_
  refine v_iconst (pc := 3) (v := nI 1) dX12_first_3 (by decide) ?_
  refine v_ci (pc := 4) (v_rV (c_X12_in G l hL) rfl kV_X12_197 (v_rcO (li_55 hL) rfl (by decide)) ⟨Nat.le_of_ble_eq_true rfl, Nat.le_of_ble_eq_true rfl⟩ ⟨Nat.le_of_ble_eq_true rfl, Nat.le_of_ble_eq_true rfl⟩ dX12_first_4 (Nat.le_of_ble_eq_true rfl)) (fun x4 M4 h4 => ?_)
  obtain ⟨rfl, rfl⟩ := h4
  refine v_if_neP (pc := 7) (tgt := 12) dX12_first_7 (by decide) (fun c7 => ?_) (fun c7 => ?_)
  · have hw2 := x_two (v_in_iff (by decide) |>.mp c7)
    refine v_bipush (pc := 12) (v := -5) dX12_first_12 (by decide) ?_
    refine v_istore_n (pc := 14) dX12_first_14 rfl (by decide) rfl ?_
    refine v_aload_n (pc := 15) dX12_first_15 rfl rfl ?_
    refine v_ci (pc := 16) (v_rV (c_X12_layAmiss G l hL h) rfl kV_X12_307 (v_rcO (li_55 hL) rfl (by decide)) ⟨Nat.le_of_ble_eq_true rfl, Nat.le_of_ble_eq_true rfl⟩ ⟨Nat.le_of_ble_eq_true rfl, Nat.le_of_ble_eq_true rfl⟩ dX12_first_16 (Nat.le_of_ble_eq_true rfl)) (fun x16 M16 h16 => ?_)
    obtain ⟨rfl, I2, rfl, m2⟩ := h16
    refine v_istore_n (pc := 19) dX12_first_19 rfl (by decide) rfl ?_
    refine v_iconst (pc := 20) (v := nI 0) dX12_first_20 (by decide) ?_
    refine v_istore (pc := 21) dX12_first_21 (by decide) rfl ?_
    have hn := VBn h.1
    have h15 := w_pr_lt (b_n b) (by omega)
    have key : ∀ i, i ≤ w_pr (b_n b) → ∀ (Ii : Nat → Nat → Int32) (z5 : Option Value), mJ I Ii → v_V G l yX12_first cX12_first 6 (some .int) rm_X12_first (v_Qi G (fun (x : Int32) (M' : v_MM) => x = s_first b p ww ∧ ∃ I', M' = (K, I', J, R) ∧ mJ I I')) 0 0 23 [some (.ref 55), some (.int ww), some (.int (w_o (w_fst (w_tr b p) (none, w_many (vw b 9 p)) i).1)), some (.int (nI (w_fst (w_tr b p) (none, w_many (vw b 9 p)) i).2)), some (.int (nI i)), z5] [] (K, Ii, J, R) := by
      refine v_down (w_pr (b_n b)) (fun i hi ih => ?_)
      intro Ii z5 hj
      have hw := MW_J h hj
      refine v_iload (pc := 23) dX12_first_23 rfl ?_
      refine v_aload_n (pc := 25) dX12_first_25 rfl rfl ?_
      refine v_ci (pc := 26) (v_rV (c_X12_pairs G l hL (MVn hw.1) (by omega)) rfl kV_X12_201 (v_rcO (li_55 hL) rfl (by decide)) ⟨Nat.le_of_ble_eq_true rfl, Nat.le_of_ble_eq_true rfl⟩ ⟨Nat.le_of_ble_eq_true rfl, Nat.le_of_ble_eq_true rfl⟩ dX12_first_26 (Nat.le_of_ble_eq_true rfl)) (fun x26 M26 h26 => ?_)
      obtain ⟨rfl, rfl⟩ := h26
      refine v_icmp_geN (pc := 29) (tgt := 61) ⟨by omega, by omega⟩ dX12_first_29 (by decide) (fun c29 => ?_) (fun c29 => ?_)
      · have e : i = w_pr (b_n b) := by omega
        subst e
        show v_V G l _ _ _ _ _ (v_Qi G (fun (x : Int32) (M' : v_MM) => x = s_best (w_fst (w_tr b p) (none, w_many (vw b 9 p)) (w_pr (b_n b))) ww ∧ _)) _ _ _ _ _ _
        have hb := w_fst_k (w_tr b p) (none, w_many (vw b 9 p)) 15 (fun k z => by cases z) (w_pr (b_n b)) h15
        generalize w_fst (w_tr b p) (none, w_many (vw b 9 p)) (w_pr (b_n b)) = z at hb ⊢
        obtain ⟨o, z⟩ := z
        rcases hw2 with rfl | rfl <;> rcases o with - | k
        · refine v_iload_n (pc := 61) dX12_first_61 rfl rfl ?_
          refine v_if_lt (pc := 62) (tgt := 69) dX12_first_62 (by decide) (fun c62 => ?_) (fun c62 => ?_)
          · refine v_iload_n (pc := 69) dX12_first_69 rfl rfl ?_
            refine v_goto (pc := 70) (tgt := 74) dX12_first_70 (by decide) ?_
            exact v_iret (pc := 74) dX12_first_74 rfl rfl (Nat.le_of_ble_eq_true rfl) (Nat.le_of_ble_eq_true rfl) ⟨by first | omega | rfl | exact absurd (show (-5 : Int32) < 0 by decide) c62, Ii, rfl, hj⟩
          · refine v_iload_n (pc := 65) dX12_first_65 rfl rfl ?_
            refine v_if_neN (pc := 66) (tgt := 73) (by omega) dX12_first_66 (by decide) (fun c66 => ?_) (fun c66 => ?_)
            · refine v_iload_n (pc := 73) dX12_first_73 rfl rfl ?_
              exact v_iret (pc := 74) dX12_first_74 rfl rfl (Nat.le_of_ble_eq_true rfl) (Nat.le_of_ble_eq_true rfl) ⟨by first | omega | rfl | exact absurd (show (-5 : Int32) < 0 by decide) c62, Ii, rfl, hj⟩
            · refine v_iload_n (pc := 69) dX12_first_69 rfl rfl ?_
              refine v_goto (pc := 70) (tgt := 74) dX12_first_70 (by decide) ?_
              exact v_iret (pc := 74) dX12_first_74 rfl rfl (Nat.le_of_ble_eq_true rfl) (Nat.le_of_ble_eq_true rfl) ⟨by first | omega | rfl | exact absurd (show (-5 : Int32) < 0 by decide) c62, Ii, rfl, hj⟩
        · have := hb k rfl
          refine v_iload_n (pc := 61) dX12_first_61 rfl rfl ?_
          refine v_if_ltN (pc := 62) (tgt := 69) (by omega) dX12_first_62 (by decide) ?_
          refine v_iload_n (pc := 65) dX12_first_65 rfl rfl ?_
          refine v_if_neN (pc := 66) (tgt := 73) (by omega) dX12_first_66 (by decide) (fun c66 => ?_) (fun c66 => ?_)
          · refine v_iload_n (pc := 73) dX12_first_73 rfl rfl ?_
            exact v_iret (pc := 74) dX12_first_74 rfl rfl (Nat.le_of_ble_eq_true rfl) (Nat.le_of_ble_eq_true rfl) ⟨by first | omega | rfl | exact absurd (show (-5 : Int32) < 0 by decide) c62, Ii, rfl, hj⟩
          · refine v_iload_n (pc := 69) dX12_first_69 rfl rfl ?_
            refine v_goto (pc := 70) (tgt := 74) dX12_first_70 (by decide) ?_
            exact v_iret (pc := 74) dX12_first_74 rfl rfl (Nat.le_of_ble_eq_true rfl) (Nat.le_of_ble_eq_true rfl) ⟨by first | omega | rfl | exact absurd (show (-5 : Int32) < 0 by decide) c62, Ii, rfl, hj⟩
        · refine v_iload_n (pc := 61) dX12_first_61 rfl rfl ?_
          refine v_if_lt (pc := 62) (tgt := 69) dX12_first_62 (by decide) (fun c62 => ?_) (fun c62 => ?_)
          · refine v_iload_n (pc := 69) dX12_first_69 rfl rfl ?_
            refine v_goto (pc := 70) (tgt := 74) dX12_first_70 (by decide) ?_
            exact v_iret (pc := 74) dX12_first_74 rfl rfl (Nat.le_of_ble_eq_true rfl) (Nat.le_of_ble_eq_true rfl) ⟨by first | omega | rfl | exact absurd (show (-5 : Int32) < 0 by decide) c62, Ii, rfl, hj⟩
          · refine v_iload_n (pc := 65) dX12_first_65 rfl rfl ?_
            refine v_if_neN (pc := 66) (tgt := 73) (by omega) dX12_first_66 (by decide) (fun c66 => ?_) (fun c66 => ?_)
            · refine v_iload_n (pc := 73) dX12_first_73 rfl rfl ?_
              exact v_iret (pc := 74) dX12_first_74 rfl rfl (Nat.le_of_ble_eq_true rfl) (Nat.le_of_ble_eq_true rfl) ⟨by first | omega | rfl | exact absurd (show (-5 : Int32) < 0 by decide) c62, Ii, rfl, hj⟩
            · refine v_iload_n (pc := 69) dX12_first_69 rfl rfl ?_
              refine v_goto (pc := 70) (tgt := 74) dX12_first_70 (by decide) ?_
              exact v_iret (pc := 74) dX12_first_74 rfl rfl (Nat.le_of_ble_eq_true rfl) (Nat.le_of_ble_eq_true rfl) ⟨by first | omega | rfl | exact absurd (show (-5 : Int32) < 0 by decide) c62, Ii, rfl, hj⟩
        · have := hb k rfl
          refine v_iload_n (pc := 61) dX12_first_61 rfl rfl ?_
          refine v_if_ltN (pc := 62) (tgt := 69) (by omega) dX12_first_62 (by decide) ?_
          refine v_iload_n (pc := 65) dX12_first_65 rfl rfl ?_
          refine v_if_neN (pc := 66) (tgt := 73) (by omega) dX12_first_66 (by decide) (fun c66 => ?_) (fun c66 => ?_)
          · refine v_iload_n (pc := 73) dX12_first_73 rfl rfl ?_
            exact v_iret (pc := 74) dX12_first_74 rfl rfl (Nat.le_of_ble_eq_true rfl) (Nat.le_of_ble_eq_true rfl) ⟨by first | omega | rfl | exact absurd (show (-5 : Int32) < 0 by decide) c62, Ii, rfl, hj⟩
          · refine v_iload_n (pc := 69) dX12_first_69 rfl rfl ?_
            refine v_goto (pc := 70) (tgt := 74) dX12_first_70 (by decide) ?_
            exact v_iret (pc := 74) dX12_first_74 rfl rfl (Nat.le_of_ble_eq_true rfl) (Nat.le_of_ble_eq_true rfl) ⟨by first | omega | rfl | exact absurd (show (-5 : Int32) < 0 by decide) c62, Ii, rfl, hj⟩
      · refine v_aload_n (pc := 32) dX12_first_32 rfl rfl ?_
        refine v_iload (pc := 33) dX12_first_33 rfl ?_
        refine v_ci (pc := 35) (v_rV (c_X12_amissBy G l hL hw (by omega)) rfl kV_X12_325 (v_rcO (li_55 hL) rfl (by decide)) ⟨Nat.le_of_ble_eq_true rfl, Nat.le_of_ble_eq_true rfl⟩ ⟨Nat.le_of_ble_eq_true rfl, Nat.le_of_ble_eq_true rfl⟩ dX12_first_35 (Nat.le_of_ble_eq_true rfl)) (fun x35 M35 h35 => ?_)
        obtain ⟨rfl, I3, rfl, m3⟩ := h35
        have hlt := w_fst_lt (w_tr b p) (none, w_many (vw b 9 p)) 16 (by have := w_many_lt h.1.2.1 9 p; omega) i (fun k hk => by have := w_many_lt (VB_fp h.1.2.1 (k := k) (by omega)) 9 p; show w_many _ < 16; omega)
        have hmt := w_many_lt (VB_fp h.1.2.1 (k := i) (by omega)) 9 p
        refine v_istore (pc := 38) dX12_first_38 (by decide) rfl ?_
        refine v_iload (pc := 40) dX12_first_40 rfl ?_
        refine v_iload_n (pc := 42) dX12_first_42 rfl rfl ?_
        refine v_icmp_ltN (pc := 43) (tgt := 49) ⟨by omega, by omega⟩ dX12_first_43 (by decide) (fun c43 => ?_) (fun c43 => ?_)
        · have es : w_fst (w_tr b p) (none, w_many (vw b 9 p)) (i + 1) = (some i, w_tr b p i) := if_pos c43
          refine v_iload (pc := 49) dX12_first_49 rfl ?_
          refine v_istore_n (pc := 51) dX12_first_51 rfl (by decide) rfl ?_
          refine v_iload (pc := 52) dX12_first_52 rfl ?_
          refine v_istore_n (pc := 54) dX12_first_54 rfl (by decide) rfl ?_
          refine v_iincN (pc := 55) (b := 1) dX12_first_55 rfl (by decide) (by decide) rfl ?_
          refine v_goto (pc := 58) (tgt := 23) dX12_first_58 (by decide) ?_
          have e := ih (i + 1) (by omega) (by omega) I3 (some (.int (nI (w_many (vw (b_fp b i) 9 p))))) (mJ_tr hj m3)
          rw [es] at e
          exact e
        · have es : w_fst (w_tr b p) (none, w_many (vw b 9 p)) (i + 1) = w_fst (w_tr b p) (none, w_many (vw b 9 p)) i := if_neg (Nat.not_lt.mpr c43)
          refine v_goto (pc := 46) (tgt := 55) dX12_first_46 (by decide) ?_
          refine v_iincN (pc := 55) (b := 1) dX12_first_55 rfl (by decide) (by decide) rfl ?_
          refine v_goto (pc := 58) (tgt := 23) dX12_first_58 (by decide) ?_
          have e := ih (i + 1) (by omega) (by omega) I3 (some (.int (nI (w_many (vw (b_fp b i) 9 p))))) (mJ_tr hj m3)
          rw [es] at e
          exact e
    exact key 0 (by omega) I2 none m2.1
  · have e2 : x_nat ww 2 = none := x_nat_n (fun z => c7 (v_in_iff (by decide) |>.mpr z))
    refine v_iconst (pc := 10) (v := -1) dX12_first_10 (by decide) ?_
    exact v_iret (pc := 11) dX12_first_11 rfl rfl (Nat.le_of_ble_eq_true rfl) (Nat.le_of_ble_eq_true rfl) ⟨by simp only [s_first, s_best, e2], I, rfl, mJ_rf⟩
