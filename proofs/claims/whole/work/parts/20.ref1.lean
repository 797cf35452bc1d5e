/-! THE REFERENCE, its small methods -/
theorem v_inm {p : Int32} {n : Nat} (hn : n < 1000) : (nI 0 ≤ p ∧ p ≤ nI n - nI 1) ↔ vp_in p n := by
  rw [vp_in_iff, Int32.le_iff_toInt_le, Int32.le_iff_toInt_le, nI_toInt (by omega), pk_sub_toInt (by omega) (by omega)]
  constructor
  · rintro ⟨h1, h2⟩; exact ⟨by omega, by omega⟩
  · rintro ⟨h1, h2⟩; exact ⟨by omega, by omega⟩
/-- how many pairs n people are -/
def w_pr (n : Nat) : Nat := n * (n - 1) / 2
theorem w_prI : ∀ n, n < 8 → (nI n * (nI n - nI 1)) / nI 2 = nI (w_pr n) := by decide +kernel
theorem w_pr_lt : ∀ n, n < 7 → w_pr n ≤ 15 := by decide
/-- a pair's greater, lesser number -/
def w_g (p : Nat) : Nat := if p < 1 then 1 else if p < 3 then 2 else if p < 6 then 3 else if p < 10 then 4 else 5
def w_l (p : Nat) : Nat := p - w_g p * (w_g p - 1) / 2
theorem w_g_up : ∀ p, p < 15 → p < w_g p * (w_g p + 1) / 2 := by decide
theorem w_g_lo : ∀ p, p < 15 → ∀ i, i < w_g p → i * (i + 1) / 2 ≤ p := by decide
theorem w_g_in : ∀ p, p < 15 → 1 ≤ w_g p ∧ w_g p ≤ 5 ∧ w_g p * (w_g p - 1) / 2 ≤ p ∧ w_l p < w_g p := by decide
theorem w_g_n : ∀ n, n < 7 → ∀ p, p < w_pr n → w_g p < n := by decide
/-- the number of the pair of a and b -/
def w_po (a b : Nat) : Nat := if a < b then b * (b - 1) / 2 + a else a * (a - 1) / 2 + b
/-- how many of the first n -/
def cnt (f : Nat → Bool) : Nat → Nat
  | 0 => 0
  | k + 1 => cnt f k + if f k then 1 else 0
def sm (f : Nat → Nat) : Nat → Nat
  | 0 => 0
  | k + 1 => sm f k + f k
def al (f : Nat → Bool) : Nat → Bool
  | 0 => true
  | k + 1 => al f k && f k
theorem w_pop : ∀ m, m < 128 → m ≠ 0 → nI m &&& (nI m - nI 1) = nI (m &&& (m - 1)) ∧ m &&& (m - 1) < m ∧ cnt (fun i => (m &&& (m - 1)).testBit i) 7 + 1 = cnt (fun i => m.testBit i) 7 := by decide +kernel
theorem w_bt {m k : Nat} (hk : k < 32) : bt (nI m) k = m.testBit k := by
  unfold bt nI
  show (BitVec.ofNat 32 m).getLsbD k = _
  rw [BitVec.getLsbD_ofNat]
  simp [hk]
abbrev rm_X12_in : Room := { frames := 0, cells := 0, slots := 0, locals := 0 }
set_option maxRecDepth 20000 in
theorem c_X12_in (G : v_G) (l : Launch) {K : Nat × v_TY} {I : Nat → Nat → Int32} {J : Nat → Nat → Int64} {R : Nat → Nat → Option Nat} (hL : Lay K R) {v lo hi : Int32} : v_M G l yX12_in cX12_in 4 (some .boolean) rm_X12_in [.ref 55, .int v, .int lo, .int hi] (K, I, J, R) (v_Qi G (fun (x : Int32) (M' : v_MM) => x = v_p (lo ≤ v ∧ v ≤ hi) ∧ M' = (K, I, J, R))) := by
  refine v_of [some (.ref 55), some (.int v), some (.int lo), some (.int hi)] (by decide) (Nat.le_of_ble_eq_true rfl) (Nat.le_of_ble_eq_true rfl) rfl ?_
  refine v_iload_n (pc := 0) dX12_in_0 rfl rfl ?_
  refine v_iload_n (pc := 1) dX12_in_1 rfl rfl ?_
  refine v_icmp_lt (pc := 2) (tgt := 14) dX12_in_2 (by decide) (fun c2 => ?_) (fun c2 => ?_)
  · refine v_iconst (pc := 14) (v := nI 0) dX12_in_14 (by decide) ?_
    exact v_iret (pc := 15) dX12_in_15 rfl rfl (Nat.le_of_ble_eq_true rfl) (Nat.le_of_ble_eq_true rfl) ⟨by simp only [Int32.lt_iff_toInt_lt, Int32.le_iff_toInt_le, Int32.not_lt, Int32.not_le] at *; first | exact v_pz (by omega) | exact v_po (by omega), rfl⟩
  · refine v_iload_n (pc := 5) dX12_in_5 rfl rfl ?_
    refine v_iload_n (pc := 6) dX12_in_6 rfl rfl ?_
    refine v_icmp_gt (pc := 7) (tgt := 14) dX12_in_7 (by decide) (fun c7 => ?_) (fun c7 => ?_)
    · refine v_iconst (pc := 14) (v := nI 0) dX12_in_14 (by decide) ?_
      exact v_iret (pc := 15) dX12_in_15 rfl rfl (Nat.le_of_ble_eq_true rfl) (Nat.le_of_ble_eq_true rfl) ⟨by simp only [Int32.lt_iff_toInt_lt, Int32.le_iff_toInt_le, Int32.not_lt, Int32.not_le] at *; first | exact v_pz (by omega) | exact v_po (by omega), rfl⟩
    · refine v_iconst (pc := 10) (v := nI 1) dX12_in_10 (by decide) ?_
      refine v_goto (pc := 11) (tgt := 15) dX12_in_11 (by decide) ?_
      exact v_iret (pc := 15) dX12_in_15 rfl rfl (Nat.le_of_ble_eq_true rfl) (Nat.le_of_ble_eq_true rfl) ⟨by simp only [Int32.lt_iff_toInt_lt, Int32.le_iff_toInt_le, Int32.not_lt, Int32.not_le] at *; first | exact v_pz (by omega) | exact v_po (by omega), rfl⟩
abbrev rm_X12_has : Room := { frames := 0, cells := 0, slots := 0, locals := 0 }
set_option maxRecDepth 20000 in
theorem c_X12_has (G : v_G) (l : Launch) {K : Nat × v_TY} {I : Nat → Nat → Int32} {J : Nat → Nat → Int64} {R : Nat → Nat → Option Nat} (hL : Lay K R) {s : Int32} {k : Nat} (hk : k < 32) : v_M G l yX12_has cX12_has 3 (some .boolean) rm_X12_has [.ref 55, .int s, .int (nI k)] (K, I, J, R) (v_Qi G (fun (x : Int32) (M' : v_MM) => x = v_p (bt s k = true) ∧ M' = (K, I, J, R))) := by
  refine v_of [some (.ref 55), some (.int s), some (.int (nI k))] (by decide) (Nat.le_of_ble_eq_true rfl) (Nat.le_of_ble_eq_true rfl) rfl ?_
  refine v_iload_n (pc := 0) dX12_has_0 rfl rfl ?_
  refine v_iload_n (pc := 1) dX12_has_1 rfl rfl ?_
  refine v_ishr (pc := 2) dX12_has_2 ?_
  refine v_iconst (pc := 3) (v := nI 1) dX12_has_3 (by decide) ?_
  refine v_iand (pc := 4) dX12_has_4 ?_
  refine v_iconst (pc := 5) (v := nI 1) dX12_has_5 (by decide) ?_
  refine v_icmp_ne (pc := 6) (tgt := 13) dX12_has_6 (by decide) (fun c6 => ?_) (fun c6 => ?_)
  · refine v_iconst (pc := 13) (v := nI 0) dX12_has_13 (by decide) ?_
    exact v_iret (pc := 14) dX12_has_14 rfl rfl (Nat.le_of_ble_eq_true rfl) (Nat.le_of_ble_eq_true rfl) ⟨by first | exact v_pz (fun q => c6 ((v_hasI hk).mpr q)) | exact v_po ((v_hasI hk).mp (Classical.not_not.mp c6)) | exact v_po ((v_hasI hk).mp c6), rfl⟩
  · refine v_iconst (pc := 9) (v := nI 1) dX12_has_9 (by decide) ?_
    refine v_goto (pc := 10) (tgt := 14) dX12_has_10 (by decide) ?_
    exact v_iret (pc := 14) dX12_has_14 rfl rfl (Nat.le_of_ble_eq_true rfl) (Nat.le_of_ble_eq_true rfl) ⟨by first | exact v_pz (fun q => c6 ((v_hasI hk).mpr q)) | exact v_po ((v_hasI hk).mp (Classical.not_not.mp c6)) | exact v_po ((v_hasI hk).mp c6), rfl⟩
abbrev rm_X12_ones : Room := { frames := 0, cells := 0, slots := 0, locals := 0 }
set_option maxRecDepth 20000 in
theorem c_X12_ones (G : v_G) (l : Launch) {K : Nat × v_TY} {I : Nat → Nat → Int32} {J : Nat → Nat → Int64} {R : Nat → Nat → Option Nat} (hL : Lay K R) {s : Nat} (hs : s < 128) : v_M G l yX12_ones cX12_ones 4 (some .int) rm_X12_ones [.ref 55, .int (nI s)] (K, I, J, R) (v_Qi G (fun (x : Int32) (M' : v_MM) => x = nI (cnt (fun i => s.testBit i) 7) ∧ M' = (K, I, J, R))) := by
  refine v_of [some (.ref 55), some (.int (nI s)), none, none] (by decide) (Nat.le_of_ble_eq_true rfl) (Nat.le_of_ble_eq_true rfl) rfl ?_
  refine v_iconst (pc := 0) (v := nI 0) dX12_ones_0 (by decide) ?_
  refine v_istore_n (pc := 1) dX12_ones_1 rfl (by decide) rfl ?_
  refine v_iload_n (pc := 2) dX12_ones_2 rfl rfl ?_
  refine v_istore_n (pc := 3) dX12_ones_3 rfl (by decide) rfl ?_
  refine (v_meas (σ := Nat × Nat) (fun q => q.2) (P := fun q => q.2 < 128 → q.1 + cnt (fun i => q.2.testBit i) 7 = cnt (fun i => s.testBit i) 7 → v_V G l yX12_ones cX12_ones 4 (some .int) rm_X12_ones (v_Qi G (fun (x : Int32) (M' : v_MM) => x = nI (cnt (fun i => s.testBit i) 7) ∧ M' = (K, I, J, R))) 0 0 4 [some (.ref 55), some (.int (nI s)), some (.int (nI q.1)), some (.int (nI q.2))] [] (K, I, J, R)) (fun q ih => ?_) (0, s)) hs (Nat.zero_add _)
  obtain ⟨a, b⟩ := q
  intro hb hc
  dsimp only at hb hc ih ⊢
  refine v_iload_n (pc := 4) dX12_ones_4 rfl rfl ?_
  refine v_if_eqN (pc := 5) (tgt := 20) (by omega) dX12_ones_5 (by decide) (fun c5 => ?_) (fun c5 => ?_)
  · refine v_iload_n (pc := 20) dX12_ones_20 rfl rfl ?_
    exact v_iret (pc := 21) dX12_ones_21 rfl rfl (Nat.le_of_ble_eq_true rfl) (Nat.le_of_ble_eq_true rfl) ⟨by rw [← hc, c5]; rfl, rfl⟩
  · refine v_iincN (pc := 8) (b := 1) dX12_ones_8 rfl (by decide) (by decide) rfl ?_
    refine v_iload_n (pc := 11) dX12_ones_11 rfl rfl ?_
    refine v_iload_n (pc := 12) dX12_ones_12 rfl rfl ?_
    refine v_iconst (pc := 13) (v := nI 1) dX12_ones_13 (by decide) ?_
    refine v_isub (pc := 14) dX12_ones_14 ?_
    refine v_iand (pc := 15) dX12_ones_15 ?_
    refine v_top (w_pop b hb c5).1 ?_
    refine v_istore_n (pc := 16) dX12_ones_16 rfl (by decide) rfl ?_
    refine v_goto (pc := 17) (tgt := 4) dX12_ones_17 (by decide) ?_
    exact ih (a + 1, b &&& (b - 1)) (w_pop b hb c5).2.1 (Nat.lt_trans (w_pop b hb c5).2.1 hb) (by have := (w_pop b hb c5).2.2; show a + 1 + cnt (fun i => (b &&& (b - 1)).testBit i) 7 = _; omega)
abbrev rm_X12_isPerson : Room := { frames := 1, cells := 0, slots := 0, locals := 23 }
set_option maxRecDepth 20000 in
theorem c_X12_isPerson (G : v_G) (l : Launch) {K : Nat × v_TY} {I : Nat → Nat → Int32} {J : Nat → Nat → Int64} {R : Nat → Nat → Option Nat} (hL : Lay K R) {p : Int32} {n : Nat} (hn : I 55 0 = nI n) (hn7 : n < 8) : v_M G l yX12_isPerson cX12_isPerson 2 (some .boolean) rm_X12_isPerson [.ref 55, .int p] (K, I, J, R) (v_Qi G (fun (x : Int32) (M' : v_MM) => x = v_p (vp_in p n) ∧ M' = (K, I, J, R))) := by
  refine v_of [some (.ref 55), some (.int p)] (by decide) (Nat.le_of_ble_eq_true rfl) (Nat.le_of_ble_eq_true rfl) rfl ?_
  refine v_aload_n (pc := 0) dX12_isPerson_0 rfl rfl ?_
  refine v_iload_n (pc := 1) dX12_isPerson_1 rfl rfl ?_
  refine v_iconst (pc := 2) (v := nI 0) dX12_isPerson_2 (by decide) ?_
  refine v_aload_n (pc := 3) dX12_isPerson_3 rfl rfl ?_
  refine v_getV (pc := 4) fg_X12_7_12 dX12_isPerson_4 (li_55 hL) hn ?_
  refine v_iconst (pc := 7) (v := nI 1) dX12_isPerson_7 (by decide) ?_
  refine v_isub (pc := 8) dX12_isPerson_8 ?_
  refine v_ci (pc := 9) (v_rV (c_X12_in G l hL) rfl kV_X12_197 (v_rcO (li_55 hL) rfl (by decide)) ⟨Nat.le_of_ble_eq_true rfl, Nat.le_of_ble_eq_true rfl⟩ ⟨Nat.le_of_ble_eq_true rfl, Nat.le_of_ble_eq_true rfl⟩ dX12_isPerson_9 (Nat.le_of_ble_eq_true rfl)) (fun x9 M9 h9 => ?_)
  obtain ⟨rfl, rfl⟩ := h9
  exact v_iret (pc := 12) dX12_isPerson_12 rfl (v_p_z rfl) (Nat.le_of_ble_eq_true rfl) (Nat.le_of_ble_eq_true rfl) ⟨v_p_c (v_inm (by omega)), rfl⟩
abbrev rm_X12_pairs : Room := { frames := 0, cells := 0, slots := 0, locals := 0 }
set_option maxRecDepth 20000 in
theorem c_X12_pairs (G : v_G) (l : Launch) {K : Nat × v_TY} {I : Nat → Nat → Int32} {J : Nat → Nat → Int64} {R : Nat → Nat → Option Nat} (hL : Lay K R) {n : Nat} (hn : I 55 0 = nI n) (hn7 : n < 8) : v_M G l yX12_pairs cX12_pairs 1 (some .int) rm_X12_pairs [.ref 55] (K, I, J, R) (v_Qi G (fun (x : Int32) (M' : v_MM) => x = nI (w_pr n) ∧ M' = (K, I, J, R))) := by
  refine v_of [some (.ref 55)] (by decide) (Nat.le_of_ble_eq_true rfl) (Nat.le_of_ble_eq_true rfl) rfl ?_
  refine v_aload_n (pc := 0) dX12_pairs_0 rfl rfl ?_
  refine v_getV (pc := 1) fg_X12_7_12 dX12_pairs_1 (li_55 hL) hn ?_
  refine v_aload_n (pc := 4) dX12_pairs_4 rfl rfl ?_
  refine v_getV (pc := 5) fg_X12_7_12 dX12_pairs_5 (li_55 hL) hn ?_
  refine v_iconst (pc := 8) (v := nI 1) dX12_pairs_8 (by decide) ?_
  refine v_isub (pc := 9) dX12_pairs_9 ?_
  refine v_imul (pc := 10) dX12_pairs_10 ?_
  refine v_iconst (pc := 11) (v := nI 2) dX12_pairs_11 (by decide) ?_
  refine v_idiv (pc := 12) dX12_pairs_12 (by decide) ?_
  exact v_iret (pc := 13) dX12_pairs_13 rfl rfl (Nat.le_of_ble_eq_true rfl) (Nat.le_of_ble_eq_true rfl) ⟨w_prI n hn7, rfl⟩
abbrev rm_X12_isPair : Room := { frames := 1, cells := 0, slots := 0, locals := 23 }
set_option maxRecDepth 20000 in
theorem c_X12_isPair (G : v_G) (l : Launch) {K : Nat × v_TY} {I : Nat → Nat → Int32} {J : Nat → Nat → Int64} {R : Nat → Nat → Option Nat} (hL : Lay K R) {p : Int32} {n : Nat} (hn : I 55 0 = nI n) (hn7 : n < 7) : v_M G l yX12_isPair cX12_isPair 2 (some .boolean) rm_X12_isPair [.ref 55, .int p] (K, I, J, R) (v_Qi G (fun (x : Int32) (M' : v_MM) => x = v_p (vp_in p (w_pr n)) ∧ M' = (K, I, J, R))) := by
  refine v_of [some (.ref 55), some (.int p)] (by decide) (Nat.le_of_ble_eq_true rfl) (Nat.le_of_ble_eq_true rfl) rfl ?_
  refine v_aload_n (pc := 0) dX12_isPair_0 rfl rfl ?_
  refine v_iload_n (pc := 1) dX12_isPair_1 rfl rfl ?_
  refine v_iconst (pc := 2) (v := nI 0) dX12_isPair_2 (by decide) ?_
  refine v_aload_n (pc := 3) dX12_isPair_3 rfl rfl ?_
  refine v_ci (pc := 4) (v_rV (c_X12_pairs G l hL hn (by omega)) rfl kV_X12_201 (v_rcO (li_55 hL) rfl (by decide)) ⟨Nat.le_of_ble_eq_true rfl, Nat.le_of_ble_eq_true rfl⟩ ⟨Nat.le_of_ble_eq_true rfl, Nat.le_of_ble_eq_true rfl⟩ dX12_isPair_4 (Nat.le_of_ble_eq_true rfl)) (fun x4 M4 h4 => ?_)
  obtain ⟨rfl, rfl⟩ := h4
  refine v_iconst (pc := 7) (v := nI 1) dX12_isPair_7 (by decide) ?_
  refine v_isub (pc := 8) dX12_isPair_8 ?_
  refine v_ci (pc := 9) (v_rV (c_X12_in G l hL) rfl kV_X12_197 (v_rcO (li_55 hL) rfl (by decide)) ⟨Nat.le_of_ble_eq_true rfl, Nat.le_of_ble_eq_true rfl⟩ ⟨Nat.le_of_ble_eq_true rfl, Nat.le_of_ble_eq_true rfl⟩ dX12_isPair_9 (Nat.le_of_ble_eq_true rfl)) (fun x9 M9 h9 => ?_)
  obtain ⟨rfl, rfl⟩ := h9
  exact v_iret (pc := 12) dX12_isPair_12 rfl (v_p_z rfl) (Nat.le_of_ble_eq_true rfl) (Nat.le_of_ble_eq_true rfl) ⟨v_p_c (v_inm (by have := w_pr_lt n hn7; omega)), rfl⟩
abbrev rm_X12_pairOf : Room := { frames := 0, cells := 0, slots := 0, locals := 0 }
set_option maxRecDepth 20000 in
theorem c_X12_pairOf (G : v_G) (l : Launch) {K : Nat × v_TY} {I : Nat → Nat → Int32} {J : Nat → Nat → Int64} {R : Nat → Nat → Option Nat} (hL : Lay K R) {a b : Nat} (hab : a < 7 ∧ b < 7 ∧ a ≠ b) : v_M G l yX12_pairOf cX12_pairOf 3 (some .int) rm_X12_pairOf [.ref 55, .int (nI a), .int (nI b)] (K, I, J, R) (v_Qi G (fun (x : Int32) (M' : v_MM) => x = nI (w_po a b) ∧ M' = (K, I, J, R))) := by
  refine v_of [some (.ref 55), some (.int (nI a)), some (.int (nI b))] (by decide) (Nat.le_of_ble_eq_true rfl) (Nat.le_of_ble_eq_true rfl) rfl ?_
  refine v_iload_n (pc := 0) dX12_pairOf_0 rfl rfl ?_
  refine v_iload_n (pc := 1) dX12_pairOf_1 rfl rfl ?_
  refine v_icmp_geN (pc := 2) (tgt := 17) ⟨by omega, by omega⟩ dX12_pairOf_2 (by decide) (fun c2 => ?_) (fun c2 => ?_)
  · refine v_iload_n (pc := 17) dX12_pairOf_17 rfl rfl ?_
    refine v_iload_n (pc := 18) dX12_pairOf_18 rfl rfl ?_
    refine v_iconst (pc := 19) (v := nI 1) dX12_pairOf_19 (by decide) ?_
    refine v_isubN (pc := 20) (by omega) dX12_pairOf_20 ?_
    refine v_imulN (pc := 21) dX12_pairOf_21 ?_
    refine v_iconst (pc := 22) (v := nI 2) dX12_pairOf_22 (by decide) ?_
    refine v_idivN (pc := 23) (Nat.lt_of_le_of_lt (Nat.mul_le_mul (show _ ≤ 7 by omega) (show _ ≤ 7 by omega)) (by decide)) (by decide) (by decide) dX12_pairOf_23 ?_
    refine v_iload_n (pc := 24) dX12_pairOf_24 rfl rfl ?_
    refine v_iaddN (pc := 25) dX12_pairOf_25 ?_
    exact v_iret (pc := 26) dX12_pairOf_26 rfl rfl (Nat.le_of_ble_eq_true rfl) (Nat.le_of_ble_eq_true rfl) ⟨by unfold w_po; first | rw [if_pos c2] | rw [if_neg (Nat.not_lt.mpr c2)], rfl⟩
  · refine v_iload_n (pc := 5) dX12_pairOf_5 rfl rfl ?_
    refine v_iload_n (pc := 6) dX12_pairOf_6 rfl rfl ?_
    refine v_iconst (pc := 7) (v := nI 1) dX12_pairOf_7 (by decide) ?_
    refine v_isubN (pc := 8) (by omega) dX12_pairOf_8 ?_
    refine v_imulN (pc := 9) dX12_pairOf_9 ?_
    refine v_iconst (pc := 10) (v := nI 2) dX12_pairOf_10 (by decide) ?_
    refine v_idivN (pc := 11) (Nat.lt_of_le_of_lt (Nat.mul_le_mul (show _ ≤ 7 by omega) (show _ ≤ 7 by omega)) (by decide)) (by decide) (by decide) dX12_pairOf_11 ?_
    refine v_iload_n (pc := 12) dX12_pairOf_12 rfl rfl ?_
    refine v_iaddN (pc := 13) dX12_pairOf_13 ?_
    refine v_goto (pc := 14) (tgt := 26) dX12_pairOf_14 (by decide) ?_
    exact v_iret (pc := 26) dX12_pairOf_26 rfl rfl (Nat.le_of_ble_eq_true rfl) (Nat.le_of_ble_eq_true rfl) ⟨by unfold w_po; first | rw [if_pos c2] | rw [if_neg (Nat.not_lt.mpr c2)], rfl⟩
abbrev rm_X12_greaterOf : Room := { frames := 0, cells := 0, slots := 0, locals := 0 }
set_option maxRecDepth 20000 in
theorem c_X12_greaterOf (G : v_G) (l : Launch) {K : Nat × v_TY} {I : Nat → Nat → Int32} {J : Nat → Nat → Int64} {R : Nat → Nat → Option Nat} (hL : Lay K R) {p : Nat} (hp : p < 15) : v_M G l yX12_greaterOf cX12_greaterOf 3 (some .int) rm_X12_greaterOf [.ref 55, .int (nI p)] (K, I, J, R) (v_Qi G (fun (x : Int32) (M' : v_MM) => x = nI (w_g p) ∧ M' = (K, I, J, R))) := by
  refine v_of [some (.ref 55), some (.int (nI p)), none] (by decide) (Nat.le_of_ble_eq_true rfl) (Nat.le_of_ble_eq_true rfl) rfl ?_
  refine v_iconst (pc := 0) (v := nI 1) dX12_greaterOf_0 (by decide) ?_
  refine v_istore_n (pc := 1) dX12_greaterOf_1 rfl (by decide) rfl ?_
  have hg := w_g_in p hp
  refine v_down (w_g p) (P := fun b => 1 ≤ b → v_V G l yX12_greaterOf cX12_greaterOf 3 (some .int) rm_X12_greaterOf (v_Qi G (fun (x : Int32) (M' : v_MM) => x = nI (w_g p) ∧ M' = (K, I, J, R))) 0 0 2 [some (.ref 55), some (.int (nI p)), some (.int (nI b))] [] (K, I, J, R)) (fun b hb ih => ?_) 1 hg.1 (Nat.le_refl 1)
  intro hb1
  refine v_iload_n (pc := 2) dX12_greaterOf_2 rfl rfl ?_
  refine v_iload_n (pc := 3) dX12_greaterOf_3 rfl rfl ?_
  refine v_iconst (pc := 4) (v := nI 1) dX12_greaterOf_4 (by decide) ?_
  refine v_iaddN (pc := 5) dX12_greaterOf_5 ?_
  refine v_imulN (pc := 6) dX12_greaterOf_6 ?_
  refine v_iconst (pc := 7) (v := nI 2) dX12_greaterOf_7 (by decide) ?_
  refine v_idivN (pc := 8) (Nat.lt_of_le_of_lt (Nat.mul_le_mul (show _ ≤ 5 by omega) (show _ ≤ 6 by omega)) (by decide)) (by decide) (by decide) dX12_greaterOf_8 ?_
  refine v_iload_n (pc := 9) dX12_greaterOf_9 rfl rfl ?_
  refine v_icmp_gtN (pc := 10) (tgt := 19) ⟨Nat.lt_of_le_of_lt (Nat.div_le_self _ _) (Nat.lt_of_le_of_lt (Nat.mul_le_mul (show _ ≤ 5 by omega) (show _ ≤ 6 by omega)) (by decide)), by omega⟩ dX12_greaterOf_10 (by decide) (fun c10 => ?_) (fun c10 => ?_)
  · have hbe : b = w_g p := by
      rcases Nat.lt_or_ge b (w_g p) with z | z
      · have := w_g_lo p hp b z; omega
      · omega
    subst hbe
    refine v_iload_n (pc := 19) dX12_greaterOf_19 rfl rfl ?_
    exact v_iret (pc := 20) dX12_greaterOf_20 rfl rfl (Nat.le_of_ble_eq_true rfl) (Nat.le_of_ble_eq_true rfl) ⟨rfl, rfl⟩
  · have hlt : b < w_g p := by
      rcases Nat.lt_or_ge b (w_g p) with z | z
      · exact z
      · have e : b = w_g p := by omega
        subst e
        have := w_g_up p hp; omega
    refine v_iincN (pc := 13) (b := 1) dX12_greaterOf_13 rfl (by decide) (by decide) rfl ?_
    refine v_goto (pc := 16) (tgt := 2) dX12_greaterOf_16 (by decide) ?_
    exact ih (b + 1) (by omega) (by omega) (by omega)
abbrev rm_X12_lesserOf : Room := { frames := 1, cells := 0, slots := 0, locals := 22 }
set_option maxRecDepth 20000 in
theorem c_X12_lesserOf (G : v_G) (l : Launch) {K : Nat × v_TY} {I : Nat → Nat → Int32} {J : Nat → Nat → Int64} {R : Nat → Nat → Option Nat} (hL : Lay K R) {p : Nat} (hp : p < 15) : v_M G l yX12_lesserOf cX12_lesserOf 2 (some .int) rm_X12_lesserOf [.ref 55, .int (nI p)] (K, I, J, R) (v_Qi G (fun (x : Int32) (M' : v_MM) => x = nI (w_l p) ∧ M' = (K, I, J, R))) := by
  refine v_of [some (.ref 55), some (.int (nI p))] (by decide) (Nat.le_of_ble_eq_true rfl) (Nat.le_of_ble_eq_true rfl) rfl ?_
  have hg := w_g_in p hp
  refine v_iload_n (pc := 0) dX12_lesserOf_0 rfl rfl ?_
  refine v_aload_n (pc := 1) dX12_lesserOf_1 rfl rfl ?_
  refine v_iload_n (pc := 2) dX12_lesserOf_2 rfl rfl ?_
  refine v_ci (pc := 3) (v_rV (c_X12_greaterOf G l hL (by omega)) rfl kV_X12_205 (v_rcO (li_55 hL) rfl (by decide)) ⟨Nat.le_of_ble_eq_true rfl, Nat.le_of_ble_eq_true rfl⟩ ⟨Nat.le_of_ble_eq_true rfl, Nat.le_of_ble_eq_true rfl⟩ dX12_lesserOf_3 (Nat.le_of_ble_eq_true rfl)) (fun x3 M3 h3 => ?_)
  obtain ⟨rfl, rfl⟩ := h3
  refine v_aload_n (pc := 6) dX12_lesserOf_6 rfl rfl ?_
  refine v_iload_n (pc := 7) dX12_lesserOf_7 rfl rfl ?_
  refine v_ci (pc := 8) (v_rV (c_X12_greaterOf G l hL (by omega)) rfl kV_X12_205 (v_rcO (li_55 hL) rfl (by decide)) ⟨Nat.le_of_ble_eq_true rfl, Nat.le_of_ble_eq_true rfl⟩ ⟨Nat.le_of_ble_eq_true rfl, Nat.le_of_ble_eq_true rfl⟩ dX12_lesserOf_8 (Nat.le_of_ble_eq_true rfl)) (fun x8 M8 h8 => ?_)
  obtain ⟨rfl, rfl⟩ := h8
  refine v_iconst (pc := 11) (v := nI 1) dX12_lesserOf_11 (by decide) ?_
  refine v_isubN (pc := 12) (by omega) dX12_lesserOf_12 ?_
  refine v_imulN (pc := 13) dX12_lesserOf_13 ?_
  refine v_iconst (pc := 14) (v := nI 2) dX12_lesserOf_14 (by decide) ?_
  refine v_idivN (pc := 15) (Nat.lt_of_le_of_lt (Nat.mul_le_mul (show _ ≤ 5 by omega) (show _ ≤ 5 by omega)) (by decide)) (by decide) (by decide) dX12_lesserOf_15 ?_
  refine v_isubN (pc := 16) hg.2.2.1 dX12_lesserOf_16 ?_
  exact v_iret (pc := 17) dX12_lesserOf_17 rfl rfl (Nat.le_of_ble_eq_true rfl) (Nat.le_of_ble_eq_true rfl) ⟨rfl, rfl⟩
