/-! THE CLASS: a village's cells (handle h: 1 now, 11 image, 21 trial), its leaves -/
def VH (K : Nat × v_TY) (R : Nat → Nat → Option Nat) (h : Nat) : Prop := v_is K h 9 0 ∧ (v_is K (h + 1) 17 6 ∧ v_is K (h + 2) 14 6 ∧ v_is K (h + 3) 14 24 ∧ v_is K (h + 4) 14 6 ∧ v_is K (h + 5) 14 6 ∧ v_is K (h + 6) 14 6 ∧ v_is K (h + 7) 14 12 ∧ v_is K (h + 8) 14 12 ∧ v_is K (h + 9) 14 6) ∧ (R h 4 = some (h + 1) ∧ R h 5 = some (h + 2) ∧ R h 6 = some (h + 3) ∧ R h 7 = some (h + 4) ∧ R h 9 = some (h + 5) ∧ R h 10 = some (h + 6) ∧ R h 12 = some (h + 7) ∧ R h 13 = some (h + 8) ∧ R h 14 = some (h + 9))
def v_3 (h : Nat) : Prop := h = 1 ∨ h = 11 ∨ h = 21
theorem VH_of {K : Nat × v_TY} {R : Nat → Nat → Option Nat} {h : Nat} (hL : Lay K R) (hh : v_3 h) : VH K R h := by
  rcases hh with rfl | rfl | rfl
  · exact ⟨li_1 hL, ⟨li_2 hL, li_3 hL, li_4 hL, li_5 hL, li_6 hL, li_7 hL, li_8 hL, li_9 hL, li_10 hL⟩, lr_1_4 hL, lr_1_5 hL, lr_1_6 hL, lr_1_7 hL, lr_1_9 hL, lr_1_10 hL, lr_1_12 hL, lr_1_13 hL, lr_1_14 hL⟩
  · exact ⟨li_11 hL, ⟨li_12 hL, li_13 hL, li_14 hL, li_15 hL, li_16 hL, li_17 hL, li_18 hL, li_19 hL, li_20 hL⟩, lr_11_4 hL, lr_11_5 hL, lr_11_6 hL, lr_11_7 hL, lr_11_9 hL, lr_11_10 hL, lr_11_12 hL, lr_11_13 hL, lr_11_14 hL⟩
  · exact ⟨li_21 hL, ⟨li_22 hL, li_23 hL, li_24 hL, li_25 hL, li_26 hL, li_27 hL, li_28 hL, li_29 hL, li_30 hL⟩, lr_21_4 hL, lr_21_5 hL, lr_21_6 hL, lr_21_7 hL, lr_21_9 hL, lr_21_10 hL, lr_21_12 hL, lr_21_13 hL, lr_21_14 hL⟩
/-- the class's village: base, who is there -/
def CB0 (I : Nat → Nat → Int32) (h : Nat) (b : BS) (hm : Nat) : Prop := I h 0 = nI (b_n b) ∧ I h 1 = nI hm ∧ I h 2 = nI (b_y b) ∧ (∀ i, i < 6 → I (h + 2) i = nI (b_m b i)) ∧ ∀ j, j < 24 → I (h + 3) j = nI (b_r b j)
def HM (b : BS) (hm : Nat) : Prop := hm < 64 ∧ ∀ j, hm.testBit j = true → j < b_n b
def c_vw (b : BS) (hm : Nat) (p : CLS) : VW := (b_n b, fun j => hm.testBit j, fun i j => (b_m b i).testBit j, b_k b, b_v b, b_r b, b_y b, p)
def s_tie (ar : Bool) (m j : Nat) : Nat := if ar = true then m ||| 2 ^ j else m &&& (127 - 2 ^ j)
theorem s_tie_x : ∀ m, m < 64 → ∀ j, j < 6 → s_tie (!m.testBit j) m j = m ^^^ 2 ^ j := by decide +kernel
theorem s_tie_lt : ∀ m, m < 64 → ∀ j, j < 6 → ∀ ar, s_tie ar m j < 64 := by decide +kernel
theorem s_tie_b : ∀ m, m < 64 → ∀ j, j < 6 → ∀ ar : Bool, ∀ i, i < 7 → (s_tie ar m j).testBit i = if i = j then ar else m.testBit i := by decide +kernel
def cK (h : Nat) (I I' : Nat → Nat → Int32) (b : BS) : Prop := (∀ x z, x ≠ h + 2 → I' x z = I x z) ∧ ∀ i, i < 6 → I' (h + 2) i = nI (b_m b i)
theorem cnt15 {m : Nat} (h : m < 64) : cnt (fun i => m.testBit i) 15 = cnt (fun i => m.testBit i) 7 := by
  have e : ∀ j, 6 ≤ j → m.testBit j = false := fun j hj => Nat.testBit_lt_two_pow (Nat.lt_of_lt_of_le h (Nat.pow_le_pow_right (n := 2) (by decide) hj))
  rw [show 15 = 7 + 8 from rfl, cnt_sp]
  have : cnt (fun i => m.testBit (7 + i)) 8 = cnt (fun _ => false) 8 := cnt_c (fun i _ => e _ (by omega))
  rw [this]; rfl
theorem w_all_m {b : BS} {hm : Nat} {p : CLS} (hH : HM b hm) (hb : VB b) {i : Nat} (hi : i < 6) : hm &&& (127 - 2 ^ i) &&& b_m b i = hm &&& (127 - 2 ^ i) ↔ w_all (c_vw b hm p) i = true := by
  unfold w_all
  rw [al_iff]
  have hbit : ∀ j, j < 7 → (hm &&& (127 - 2 ^ i)).testBit j = (hm.testBit j && decide (j ≠ i)) := fun j hj => by rw [Nat.testBit_and, w_cm i (by omega) j hj]
  constructor
  · intro h j hj
    show (decide (j = i) || !hm.testBit j || (b_m b i).testBit j) = true
    have hn := hb.1
    have e := congrArg (fun z => z.testBit j) h
    simp only [Nat.testBit_and] at e
    rw [w_cm i (by omega) j (by have : j < b_n b := hj; omega)] at e
    by_cases c1 : j = i
    · simp [c1]
    · by_cases c2 : hm.testBit j = true
      · simp [c1, c2] at e ⊢; exact e
      · simp [c2]
  · intro h
    apply Nat.eq_of_testBit_eq
    intro j
    rw [Nat.testBit_and, Nat.testBit_and]
    by_cases c2 : hm.testBit j = true
    · have hj := hH.2 j c2
      have e : (decide (j = i) || !hm.testBit j || (b_m b i).testBit j) = true := h j hj
      rw [w_cm i (by omega) j (by have := hb.1; omega)]
      by_cases c1 : j = i
      · simp [c1]
      · simp [c1, c2] at e; simp [e]
    · simp only [Bool.not_eq_true] at c2; simp [c2]
abbrev rm_X9_hasPerson : Room := { frames := 0, cells := 0, slots := 0, locals := 0 }
set_option maxRecDepth 20000 in
theorem c_X9_hasPerson (G : v_G) (l : Launch) {K : Nat × v_TY} {I : Nat → Nat → Int32} {J : Nat → Nat → Int64} {R : Nat → Nat → Option Nat} (hL : Lay K R) {h : Nat} (hh : v_3 h) {pp : Int32} {n : Nat} (hn : I h 0 = nI n) (hn7 : n < 8) : v_M G l yX9_hasPerson cX9_hasPerson 2 (some .boolean) rm_X9_hasPerson [.ref h, .int pp] (K, I, J, R) (v_Qi G (fun (x : Int32) (M' : v_MM) => x = v_p (vp_in pp n) ∧ M' = (K, I, J, R))) := by
  refine v_of [some (.ref h), some (.int pp)] (by decide) (Nat.le_of_ble_eq_true rfl) (Nat.le_of_ble_eq_true rfl) rfl ?_
  have hV := VH_of hL hh
  refine v_iload_n (pc := 0) dX9_hasPerson_0 rfl rfl ?_
  refine v_if_lt (pc := 1) (tgt := 16) dX9_hasPerson_1 (by decide) (fun c1 => ?_) (fun c1 => ?_)
  · refine v_iconst (pc := 16) (v := nI 0) dX9_hasPerson_16 (by decide) ?_
    exact v_iret (pc := 17) dX9_hasPerson_17 rfl rfl (Nat.le_of_ble_eq_true rfl) (Nat.le_of_ble_eq_true rfl) ⟨by first | exact v_pz (fun q => ((v_ltI (by omega)).mpr q).1 c1) | exact v_pz (fun q => ((v_ltI (by omega)).mpr q).2 c9) | exact v_po ((v_ltI (by omega)).mp ⟨c1, c9⟩), rfl⟩
  · refine v_iload_n (pc := 4) dX9_hasPerson_4 rfl rfl ?_
    refine v_aload_n (pc := 5) dX9_hasPerson_5 rfl rfl ?_
    refine v_getV (pc := 6) fg_X9_52_9 dX9_hasPerson_6 hV.1 hn ?_
    refine v_icmp_ge (pc := 9) (tgt := 16) dX9_hasPerson_9 (by decide) (fun c9 => ?_) (fun c9 => ?_)
    · refine v_iconst (pc := 16) (v := nI 0) dX9_hasPerson_16 (by decide) ?_
      exact v_iret (pc := 17) dX9_hasPerson_17 rfl rfl (Nat.le_of_ble_eq_true rfl) (Nat.le_of_ble_eq_true rfl) ⟨by first | exact v_pz (fun q => ((v_ltI (by omega)).mpr q).1 c1) | exact v_pz (fun q => ((v_ltI (by omega)).mpr q).2 c9) | exact v_po ((v_ltI (by omega)).mp ⟨c1, c9⟩), rfl⟩
    · refine v_iconst (pc := 12) (v := nI 1) dX9_hasPerson_12 (by decide) ?_
      refine v_goto (pc := 13) (tgt := 17) dX9_hasPerson_13 (by decide) ?_
      exact v_iret (pc := 17) dX9_hasPerson_17 rfl rfl (Nat.le_of_ble_eq_true rfl) (Nat.le_of_ble_eq_true rfl) ⟨by first | exact v_pz (fun q => ((v_ltI (by omega)).mpr q).1 c1) | exact v_pz (fun q => ((v_ltI (by omega)).mpr q).2 c9) | exact v_po ((v_ltI (by omega)).mp ⟨c1, c9⟩), rfl⟩
abbrev rm_X9_personAt : Room := { frames := 1, cells := 0, slots := 0, locals := 21 }
set_option maxRecDepth 20000 in
theorem c_X9_personAt (G : v_G) (l : Launch) {K : Nat × v_TY} {I : Nat → Nat → Int32} {J : Nat → Nat → Int64} {R : Nat → Nat → Option Nat} (hL : Lay K R) {h : Nat} (hh : v_3 h) {pp : Int32} {n : Nat} (hn : I h 0 = nI n) (hn7 : n < 7) (hp : ∀ i, i < n → ∃ a, R (h + 1) i = some a) : v_M G l yX9_personAt cX9_personAt 2 (some (.object "OneFriend$Person")) rm_X9_personAt [.ref h, .int pp] (K, I, J, R) (v_Qr G (fun (r : Option Nat) (M' : v_MM) => ((x_nat pp n = none ∧ r = none ∧ M' = (K, I, J, R)) ∨ (∃ i a, i < n ∧ pp = nI i ∧ x_nat pp n = some i ∧ R (h + 1) i = some a ∧ r = some a ∧ M' = (K, I, J, R))))) := by
  refine v_of [some (.ref h), some (.int pp)] (by decide) (Nat.le_of_ble_eq_true rfl) (Nat.le_of_ble_eq_true rfl) rfl ?_
  have hV := VH_of hL hh
  refine v_aload_n (pc := 0) dX9_personAt_0 rfl rfl ?_
  refine v_iload_n (pc := 1) dX9_personAt_1 rfl rfl ?_
  refine v_ci (pc := 2) (v_rV (c_X9_hasPerson G l hL hh hn (by omega)) rfl kV_X9_78 (v_rcO hV.1 rfl (by decide)) ⟨Nat.le_of_ble_eq_true rfl, Nat.le_of_ble_eq_true rfl⟩ ⟨Nat.le_of_ble_eq_true rfl, Nat.le_of_ble_eq_true rfl⟩ dX9_personAt_2 (Nat.le_of_ble_eq_true rfl)) (fun x2 M2 h2 => ?_)
  obtain ⟨rfl, rfl⟩ := h2
  refine v_if_eqP (pc := 5) (tgt := 17) dX9_personAt_5 (by decide) (fun c5 => ?_) (fun c5 => ?_)
  · refine v_aconst_null (pc := 17) dX9_personAt_17 ?_
    exact v_aretN (pc := 18) dX9_personAt_18 rfl (Nat.le_of_ble_eq_true rfl) (Nat.le_of_ble_eq_true rfl) (by first | exact Or.inl ⟨x_nat_n c5, rfl, rfl⟩ | exact Or.inr ⟨i, a, hi, rfl, e1, ha, rfl, rfl⟩)
  · obtain ⟨i, hi, rfl, e1⟩ := x_nat_i c5 (by omega)
    obtain ⟨a, ha⟩ := hp i hi
    refine v_aload_n (pc := 8) dX9_personAt_8 rfl rfl ?_
    refine v_getH (pc := 9) fg_X9_11_9 dX9_personAt_9 hV.1 hV.2.2.1 ?_
    refine v_iload_n (pc := 12) dX9_personAt_12 rfl rfl ?_
    refine v_aaloadNH (pc := 13) dX9_personAt_13 hV.2.1.1 (Or.inl rfl) ⟨by omega, by omega⟩ ha ?_
    refine v_goto (pc := 14) (tgt := 18) dX9_personAt_14 (by decide) ?_
    exact v_aretH (pc := 18) dX9_personAt_18 rfl (Nat.le_of_ble_eq_true rfl) (Nat.le_of_ble_eq_true rfl) (by first | exact Or.inl ⟨x_nat_n c5, rfl, rfl⟩ | exact Or.inr ⟨i, a, hi, rfl, e1, ha, rfl, rfl⟩)
abbrev rm_X9_areTied : Room := { frames := 1, cells := 0, slots := 0, locals := 21 }
set_option maxRecDepth 20000 in
theorem c_X9_areTied (G : v_G) (l : Launch) {K : Nat × v_TY} {I : Nat → Nat → Int32} {J : Nat → Nat → Int64} {R : Nat → Nat → Option Nat} (hL : Lay K R) {h : Nat} (hh : v_3 h) {a c m : Nat} (hm : I (h + 2) a = nI m) (ha : a < 6 ∧ c < 32) : v_M G l yX9_areTied cX9_areTied 3 (some .boolean) rm_X9_areTied [.ref h, .int (nI a), .int (nI c)] (K, I, J, R) (v_Qi G (fun (x : Int32) (M' : v_MM) => x = v_p (m.testBit c = true) ∧ M' = (K, I, J, R))) := by
  refine v_of [some (.ref h), some (.int (nI a)), some (.int (nI c))] (by decide) (Nat.le_of_ble_eq_true rfl) (Nat.le_of_ble_eq_true rfl) rfl ?_
  have hV := VH_of hL hh
  refine v_aload_n (pc := 0) dX9_areTied_0 rfl rfl ?_
  refine v_getH (pc := 1) fg_X9_17_9 dX9_areTied_1 hV.1 hV.2.2.2.1 ?_
  refine v_iload_n (pc := 4) dX9_areTied_4 rfl rfl ?_
  refine v_ialoadN (pc := 5) dX9_areTied_5 hV.2.1.2.1 ⟨by omega, by omega⟩ hm ?_
  refine v_iload_n (pc := 6) dX9_areTied_6 rfl rfl ?_
  refine v_ci (pc := 7) (v_rSN (c_X11_hasBit G l (by omega)) rfl kSN_X9_82 ⟨Nat.le_of_ble_eq_true rfl, Nat.le_of_ble_eq_true rfl⟩ ⟨Nat.le_of_ble_eq_true rfl, Nat.le_of_ble_eq_true rfl⟩ dX9_areTied_7 (Nat.le_of_ble_eq_true rfl)) (fun x7 M7 h7 => ?_)
  obtain ⟨rfl, rfl⟩ := h7
  exact v_iret (pc := 10) dX9_areTied_10 rfl (v_p_z rfl) (Nat.le_of_ble_eq_true rfl) (Nat.le_of_ble_eq_true rfl) ⟨by rw [w_bt (by omega)], rfl⟩
abbrev rm_X9_tie : Room := { frames := 0, cells := 0, slots := 0, locals := 0 }
set_option maxRecDepth 20000 in
theorem c_X9_tie (G : v_G) (l : Launch) {K : Nat × v_TY} {I : Nat → Nat → Int32} {J : Nat → Nat → Int64} {R : Nat → Nat → Option Nat} (hL : Lay K R) {h : Nat} (hh : v_3 h) {a c : Nat} {ar : Bool} {km : Nat → Nat} (hm : ∀ i, i < 6 → I (h + 2) i = nI (km i)) (h64 : ∀ i, km i < 64) (ha : a < 6 ∧ c < 6 ∧ a ≠ c) : v_M G l yX9_tie cX9_tie 4 none rm_X9_tie [.ref h, .int (nI a), .int (nI c), .int (v_p (ar = true))] (K, I, J, R) (v_Qv G (fun (M' : v_MM) => M' = (K, v_u (v_u I (h + 2) a (nI (s_tie ar (km a) c))) (h + 2) c (nI (s_tie ar (km c) a)), J, R))) := by
  refine v_of [some (.ref h), some (.int (nI a)), some (.int (nI c)), some (.int (v_p (ar = true)))] (by decide) (Nat.le_of_ble_eq_true rfl) (Nat.le_of_ble_eq_true rfl) rfl ?_
  have hV := VH_of hL hh
  refine v_iload_n (pc := 0) dX9_tie_0 rfl rfl ?_
  refine v_if_eqP (pc := 1) (tgt := 31) dX9_tie_1 (by decide) (fun c1 => ?_) (fun c1 => ?_)
  · have es : ∀ m j, s_tie ar m j = m &&& (127 - 2 ^ j) := fun m j => if_neg c1
    refine v_aload_n (pc := 31) dX9_tie_31 rfl rfl ?_
    refine v_getH (pc := 32) fg_X9_17_9 dX9_tie_32 hV.1 hV.2.2.2.1 ?_
    refine v_iload_n (pc := 35) dX9_tie_35 rfl rfl ?_
    refine v_dup2 (pc := 36) dX9_tie_36 rfl rfl ?_
    refine v_ialoadN (pc := 37) dX9_tie_37 hV.2.1.2.1 ⟨by omega, by omega⟩ (hm a (by omega)) ?_
    refine v_iconst (pc := 38) (v := nI 1) dX9_tie_38 (by decide) ?_
    refine v_iload_n (pc := 39) dX9_tie_39 rfl rfl ?_
    refine v_ishl (pc := 40) dX9_tie_40 ?_
    refine v_top (v_shl1 c (by omega)) ?_
    refine v_iconst (pc := 41) (v := -1) dX9_tie_41 (by decide) ?_
    refine v_ixor (pc := 42) dX9_tie_42 ?_
    refine v_iand (pc := 43) dX9_tie_43 ?_
    refine v_top (w_clr _ (Nat.lt_trans (h64 a) (by decide)) _ (by omega)) ?_
    refine v_iastoreN (pc := 44) dX9_tie_44 hV.2.1.2.1 ⟨by omega, by omega⟩ ?_
    refine v_aload_n (pc := 45) dX9_tie_45 rfl rfl ?_
    refine v_getH (pc := 46) fg_X9_17_9 dX9_tie_46 hV.1 hV.2.2.2.1 ?_
    refine v_iload_n (pc := 49) dX9_tie_49 rfl rfl ?_
    refine v_dup2 (pc := 50) dX9_tie_50 rfl rfl ?_
    refine v_ialoadN (pc := 51) dX9_tie_51 hV.2.1.2.1 ⟨by omega, by omega⟩ ((v_u_k (by omega)).trans (hm c (by omega))) ?_
    refine v_iconst (pc := 52) (v := nI 1) dX9_tie_52 (by decide) ?_
    refine v_iload_n (pc := 53) dX9_tie_53 rfl rfl ?_
    refine v_ishl (pc := 54) dX9_tie_54 ?_
    refine v_top (v_shl1 a (by omega)) ?_
    refine v_iconst (pc := 55) (v := -1) dX9_tie_55 (by decide) ?_
    refine v_ixor (pc := 56) dX9_tie_56 ?_
    refine v_iand (pc := 57) dX9_tie_57 ?_
    refine v_top (w_clr _ (Nat.lt_trans (h64 c) (by decide)) _ (by omega)) ?_
    refine v_iastoreN (pc := 58) dX9_tie_58 hV.2.1.2.1 ⟨by omega, by omega⟩ ?_
    exact v_vret (pc := 59) dX9_tie_59 rfl (Nat.le_of_ble_eq_true rfl) (Nat.le_of_ble_eq_true rfl) (by rw [es, es])
  · have es : ∀ m j, s_tie ar m j = m ||| 2 ^ j := fun m j => if_pos c1
    refine v_aload_n (pc := 4) dX9_tie_4 rfl rfl ?_
    refine v_getH (pc := 5) fg_X9_17_9 dX9_tie_5 hV.1 hV.2.2.2.1 ?_
    refine v_iload_n (pc := 8) dX9_tie_8 rfl rfl ?_
    refine v_dup2 (pc := 9) dX9_tie_9 rfl rfl ?_
    refine v_ialoadN (pc := 10) dX9_tie_10 hV.2.1.2.1 ⟨by omega, by omega⟩ (hm a (by omega)) ?_
    refine v_iconst (pc := 11) (v := nI 1) dX9_tie_11 (by decide) ?_
    refine v_iload_n (pc := 12) dX9_tie_12 rfl rfl ?_
    refine v_ishl (pc := 13) dX9_tie_13 ?_
    refine v_top (v_shl1 c (by omega)) ?_
    refine v_ior (pc := 14) dX9_tie_14 ?_
    refine v_top (nx_or _ _) ?_
    refine v_iastoreN (pc := 15) dX9_tie_15 hV.2.1.2.1 ⟨by omega, by omega⟩ ?_
    refine v_aload_n (pc := 16) dX9_tie_16 rfl rfl ?_
    refine v_getH (pc := 17) fg_X9_17_9 dX9_tie_17 hV.1 hV.2.2.2.1 ?_
    refine v_iload_n (pc := 20) dX9_tie_20 rfl rfl ?_
    refine v_dup2 (pc := 21) dX9_tie_21 rfl rfl ?_
    refine v_ialoadN (pc := 22) dX9_tie_22 hV.2.1.2.1 ⟨by omega, by omega⟩ ((v_u_k (by omega)).trans (hm c (by omega))) ?_
    refine v_iconst (pc := 23) (v := nI 1) dX9_tie_23 (by decide) ?_
    refine v_iload_n (pc := 24) dX9_tie_24 rfl rfl ?_
    refine v_ishl (pc := 25) dX9_tie_25 ?_
    refine v_top (v_shl1 a (by omega)) ?_
    refine v_ior (pc := 26) dX9_tie_26 ?_
    refine v_top (nx_or _ _) ?_
    refine v_iastoreN (pc := 27) dX9_tie_27 hV.2.1.2.1 ⟨by omega, by omega⟩ ?_
    refine v_goto (pc := 28) (tgt := 59) dX9_tie_28 (by decide) ?_
    exact v_vret (pc := 59) dX9_tie_59 rfl (Nat.le_of_ble_eq_true rfl) (Nat.le_of_ble_eq_true rfl) (by rw [es, es])
abbrev rm_X9_friendsOf : Room := { frames := 1, cells := 0, slots := 0, locals := 20 }
set_option maxRecDepth 20000 in
theorem c_X9_friendsOf (G : v_G) (l : Launch) {K : Nat × v_TY} {I : Nat → Nat → Int32} {J : Nat → Nat → Int64} {R : Nat → Nat → Option Nat} (hL : Lay K R) {h : Nat} (hh : v_3 h) {a m : Nat} (hm : I (h + 2) a = nI m) (ha : a < 6 ∧ m < 64) : v_M G l yX9_friendsOf cX9_friendsOf 2 (some .int) rm_X9_friendsOf [.ref h, .int (nI a)] (K, I, J, R) (v_Qi G (fun (x : Int32) (M' : v_MM) => x = nI (cnt (fun i => m.testBit i) 7) ∧ M' = (K, I, J, R))) := by
  refine v_of [some (.ref h), some (.int (nI a))] (by decide) (Nat.le_of_ble_eq_true rfl) (Nat.le_of_ble_eq_true rfl) rfl ?_
  have hV := VH_of hL hh
  refine v_aload_n (pc := 0) dX9_friendsOf_0 rfl rfl ?_
  refine v_getH (pc := 1) fg_X9_17_9 dX9_friendsOf_1 hV.1 hV.2.2.2.1 ?_
  refine v_iload_n (pc := 4) dX9_friendsOf_4 rfl rfl ?_
  refine v_ialoadN (pc := 5) dX9_friendsOf_5 hV.2.1.2.1 ⟨by omega, by omega⟩ hm ?_
  refine v_ci (pc := 6) (v_rS (c_J6_bitCount_0f7a4 G l (by omega)) rfl kS_X9_86 ⟨Nat.le_of_ble_eq_true rfl, Nat.le_of_ble_eq_true rfl⟩ ⟨Nat.le_of_ble_eq_true rfl, Nat.le_of_ble_eq_true rfl⟩ dX9_friendsOf_6 (Nat.le_of_ble_eq_true rfl)) (fun x6 M6 h6 => ?_)
  obtain ⟨rfl, rfl⟩ := h6
  exact v_iret (pc := 9) dX9_friendsOf_9 rfl rfl (Nat.le_of_ble_eq_true rfl) (Nat.le_of_ble_eq_true rfl) ⟨by rw [cnt15 ha.2], rfl⟩
abbrev rm_X9_isEverybodys : Room := { frames := 0, cells := 0, slots := 0, locals := 0 }
set_option maxRecDepth 20000 in
theorem c_X9_isEverybodys (G : v_G) (l : Launch) {K : Nat × v_TY} {I : Nat → Nat → Int32} {J : Nat → Nat → Int64} {R : Nat → Nat → Option Nat} (hL : Lay K R) {h : Nat} (hh : v_3 h) {i : Nat} {b : BS} {hm : Nat} (hC : CB0 I h b hm) (hB : VB b) (hH : HM b hm) (p : CLS) (hi : i < 6) : v_M G l yX9_isEverybodys cX9_isEverybodys 3 (some .boolean) rm_X9_isEverybodys [.ref h, .int (nI i)] (K, I, J, R) (v_Qi G (fun (x : Int32) (M' : v_MM) => x = v_p (w_all (c_vw b hm p) i = true) ∧ M' = (K, I, J, R))) := by
  refine v_of [some (.ref h), some (.int (nI i)), none] (by decide) (Nat.le_of_ble_eq_true rfl) (Nat.le_of_ble_eq_true rfl) rfl ?_
  have hV := VH_of hL hh
  have h64 := hB.2.2.2.2.1 i
  have hH64 := hH.1
  refine v_aload_n (pc := 0) dX9_isEverybodys_0 rfl rfl ?_
  refine v_getV (pc := 1) fg_X9_56_9 dX9_isEverybodys_1 hV.1 hC.2.1 ?_
  refine v_iconst (pc := 4) (v := nI 1) dX9_isEverybodys_4 (by decide) ?_
  refine v_iload_n (pc := 5) dX9_isEverybodys_5 rfl rfl ?_
  refine v_ishl (pc := 6) dX9_isEverybodys_6 ?_
  refine v_top (v_shl1 i (by omega)) ?_
  refine v_iconst (pc := 7) (v := -1) dX9_isEverybodys_7 (by decide) ?_
  refine v_ixor (pc := 8) dX9_isEverybodys_8 ?_
  refine v_iand (pc := 9) dX9_isEverybodys_9 ?_
  refine v_top (w_clr _ (by omega) _ (by omega)) ?_
  refine v_istore_n (pc := 10) dX9_isEverybodys_10 rfl (by decide) rfl ?_
  refine v_iload_n (pc := 11) dX9_isEverybodys_11 rfl rfl ?_
  refine v_aload_n (pc := 12) dX9_isEverybodys_12 rfl rfl ?_
  refine v_getH (pc := 13) fg_X9_17_9 dX9_isEverybodys_13 hV.1 hV.2.2.2.1 ?_
  refine v_iload_n (pc := 16) dX9_isEverybodys_16 rfl rfl ?_
  refine v_ialoadN (pc := 17) dX9_isEverybodys_17 hV.2.1.2.1 ⟨by omega, by omega⟩ (hC.2.2.2.1 i (by omega)) ?_
  refine v_iand (pc := 18) dX9_isEverybodys_18 ?_
  refine v_top (nx_and _ _) ?_
  refine v_iload_n (pc := 19) dX9_isEverybodys_19 rfl rfl ?_
  refine v_icmp_neN (pc := 20) (tgt := 27) ⟨Nat.lt_of_le_of_lt Nat.and_le_right (by omega), Nat.lt_of_le_of_lt Nat.and_le_left (by omega)⟩ dX9_isEverybodys_20 (by decide) (fun c20 => ?_) (fun c20 => ?_)
  · refine v_iconst (pc := 27) (v := nI 0) dX9_isEverybodys_27 (by decide) ?_
    exact v_iret (pc := 28) dX9_isEverybodys_28 rfl rfl (Nat.le_of_ble_eq_true rfl) (Nat.le_of_ble_eq_true rfl) ⟨by first | exact v_pz (fun q => c20 ((w_all_m hH hB hi).mpr q)) | exact v_po ((w_all_m hH hB hi).mp c20), rfl⟩
  · refine v_iconst (pc := 23) (v := nI 1) dX9_isEverybodys_23 (by decide) ?_
    refine v_goto (pc := 24) (tgt := 28) dX9_isEverybodys_24 (by decide) ?_
    exact v_iret (pc := 28) dX9_isEverybodys_28 rfl rfl (Nat.le_of_ble_eq_true rfl) (Nat.le_of_ble_eq_true rfl) ⟨by first | exact v_pz (fun q => c20 ((w_all_m hH hB hi).mpr q)) | exact v_po ((w_all_m hH hB hi).mp c20), rfl⟩
abbrev rm_X9_toldOf : Room := { frames := 0, cells := 0, slots := 0, locals := 0 }
set_option maxRecDepth 20000 in
theorem c_X9_toldOf (G : v_G) (l : Launch) {K : Nat × v_TY} {I : Nat → Nat → Int32} {J : Nat → Nat → Int64} {R : Nat → Nat → Option Nat} (hL : Lay K R) {h : Nat} (hh : v_3 h) {i : Nat} {b : BS} {hm : Nat} (hC : CB0 I h b hm) (hB : VB b) (hi : i < 6) : v_M G l yX9_toldOf cX9_toldOf 2 (some .int) rm_X9_toldOf [.ref h, .int (nI i)] (K, I, J, R) (v_Qi G (fun (x : Int32) (M' : v_MM) => x = nI (b_r b (4 * i + b_y b % 4)) ∧ M' = (K, I, J, R))) := by
  refine v_of [some (.ref h), some (.int (nI i))] (by decide) (Nat.le_of_ble_eq_true rfl) (Nat.le_of_ble_eq_true rfl) rfl ?_
  have hV := VH_of hL hh
  have hy := hB.2.1
  refine v_aload_n (pc := 0) dX9_toldOf_0 rfl rfl ?_
  refine v_getH (pc := 1) fg_X9_21_9 dX9_toldOf_1 hV.1 hV.2.2.2.2.1 ?_
  refine v_iload_n (pc := 4) dX9_toldOf_4 rfl rfl ?_
  refine v_iconst (pc := 5) (v := nI 4) dX9_toldOf_5 (by decide) ?_
  refine v_imulN (pc := 6) dX9_toldOf_6 ?_
  refine v_aload_n (pc := 7) dX9_toldOf_7 rfl rfl ?_
  refine v_getV (pc := 8) fg_X9_59_9 dX9_toldOf_8 hV.1 hC.2.2.1 ?_
  refine v_iconst (pc := 11) (v := nI 4) dX9_toldOf_11 (by decide) ?_
  refine v_iremN (pc := 12) (by omega) (by omega) (by omega) dX9_toldOf_12 ?_
  refine v_iaddN (pc := 13) dX9_toldOf_13 ?_
  refine v_ialoadN (pc := 14) dX9_toldOf_14 hV.2.1.2.2.1 ⟨by omega, by omega⟩ (show I (h + 3) (i * 4 + b_y b % 4) = nI (b_r b (4 * i + b_y b % 4)) by rw [Nat.mul_comm i 4]; exact hC.2.2.2.2 _ (by omega)) ?_
  exact v_iret (pc := 15) dX9_toldOf_15 rfl rfl (Nat.le_of_ble_eq_true rfl) (Nat.le_of_ble_eq_true rfl) ⟨rfl, rfl⟩
abbrev rm_X9_withFriends : Room := { frames := 1, cells := 0, slots := 0, locals := 21 }
set_option maxRecDepth 20000 in
theorem c_X9_withFriends (G : v_G) (l : Launch) {K : Nat × v_TY} {I : Nat → Nat → Int32} {J : Nat → Nat → Int64} {R : Nat → Nat → Option Nat} (hL : Lay K R) {h : Nat} (hh : v_3 h) {S : Nat} {b : BS} {hm : Nat} (hC : CB0 I h b hm) (hB : VB b) (hS : S < 64) : v_M G l yX9_withFriends cX9_withFriends 4 (some .int) rm_X9_withFriends [.ref h, .int (nI S)] (K, I, J, R) (v_Qi G (fun (x : Int32) (M' : v_MM) => x = nI (w_grow (b_m b) S (b_n b)) ∧ M' = (K, I, J, R))) := by
  refine v_of [some (.ref h), some (.int (nI S)), none, none] (by decide) (Nat.le_of_ble_eq_true rfl) (Nat.le_of_ble_eq_true rfl) rfl ?_
  have hV := VH_of hL hh
  have hn6 := hB.1
  refine v_iload_n (pc := 0) dX9_withFriends_0 rfl rfl ?_
  refine v_istore_n (pc := 1) dX9_withFriends_1 rfl (by decide) rfl ?_
  refine v_iconst (pc := 2) (v := nI 0) dX9_withFriends_2 (by decide) ?_
  refine v_istore_n (pc := 3) dX9_withFriends_3 rfl (by decide) rfl ?_
  have key : ∀ i, i ≤ b_n b → v_V G l yX9_withFriends cX9_withFriends 4 (some .int) rm_X9_withFriends (v_Qi G (fun (x : Int32) (M' : v_MM) => x = nI (w_grow (b_m b) S (b_n b)) ∧ M' = (K, I, J, R))) 0 0 4 [some (.ref h), some (.int (nI S)), some (.int (nI (w_grow (b_m b) S i))), some (.int (nI i))] [] (K, I, J, R) := by
    refine v_down (b_n b) (fun i hi ih => ?_)
    have hg := w_grow_lt (fun i => hB.2.2.2.2.1 i) hS i
    refine v_iload_n (pc := 4) dX9_withFriends_4 rfl rfl ?_
    refine v_aload_n (pc := 5) dX9_withFriends_5 rfl rfl ?_
    refine v_getV (pc := 6) fg_X9_52_9 dX9_withFriends_6 hV.1 hC.1 ?_
    refine v_icmp_geN (pc := 9) (tgt := 35) ⟨by omega, by omega⟩ dX9_withFriends_9 (by decide) (fun c9 => ?_) (fun c9 => ?_)
    · refine v_iload_n (pc := 35) dX9_withFriends_35 rfl rfl ?_
      exact v_iret (pc := 36) dX9_withFriends_36 rfl rfl (Nat.le_of_ble_eq_true rfl) (Nat.le_of_ble_eq_true rfl) ⟨by rw [show b_n b = i by omega], rfl⟩
    · refine v_iload_n (pc := 12) dX9_withFriends_12 rfl rfl ?_
      refine v_iload_n (pc := 13) dX9_withFriends_13 rfl rfl ?_
      refine v_ci (pc := 14) (v_rSN (c_X11_hasBit G l (by omega)) rfl kSN_X9_82 ⟨Nat.le_of_ble_eq_true rfl, Nat.le_of_ble_eq_true rfl⟩ ⟨Nat.le_of_ble_eq_true rfl, Nat.le_of_ble_eq_true rfl⟩ dX9_withFriends_14 (Nat.le_of_ble_eq_true rfl)) (fun x14 M14 h14 => ?_)
      obtain ⟨rfl, rfl⟩ := h14
      refine v_if_eqP (pc := 17) (tgt := 29) dX9_withFriends_17 (by decide) (fun c17 => ?_) (fun c17 => ?_)
      · rw [w_bt (by omega)] at c17
        refine v_iincN (pc := 29) (b := 1) dX9_withFriends_29 rfl (by decide) (by decide) rfl ?_
        refine v_goto (pc := 32) (tgt := 4) dX9_withFriends_32 (by decide) ?_
        have e := ih (i + 1) (by omega) (by omega)
        have eg : w_grow (b_m b) S (i + 1) = if S.testBit i = true then w_grow (b_m b) S i ||| b_m b i else w_grow (b_m b) S i := rfl
        rw [eg] at e
        first
          | (rw [if_pos c17] at e; exact e)
          | (rw [if_neg c17] at e; exact e)
      · rw [w_bt (by omega)] at c17
        refine v_iload_n (pc := 20) dX9_withFriends_20 rfl rfl ?_
        refine v_aload_n (pc := 21) dX9_withFriends_21 rfl rfl ?_
        refine v_getH (pc := 22) fg_X9_17_9 dX9_withFriends_22 hV.1 hV.2.2.2.1 ?_
        refine v_iload_n (pc := 25) dX9_withFriends_25 rfl rfl ?_
        refine v_ialoadN (pc := 26) dX9_withFriends_26 hV.2.1.2.1 ⟨by omega, by omega⟩ (hC.2.2.2.1 i (by omega)) ?_
        refine v_ior (pc := 27) dX9_withFriends_27 ?_
        refine v_top (nx_or _ _) ?_
        refine v_istore_n (pc := 28) dX9_withFriends_28 rfl (by decide) rfl ?_
        refine v_iincN (pc := 29) (b := 1) dX9_withFriends_29 rfl (by decide) (by decide) rfl ?_
        refine v_goto (pc := 32) (tgt := 4) dX9_withFriends_32 (by decide) ?_
        have e := ih (i + 1) (by omega) (by omega)
        have eg : w_grow (b_m b) S (i + 1) = if S.testBit i = true then w_grow (b_m b) S i ||| b_m b i else w_grow (b_m b) S i := rfl
        rw [eg] at e
        first
          | (rw [if_pos c17] at e; exact e)
          | (rw [if_neg c17] at e; exact e)
  exact key 0 (Nat.zero_le _)
abbrev rm_X9_pairCount : Room := { frames := 0, cells := 0, slots := 0, locals := 0 }
set_option maxRecDepth 20000 in
theorem c_X9_pairCount (G : v_G) (l : Launch) {K : Nat × v_TY} {I : Nat → Nat → Int32} {J : Nat → Nat → Int64} {R : Nat → Nat → Option Nat} (hL : Lay K R) {h : Nat} (hh : v_3 h) {n : Nat} (hn : I h 0 = nI n) (hn7 : n < 7) : v_M G l yX9_pairCount cX9_pairCount 1 (some .int) rm_X9_pairCount [.ref h] (K, I, J, R) (v_Qi G (fun (x : Int32) (M' : v_MM) => x = nI (w_pr n) ∧ M' = (K, I, J, R))) := by
  refine v_of [some (.ref h)] (by decide) (Nat.le_of_ble_eq_true rfl) (Nat.le_of_ble_eq_true rfl) rfl ?_
  have hV := VH_of hL hh
  refine v_aload_n (pc := 0) dX9_pairCount_0 rfl rfl ?_
  refine v_getV (pc := 1) fg_X9_52_9 dX9_pairCount_1 hV.1 hn ?_
  refine v_aload_n (pc := 4) dX9_pairCount_4 rfl rfl ?_
  refine v_getV (pc := 5) fg_X9_52_9 dX9_pairCount_5 hV.1 hn ?_
  refine v_iconst (pc := 8) (v := nI 1) dX9_pairCount_8 (by decide) ?_
  refine v_isub (pc := 9) dX9_pairCount_9 ?_
  refine v_imul (pc := 10) dX9_pairCount_10 ?_
  refine v_iconst (pc := 11) (v := nI 2) dX9_pairCount_11 (by decide) ?_
  refine v_idiv (pc := 12) dX9_pairCount_12 (by decide) ?_
  exact v_iret (pc := 13) dX9_pairCount_13 rfl rfl (Nat.le_of_ble_eq_true rfl) (Nat.le_of_ble_eq_true rfl) ⟨w_prI n (by omega), rfl⟩
abbrev rm_X9_hasPair : Room := { frames := 1, cells := 0, slots := 0, locals := 20 }
set_option maxRecDepth 20000 in
theorem c_X9_hasPair (G : v_G) (l : Launch) {K : Nat × v_TY} {I : Nat → Nat → Int32} {J : Nat → Nat → Int64} {R : Nat → Nat → Option Nat} (hL : Lay K R) {h : Nat} (hh : v_3 h) {pp : Int32} {n : Nat} (hn : I h 0 = nI n) (hn7 : n < 7) : v_M G l yX9_hasPair cX9_hasPair 2 (some .boolean) rm_X9_hasPair [.ref h, .int pp] (K, I, J, R) (v_Qi G (fun (x : Int32) (M' : v_MM) => x = v_p (vp_in pp (w_pr n)) ∧ M' = (K, I, J, R))) := by
  refine v_of [some (.ref h), some (.int pp)] (by decide) (Nat.le_of_ble_eq_true rfl) (Nat.le_of_ble_eq_true rfl) rfl ?_
  have hV := VH_of hL hh
  have h15 := w_pr_lt n hn7
  refine v_iload_n (pc := 0) dX9_hasPair_0 rfl rfl ?_
  refine v_if_lt (pc := 1) (tgt := 16) dX9_hasPair_1 (by decide) (fun c1 => ?_) (fun c1 => ?_)
  · refine v_iconst (pc := 16) (v := nI 0) dX9_hasPair_16 (by decide) ?_
    exact v_iret (pc := 17) dX9_hasPair_17 rfl rfl (Nat.le_of_ble_eq_true rfl) (Nat.le_of_ble_eq_true rfl) ⟨by first | exact v_pz (fun q => ((v_ltI (by omega)).mpr q).1 c1) | exact v_pz (fun q => ((v_ltI (by omega)).mpr q).2 c9) | exact v_po ((v_ltI (by omega)).mp ⟨c1, c9⟩), rfl⟩
  · refine v_iload_n (pc := 4) dX9_hasPair_4 rfl rfl ?_
    refine v_aload_n (pc := 5) dX9_hasPair_5 rfl rfl ?_
    refine v_ci (pc := 6) (v_rV (c_X9_pairCount G l hL hh hn (by omega)) rfl kV_X9_92 (v_rcO hV.1 rfl (by decide)) ⟨Nat.le_of_ble_eq_true rfl, Nat.le_of_ble_eq_true rfl⟩ ⟨Nat.le_of_ble_eq_true rfl, Nat.le_of_ble_eq_true rfl⟩ dX9_hasPair_6 (Nat.le_of_ble_eq_true rfl)) (fun x6 M6 h6 => ?_)
    obtain ⟨rfl, rfl⟩ := h6
    refine v_icmp_ge (pc := 9) (tgt := 16) dX9_hasPair_9 (by decide) (fun c9 => ?_) (fun c9 => ?_)
    · refine v_iconst (pc := 16) (v := nI 0) dX9_hasPair_16 (by decide) ?_
      exact v_iret (pc := 17) dX9_hasPair_17 rfl rfl (Nat.le_of_ble_eq_true rfl) (Nat.le_of_ble_eq_true rfl) ⟨by first | exact v_pz (fun q => ((v_ltI (by omega)).mpr q).1 c1) | exact v_pz (fun q => ((v_ltI (by omega)).mpr q).2 c9) | exact v_po ((v_ltI (by omega)).mp ⟨c1, c9⟩), rfl⟩
    · refine v_iconst (pc := 12) (v := nI 1) dX9_hasPair_12 (by decide) ?_
      refine v_goto (pc := 13) (tgt := 17) dX9_hasPair_13 (by decide) ?_
      exact v_iret (pc := 17) dX9_hasPair_17 rfl rfl (Nat.le_of_ble_eq_true rfl) (Nat.le_of_ble_eq_true rfl) ⟨by first | exact v_pz (fun q => ((v_ltI (by omega)).mpr q).1 c1) | exact v_pz (fun q => ((v_ltI (by omega)).mpr q).2 c9) | exact v_po ((v_ltI (by omega)).mp ⟨c1, c9⟩), rfl⟩
abbrev rm_X9_areFriends : Room := { frames := 2, cells := 0, slots := 0, locals := 43 }
set_option maxRecDepth 20000 in
theorem c_X9_areFriends (G : v_G) (l : Launch) {K : Nat × v_TY} {I : Nat → Nat → Int32} {J : Nat → Nat → Int64} {R : Nat → Nat → Option Nat} (hL : Lay K R) {h : Nat} (hh : v_3 h) {k : Nat} {km : Nat → Nat} (hm : ∀ i, i < 6 → I (h + 2) i = nI (km i)) (hk : k < 15) : v_M G l yX9_areFriends cX9_areFriends 2 (some .boolean) rm_X9_areFriends [.ref h, .int (nI k)] (K, I, J, R) (v_Qi G (fun (x : Int32) (M' : v_MM) => x = v_p ((km (w_l k)).testBit (w_g k) = true) ∧ M' = (K, I, J, R))) := by
  refine v_of [some (.ref h), some (.int (nI k))] (by decide) (Nat.le_of_ble_eq_true rfl) (Nat.le_of_ble_eq_true rfl) rfl ?_
  have hV := VH_of hL hh
  have hg := w_g_in k hk
  refine v_aload_n (pc := 0) dX9_areFriends_0 rfl rfl ?_
  refine v_gets (pc := 1) (i := 0) (nm := "LESSER") (by decide) (Or.inr gs_X9_95) dX9_areFriends_1 ?_
  refine v_iload_n (pc := 4) dX9_areFriends_4 rfl rfl ?_
  refine v_stN0 (pc := 5) dX9_areFriends_5 (by omega) ?_
  refine v_gets (pc := 6) (i := 1) (nm := "GREATER") (by decide) (Or.inr gs_X9_98) dX9_areFriends_6 ?_
  refine v_iload_n (pc := 9) dX9_areFriends_9 rfl rfl ?_
  refine v_stN1 (pc := 10) dX9_areFriends_10 (by omega) ?_
  refine v_ci (pc := 11) (v_rV (c_X9_areTied G l hL hh (hm _ (by omega)) ⟨by omega, by omega⟩) rfl kV_X9_101 (v_rcO hV.1 rfl (by decide)) ⟨Nat.le_of_ble_eq_true rfl, Nat.le_of_ble_eq_true rfl⟩ ⟨Nat.le_of_ble_eq_true rfl, Nat.le_of_ble_eq_true rfl⟩ dX9_areFriends_11 (Nat.le_of_ble_eq_true rfl)) (fun x11 M11 h11 => ?_)
  obtain ⟨rfl, rfl⟩ := h11
  exact v_iret (pc := 14) dX9_areFriends_14 rfl (v_p_z rfl) (Nat.le_of_ble_eq_true rfl) (Nat.le_of_ble_eq_true rfl) ⟨rfl, rfl⟩
theorem v_pnot {a : Bool} : v_p (¬ a = true) = v_p ((!a) = true) := v_p_c (by cases a <;> simp)
theorem b_fp_m {b : BS} {k : Nat} (i : Nat) : b_m (b_fp b k) i = if i = w_l k then b_m b (w_l k) ^^^ 2 ^ w_g k else if i = w_g k then b_m b (w_g k) ^^^ 2 ^ w_l k else b_m b i := rfl
abbrev rm_X9_change : Room := { frames := 3, cells := 0, slots := 0, locals := 64 }
set_option maxRecDepth 20000 in
theorem c_X9_change (G : v_G) (l : Launch) {K : Nat × v_TY} {I : Nat → Nat → Int32} {J : Nat → Nat → Int64} {R : Nat → Nat → Option Nat} (hL : Lay K R) {h : Nat} (hh : v_3 h) {k : Nat} {b : BS} (hm : ∀ i, i < 6 → I (h + 2) i = nI (b_m b i)) (hB : VB b) (hk : k < 15) : v_M G l yX9_change cX9_change 2 none rm_X9_change [.ref h, .int (nI k)] (K, I, J, R) (v_Qv G (fun (M' : v_MM) => ∃ I', M' = (K, I', J, R) ∧ cK h I I' (b_fp b k))) := by
  refine v_of [some (.ref h), some (.int (nI k))] (by decide) (Nat.le_of_ble_eq_true rfl) (Nat.le_of_ble_eq_true rfl) rfl ?_
  have hV := VH_of hL hh
  have hg := w_g_in k hk
  refine v_aload_n (pc := 0) dX9_change_0 rfl rfl ?_
  refine v_gets (pc := 1) (i := 0) (nm := "LESSER") (by decide) (Or.inr gs_X9_95) dX9_change_1 ?_
  refine v_iload_n (pc := 4) dX9_change_4 rfl rfl ?_
  refine v_stN0 (pc := 5) dX9_change_5 (by omega) ?_
  refine v_gets (pc := 6) (i := 1) (nm := "GREATER") (by decide) (Or.inr gs_X9_98) dX9_change_6 ?_
  refine v_iload_n (pc := 9) dX9_change_9 rfl rfl ?_
  refine v_stN1 (pc := 10) dX9_change_10 (by omega) ?_
  refine v_aload_n (pc := 11) dX9_change_11 rfl rfl ?_
  refine v_iload_n (pc := 12) dX9_change_12 rfl rfl ?_
  refine v_ci (pc := 13) (v_rV (c_X9_areFriends G l hL hh hm (by omega)) rfl kV_X9_104 (v_rcO hV.1 rfl (by decide)) ⟨Nat.le_of_ble_eq_true rfl, Nat.le_of_ble_eq_true rfl⟩ ⟨Nat.le_of_ble_eq_true rfl, Nat.le_of_ble_eq_true rfl⟩ dX9_change_13 (Nat.le_of_ble_eq_true rfl)) (fun x13 M13 h13 => ?_)
  obtain ⟨rfl, rfl⟩ := h13
  refine v_if_neP (pc := 16) (tgt := 23) dX9_change_16 (by decide) (fun c16 => ?_) (fun c16 => ?_)
  · refine v_iconst (pc := 23) (v := nI 0) dX9_change_23 (by decide) ?_
    refine v_top (show _ = v_p ((!((b_m b (w_l k)).testBit (w_g k))) = true) by first | (rw [← v_pnot]; exact v_pz (Classical.not_not.mpr c16)) | (rw [← v_pnot]; exact v_po c16)) ?_
    refine v_cv (pc := 24) (v_rV (c_X9_tie G l hL hh (ar := !((b_m b (w_l k)).testBit (w_g k))) (km := b_m b) hm (fun i => hB.2.2.2.2.1 i) ⟨by omega, by omega, by omega⟩) rfl kV_X9_107 (v_rcO hV.1 rfl (by decide)) ⟨Nat.le_of_ble_eq_true rfl, Nat.le_of_ble_eq_true rfl⟩ ⟨Nat.le_of_ble_eq_true rfl, Nat.le_of_ble_eq_true rfl⟩ dX9_change_24 (Nat.le_of_ble_eq_true rfl)) (fun M24 h24 => ?_)
    subst h24
    exact v_vret (pc := 27) dX9_change_27 rfl (Nat.le_of_ble_eq_true rfl) (Nat.le_of_ble_eq_true rfl) ⟨_, rfl, fun x z n => by rw [v_u_h n, v_u_h n], fun i hi => by
        have hl64 := hB.2.2.2.2.1
        rw [b_fp_m]
        by_cases e1 : i = w_l k
        · subst e1; rw [v_u_k (by omega), v_u_same, if_pos rfl, s_tie_x _ (hl64 _) _ (by omega)]
        · by_cases e2 : i = w_g k
          · subst e2; rw [v_u_same, if_neg e1, if_pos rfl, hB.2.2.2.2.2.2.1 (w_l k) (w_g k), s_tie_x _ (hl64 _) _ (by omega)]
          · rw [v_u_k e2, v_u_k e1, if_neg e1, if_neg e2]; exact hm i hi⟩
  · refine v_iconst (pc := 19) (v := nI 1) dX9_change_19 (by decide) ?_
    refine v_goto (pc := 20) (tgt := 24) dX9_change_20 (by decide) ?_
    refine v_top (show _ = v_p ((!((b_m b (w_l k)).testBit (w_g k))) = true) by first | (rw [← v_pnot]; exact v_pz (Classical.not_not.mpr c16)) | (rw [← v_pnot]; exact v_po c16)) ?_
    refine v_cv (pc := 24) (v_rV (c_X9_tie G l hL hh (ar := !((b_m b (w_l k)).testBit (w_g k))) (km := b_m b) hm (fun i => hB.2.2.2.2.1 i) ⟨by omega, by omega, by omega⟩) rfl kV_X9_107 (v_rcO hV.1 rfl (by decide)) ⟨Nat.le_of_ble_eq_true rfl, Nat.le_of_ble_eq_true rfl⟩ ⟨Nat.le_of_ble_eq_true rfl, Nat.le_of_ble_eq_true rfl⟩ dX9_change_24 (Nat.le_of_ble_eq_true rfl)) (fun M24 h24 => ?_)
    subst h24
    exact v_vret (pc := 27) dX9_change_27 rfl (Nat.le_of_ble_eq_true rfl) (Nat.le_of_ble_eq_true rfl) ⟨_, rfl, fun x z n => by rw [v_u_h n, v_u_h n], fun i hi => by
        have hl64 := hB.2.2.2.2.1
        rw [b_fp_m]
        by_cases e1 : i = w_l k
        · subst e1; rw [v_u_k (by omega), v_u_same, if_pos rfl, s_tie_x _ (hl64 _) _ (by omega)]
        · by_cases e2 : i = w_g k
          · subst e2; rw [v_u_same, if_neg e1, if_pos rfl, hB.2.2.2.2.2.2.1 (w_l k) (w_g k), s_tie_x _ (hl64 _) _ (by omega)]
          · rw [v_u_k e2, v_u_k e1, if_neg e1, if_neg e2]; exact hm i hi⟩
abbrev rm_X9_friendships : Room := { frames := 3, cells := 0, slots := 0, locals := 64 }
set_option maxRecDepth 20000 in
theorem c_X9_friendships (G : v_G) (l : Launch) {K : Nat × v_TY} {I : Nat → Nat → Int32} {J : Nat → Nat → Int64} {R : Nat → Nat → Option Nat} (hL : Lay K R) {h : Nat} (hh : v_3 h) {b : BS} {hm : Nat} (hC : CB0 I h b hm) (hB : VB b) : v_M G l yX9_friendships cX9_friendships 3 (some .int) rm_X9_friendships [.ref h] (K, I, J, R) (v_Qi G (fun (x : Int32) (M' : v_MM) => x = nI (cnt (fun k => (b_m b (w_l k)).testBit (w_g k)) (w_pr (b_n b))) ∧ M' = (K, I, J, R))) := by
  refine v_of [some (.ref h), none, none] (by decide) (Nat.le_of_ble_eq_true rfl) (Nat.le_of_ble_eq_true rfl) rfl ?_
  have hV := VH_of hL hh
  have hn6 := hB.1
  have h15 := w_pr_lt (b_n b) (by omega)
  refine v_iconst (pc := 0) (v := nI 0) dX9_friendships_0 (by decide) ?_
  refine v_istore_n (pc := 1) dX9_friendships_1 rfl (by decide) rfl ?_
  refine v_iconst (pc := 2) (v := nI 0) dX9_friendships_2 (by decide) ?_
  refine v_istore_n (pc := 3) dX9_friendships_3 rfl (by decide) rfl ?_
  have key : ∀ i, i ≤ w_pr (b_n b) → v_V G l yX9_friendships cX9_friendships 3 (some .int) rm_X9_friendships (v_Qi G (fun (x : Int32) (M' : v_MM) => x = nI (cnt (fun k => (b_m b (w_l k)).testBit (w_g k)) (w_pr (b_n b))) ∧ M' = (K, I, J, R))) 0 0 4 [some (.ref h), some (.int (nI (cnt (fun k => (b_m b (w_l k)).testBit (w_g k)) i))), some (.int (nI i))] [] (K, I, J, R) := by
    refine v_down (w_pr (b_n b)) (fun i hi ih => ?_)
    refine v_iload_n (pc := 4) dX9_friendships_4 rfl rfl ?_
    refine v_aload_n (pc := 5) dX9_friendships_5 rfl rfl ?_
    refine v_ci (pc := 6) (v_rV (c_X9_pairCount G l hL hh hC.1 (by omega)) rfl kV_X9_92 (v_rcO hV.1 rfl (by decide)) ⟨Nat.le_of_ble_eq_true rfl, Nat.le_of_ble_eq_true rfl⟩ ⟨Nat.le_of_ble_eq_true rfl, Nat.le_of_ble_eq_true rfl⟩ dX9_friendships_6 (Nat.le_of_ble_eq_true rfl)) (fun x6 M6 h6 => ?_)
    obtain ⟨rfl, rfl⟩ := h6
    refine v_icmp_geN (pc := 9) (tgt := 29) ⟨by omega, by omega⟩ dX9_friendships_9 (by decide) (fun c9 => ?_) (fun c9 => ?_)
    · refine v_iload_n (pc := 29) dX9_friendships_29 rfl rfl ?_
      exact v_iret (pc := 30) dX9_friendships_30 rfl rfl (Nat.le_of_ble_eq_true rfl) (Nat.le_of_ble_eq_true rfl) ⟨by rw [show w_pr (b_n b) = i by omega], rfl⟩
    · refine v_aload_n (pc := 12) dX9_friendships_12 rfl rfl ?_
      refine v_iload_n (pc := 13) dX9_friendships_13 rfl rfl ?_
      refine v_ci (pc := 14) (v_rV (c_X9_areFriends G l hL hh hC.2.2.2.1 (by omega)) rfl kV_X9_104 (v_rcO hV.1 rfl (by decide)) ⟨Nat.le_of_ble_eq_true rfl, Nat.le_of_ble_eq_true rfl⟩ ⟨Nat.le_of_ble_eq_true rfl, Nat.le_of_ble_eq_true rfl⟩ dX9_friendships_14 (Nat.le_of_ble_eq_true rfl)) (fun x14 M14 h14 => ?_)
      obtain ⟨rfl, rfl⟩ := h14
      refine v_if_eqP (pc := 17) (tgt := 23) dX9_friendships_17 (by decide) (fun c17 => ?_) (fun c17 => ?_)
      · refine v_iincN (pc := 23) (b := 1) dX9_friendships_23 rfl (by decide) (by decide) rfl ?_
        refine v_goto (pc := 26) (tgt := 4) dX9_friendships_26 (by decide) ?_
        have e := ih (i + 1) (by omega) (by omega)
        have eg : (cnt (fun k => (b_m b (w_l k)).testBit (w_g k)) (i + 1)) = (cnt (fun k => (b_m b (w_l k)).testBit (w_g k)) i) + (if (b_m b (w_l i)).testBit (w_g i) = true then 1 else 0) := rfl
        rw [eg] at e
        first
          | (rw [if_pos c17] at e; exact e)
          | (rw [if_neg c17, Nat.add_zero] at e; exact e)
      · refine v_iincN (pc := 20) (b := 1) dX9_friendships_20 rfl (by decide) (by decide) rfl ?_
        refine v_iincN (pc := 23) (b := 1) dX9_friendships_23 rfl (by decide) (by decide) rfl ?_
        refine v_goto (pc := 26) (tgt := 4) dX9_friendships_26 (by decide) ?_
        have e := ih (i + 1) (by omega) (by omega)
        have eg : (cnt (fun k => (b_m b (w_l k)).testBit (w_g k)) (i + 1)) = (cnt (fun k => (b_m b (w_l k)).testBit (w_g k)) i) + (if (b_m b (w_l i)).testBit (w_g i) = true then 1 else 0) := rfl
        rw [eg] at e
        first
          | (rw [if_pos c17] at e; exact e)
          | (rw [if_neg c17, Nat.add_zero] at e; exact e)
  exact key 0 (Nat.zero_le _)
