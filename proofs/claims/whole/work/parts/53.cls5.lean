/-! THE CLASS: what each kind counts; what two have in common -/
section WWS
variable {b : BS} {hm i : Nat} {p : CLS} {fr : Bool}
theorem ww_0 (h : b_k b i = 0) : w_worth (c_vw b hm p) i fr = 1 := by unfold w_worth; simp only [show w_k (c_vw b hm p) i = 0 from h]
theorem ww_1 (h : b_k b i = 1) : w_worth (c_vw b hm p) i fr = 1 + b_v b i % 2 := by unfold w_worth; simp only [show w_k (c_vw b hm p) i = 1 from h]; rfl
theorem ww_2 (h : b_k b i = 2) : w_worth (c_vw b hm p) i fr = if fr = true then 0 else 1 := by unfold w_worth; simp only [show w_k (c_vw b hm p) i = 2 from h]
theorem ww_3 (h : b_k b i = 3) : w_worth (c_vw b hm p) i fr = if b_y b % (b_v b i + 2) = 0 then 0 else 1 := by unfold w_worth; simp only [show w_k (c_vw b hm p) i = 3 from h]; rfl
theorem ww_4 (h : b_k b i = 4) : w_worth (c_vw b hm p) i fr = if w_all (c_vw b hm p) i = true then 1 + b_v b i % 2 else 0 := by unfold w_worth; simp only [show w_k (c_vw b hm p) i = 4 from h]; rfl
theorem ww_5 (h : b_k b i = 5) : w_worth (c_vw b hm p) i fr = if 3 < cnt (fun j => (b_m b i).testBit j) 7 then 0 else if fr = true then 0 else 1 := by unfold w_worth; simp only [show w_k (c_vw b hm p) i = 5 from h]; rfl
theorem ww_6 (h : b_k b i = 6) : w_worth (c_vw b hm p) i fr = b_r b (4 * i + b_y b % 4) := by unfold w_worth; simp only [show w_k (c_vw b hm p) i = 6 from h]; rfl
end WWS
abbrev rm_X2_worth : Room := { frames := 8, cells := 0, slots := 0, locals := 500 }
set_option maxRecDepth 20000 in
theorem c_X2_worth (G : v_G) (l : Launch) {K : Nat × v_TY} {I : Nat → Nat → Int32} {J : Nat → Nat → Int64} {R : Nat → Nat → Option Nat} (hL : Lay K R) {h : Nat} (hh : v_3 h) {b : BS} {hm : Nat} {p : CLS} (hv : CV K I R h b hm p) {a i : Nat} {fr : Bool} (hp : PS K I a 2 i 0 (b_v b i)) (hk : b_k b i = 0) (hi : i < 6) : v_M G l yX2_worth cX2_worth 3 (some .int) rm_X2_worth [.ref a, .ref h, .int (v_p (fr = true))] (K, I, J, R) (v_Qi G (fun (x : Int32) (M' : v_MM) => x = nI (w_worth (c_vw b hm p) i fr) ∧ M' = (K, I, J, R))) := by
  refine v_of [some (.ref a), some (.ref h), some (.int (v_p (fr = true)))] (by decide) (Nat.le_of_ble_eq_true rfl) (Nat.le_of_ble_eq_true rfl) rfl ?_
  have hV := VH_of hL hh
  have hB := hv.2.1
  have hvi := hB.2.2.2.1 i
  have hy := hB.2.1
  refine v_iconst (pc := 0) (v := nI 1) dX2_worth_0 (by decide) ?_
  exact v_iret (pc := 1) dX2_worth_1 rfl rfl (Nat.le_of_ble_eq_true rfl) (Nat.le_of_ble_eq_true rfl) ⟨by rw [ww_0 hk], rfl⟩
abbrev rm_X10_worth : Room := { frames := 8, cells := 0, slots := 0, locals := 500 }
set_option maxRecDepth 20000 in
theorem c_X10_worth (G : v_G) (l : Launch) {K : Nat × v_TY} {I : Nat → Nat → Int32} {J : Nat → Nat → Int64} {R : Nat → Nat → Option Nat} (hL : Lay K R) {h : Nat} (hh : v_3 h) {b : BS} {hm : Nat} {p : CLS} (hv : CV K I R h b hm p) {a i : Nat} {fr : Bool} (hp : PS K I a 10 i 1 (b_v b i)) (hk : b_k b i = 1) (hi : i < 6) : v_M G l yX10_worth cX10_worth 3 (some .int) rm_X10_worth [.ref a, .ref h, .int (v_p (fr = true))] (K, I, J, R) (v_Qi G (fun (x : Int32) (M' : v_MM) => x = nI (w_worth (c_vw b hm p) i fr) ∧ M' = (K, I, J, R))) := by
  refine v_of [some (.ref a), some (.ref h), some (.int (v_p (fr = true)))] (by decide) (Nat.le_of_ble_eq_true rfl) (Nat.le_of_ble_eq_true rfl) rfl ?_
  have hV := VH_of hL hh
  have hB := hv.2.1
  have hvi := hB.2.2.2.1 i
  have hy := hB.2.1
  refine v_aload_n (pc := 0) dX10_worth_0 rfl rfl ?_
  refine v_getV (pc := 1) fg_X10_7_10 dX10_worth_1 hp.2.1 hp.2.2.2.2 ?_
  refine v_iconst (pc := 4) (v := nI 2) dX10_worth_4 (by decide) ?_
  refine v_iremN (pc := 5) (by omega) (by omega) (by omega) dX10_worth_5 ?_
  refine v_iconst (pc := 6) (v := nI 1) dX10_worth_6 (by decide) ?_
  refine v_icmp_neN (pc := 7) (tgt := 14) ⟨by omega, by omega⟩ dX10_worth_7 (by decide) (fun c7 => ?_) (fun c7 => ?_)
  · refine v_iconst (pc := 14) (v := nI 1) dX10_worth_14 (by decide) ?_
    exact v_iret (pc := 15) dX10_worth_15 rfl rfl (Nat.le_of_ble_eq_true rfl) (Nat.le_of_ble_eq_true rfl) ⟨by rw [ww_1 hk]; first | exact congrArg nI (by omega) | (exfalso; omega), rfl⟩
  · refine v_iconst (pc := 10) (v := nI 2) dX10_worth_10 (by decide) ?_
    refine v_goto (pc := 11) (tgt := 15) dX10_worth_11 (by decide) ?_
    exact v_iret (pc := 15) dX10_worth_15 rfl rfl (Nat.le_of_ble_eq_true rfl) (Nat.le_of_ble_eq_true rfl) ⟨by rw [ww_1 hk]; first | exact congrArg nI (by omega) | (exfalso; omega), rfl⟩
abbrev rm_X10_worth_0 : Room := { frames := 0, cells := 0, slots := 0, locals := 0 }
set_option maxRecDepth 20000 in
theorem c_X10_worth_0 (G : v_G) (l : Launch) {K : Nat × v_TY} {I : Nat → Nat → Int32} {J : Nat → Nat → Int64} {R : Nat → Nat → Option Nat} (hL : Lay K R) {h : Nat} (hh : v_3 h) {b : BS} {hm : Nat} {p : CLS} (hv : CV K I R h b hm p) {a i : Nat} {fr : Bool} (hp : PS K I a 0 i 4 (b_v b i)) (hk : b_k b i = 4) (hi : i < 6) : v_M G l yX10_worth cX10_worth 3 (some .int) rm_X10_worth_0 [.ref a, .ref h, .int (v_p (fr = true))] (K, I, J, R) (v_Qi G (fun (x : Int32) (M' : v_MM) => x = nI (1 + b_v b i % 2) ∧ M' = (K, I, J, R))) := by
  refine v_of [some (.ref a), some (.ref h), some (.int (v_p (fr = true)))] (by decide) (Nat.le_of_ble_eq_true rfl) (Nat.le_of_ble_eq_true rfl) rfl ?_
  have hV := VH_of hL hh
  have hB := hv.2.1
  have hvi := hB.2.2.2.1 i
  have hy := hB.2.1
  refine v_aload_n (pc := 0) dX10_worth_0 rfl rfl ?_
  refine v_getV (pc := 1) fg_X10_7_0 dX10_worth_1 hp.2.1 hp.2.2.2.2 ?_
  refine v_iconst (pc := 4) (v := nI 2) dX10_worth_4 (by decide) ?_
  refine v_iremN (pc := 5) (by omega) (by omega) (by omega) dX10_worth_5 ?_
  refine v_iconst (pc := 6) (v := nI 1) dX10_worth_6 (by decide) ?_
  refine v_icmp_neN (pc := 7) (tgt := 14) ⟨by omega, by omega⟩ dX10_worth_7 (by decide) (fun c7 => ?_) (fun c7 => ?_)
  · refine v_iconst (pc := 14) (v := nI 1) dX10_worth_14 (by decide) ?_
    exact v_iret (pc := 15) dX10_worth_15 rfl rfl (Nat.le_of_ble_eq_true rfl) (Nat.le_of_ble_eq_true rfl) ⟨by  first | exact congrArg nI (by omega) | (exfalso; omega), rfl⟩
  · refine v_iconst (pc := 10) (v := nI 2) dX10_worth_10 (by decide) ?_
    refine v_goto (pc := 11) (tgt := 15) dX10_worth_11 (by decide) ?_
    exact v_iret (pc := 15) dX10_worth_15 rfl rfl (Nat.le_of_ble_eq_true rfl) (Nat.le_of_ble_eq_true rfl) ⟨by  first | exact congrArg nI (by omega) | (exfalso; omega), rfl⟩
abbrev rm_X3_worth : Room := { frames := 8, cells := 0, slots := 0, locals := 500 }
set_option maxRecDepth 20000 in
theorem c_X3_worth (G : v_G) (l : Launch) {K : Nat × v_TY} {I : Nat → Nat → Int32} {J : Nat → Nat → Int64} {R : Nat → Nat → Option Nat} (hL : Lay K R) {h : Nat} (hh : v_3 h) {b : BS} {hm : Nat} {p : CLS} (hv : CV K I R h b hm p) {a i : Nat} {fr : Bool} (hp : PS K I a 3 i 2 (b_v b i)) (hk : b_k b i = 2) (hi : i < 6) : v_M G l yX3_worth cX3_worth 3 (some .int) rm_X3_worth [.ref a, .ref h, .int (v_p (fr = true))] (K, I, J, R) (v_Qi G (fun (x : Int32) (M' : v_MM) => x = nI (w_worth (c_vw b hm p) i fr) ∧ M' = (K, I, J, R))) := by
  refine v_of [some (.ref a), some (.ref h), some (.int (v_p (fr = true)))] (by decide) (Nat.le_of_ble_eq_true rfl) (Nat.le_of_ble_eq_true rfl) rfl ?_
  have hV := VH_of hL hh
  have hB := hv.2.1
  have hvi := hB.2.2.2.1 i
  have hy := hB.2.1
  refine v_iload_n (pc := 0) dX3_worth_0 rfl rfl ?_
  refine v_if_eqP (pc := 1) (tgt := 8) dX3_worth_1 (by decide) (fun c1 => ?_) (fun c1 => ?_)
  · refine v_iconst (pc := 8) (v := nI 1) dX3_worth_8 (by decide) ?_
    exact v_iret (pc := 9) dX3_worth_9 rfl rfl (Nat.le_of_ble_eq_true rfl) (Nat.le_of_ble_eq_true rfl) ⟨by rw [ww_2 hk]; first | (rw [if_pos c1]; done) | (rw [if_neg c1]; done), rfl⟩
  · refine v_iconst (pc := 4) (v := nI 0) dX3_worth_4 (by decide) ?_
    refine v_goto (pc := 5) (tgt := 9) dX3_worth_5 (by decide) ?_
    exact v_iret (pc := 9) dX3_worth_9 rfl rfl (Nat.le_of_ble_eq_true rfl) (Nat.le_of_ble_eq_true rfl) ⟨by rw [ww_2 hk]; first | (rw [if_pos c1]; done) | (rw [if_neg c1]; done), rfl⟩
abbrev rm_X3_worth_4 : Room := { frames := 0, cells := 0, slots := 0, locals := 0 }
set_option maxRecDepth 20000 in
theorem c_X3_worth_4 (G : v_G) (l : Launch) {K : Nat × v_TY} {I : Nat → Nat → Int32} {J : Nat → Nat → Int64} {R : Nat → Nat → Option Nat} (hL : Lay K R) {h : Nat} (hh : v_3 h) {b : BS} {hm : Nat} {p : CLS} (hv : CV K I R h b hm p) {a i : Nat} {fr : Bool} (hp : PS K I a 4 i 5 (b_v b i)) (hk : b_k b i = 5) (hi : i < 6) : v_M G l yX3_worth cX3_worth 3 (some .int) rm_X3_worth_4 [.ref a, .ref h, .int (v_p (fr = true))] (K, I, J, R) (v_Qi G (fun (x : Int32) (M' : v_MM) => x = nI (if fr = true then 0 else 1) ∧ M' = (K, I, J, R))) := by
  refine v_of [some (.ref a), some (.ref h), some (.int (v_p (fr = true)))] (by decide) (Nat.le_of_ble_eq_true rfl) (Nat.le_of_ble_eq_true rfl) rfl ?_
  have hV := VH_of hL hh
  have hB := hv.2.1
  have hvi := hB.2.2.2.1 i
  have hy := hB.2.1
  refine v_iload_n (pc := 0) dX3_worth_0 rfl rfl ?_
  refine v_if_eqP (pc := 1) (tgt := 8) dX3_worth_1 (by decide) (fun c1 => ?_) (fun c1 => ?_)
  · refine v_iconst (pc := 8) (v := nI 1) dX3_worth_8 (by decide) ?_
    exact v_iret (pc := 9) dX3_worth_9 rfl rfl (Nat.le_of_ble_eq_true rfl) (Nat.le_of_ble_eq_true rfl) ⟨by  first | (rw [if_pos c1]; done) | (rw [if_neg c1]; done), rfl⟩
  · refine v_iconst (pc := 4) (v := nI 0) dX3_worth_4 (by decide) ?_
    refine v_goto (pc := 5) (tgt := 9) dX3_worth_5 (by decide) ?_
    exact v_iret (pc := 9) dX3_worth_9 rfl rfl (Nat.le_of_ble_eq_true rfl) (Nat.le_of_ble_eq_true rfl) ⟨by  first | (rw [if_pos c1]; done) | (rw [if_neg c1]; done), rfl⟩
abbrev rm_X1_worth : Room := { frames := 8, cells := 0, slots := 0, locals := 500 }
set_option maxRecDepth 20000 in
theorem c_X1_worth (G : v_G) (l : Launch) {K : Nat × v_TY} {I : Nat → Nat → Int32} {J : Nat → Nat → Int64} {R : Nat → Nat → Option Nat} (hL : Lay K R) {h : Nat} (hh : v_3 h) {b : BS} {hm : Nat} {p : CLS} (hv : CV K I R h b hm p) {a i : Nat} {fr : Bool} (hp : PS K I a 1 i 3 (b_v b i)) (hk : b_k b i = 3) (hi : i < 6) : v_M G l yX1_worth cX1_worth 4 (some .int) rm_X1_worth [.ref a, .ref h, .int (v_p (fr = true))] (K, I, J, R) (v_Qi G (fun (x : Int32) (M' : v_MM) => x = nI (w_worth (c_vw b hm p) i fr) ∧ M' = (K, I, J, R))) := by
  refine v_of [some (.ref a), some (.ref h), some (.int (v_p (fr = true))), none] (by decide) (Nat.le_of_ble_eq_true rfl) (Nat.le_of_ble_eq_true rfl) rfl ?_
  have hV := VH_of hL hh
  have hB := hv.2.1
  have hvi := hB.2.2.2.1 i
  have hy := hB.2.1
  refine v_aload_n (pc := 0) dX1_worth_0 rfl rfl ?_
  refine v_getV (pc := 1) fg_X1_7_1 dX1_worth_1 hp.2.1 hp.2.2.2.2 ?_
  refine v_iconst (pc := 4) (v := nI 2) dX1_worth_4 (by decide) ?_
  refine v_iaddN (pc := 5) dX1_worth_5 ?_
  refine v_istore_n (pc := 6) dX1_worth_6 rfl (by decide) rfl ?_
  refine v_iload_n (pc := 7) dX1_worth_7 rfl rfl ?_
  refine v_if_leN (pc := 8) (tgt := 24) (by omega) dX1_worth_8 (by decide) (fun c8 => ?_) (fun c8 => ?_)
  · exact absurd c8 (by omega)
  · refine v_aload_n (pc := 11) dX1_worth_11 rfl rfl ?_
    refine v_getV (pc := 12) fg_X1_13_9 dX1_worth_12 hV.1 hv.1.2.2.1 ?_
    refine v_iload_n (pc := 15) dX1_worth_15 rfl rfl ?_
    refine v_iremN (pc := 16) (by omega) (by omega) (by omega) dX1_worth_16 ?_
    refine v_if_neN (pc := 17) (tgt := 24) (Nat.lt_of_le_of_lt (Nat.mod_le _ _) (by omega)) dX1_worth_17 (by decide) (fun c17 => ?_) (fun c17 => ?_)
    · refine v_iconst (pc := 24) (v := nI 1) dX1_worth_24 (by decide) ?_
      exact v_iret (pc := 25) dX1_worth_25 rfl rfl (Nat.le_of_ble_eq_true rfl) (Nat.le_of_ble_eq_true rfl) ⟨by rw [ww_3 hk]; first | (rw [if_pos c17]; done) | (rw [if_neg c17]; done), rfl⟩
    · refine v_iconst (pc := 20) (v := nI 0) dX1_worth_20 (by decide) ?_
      refine v_goto (pc := 21) (tgt := 25) dX1_worth_21 (by decide) ?_
      exact v_iret (pc := 25) dX1_worth_25 rfl rfl (Nat.le_of_ble_eq_true rfl) (Nat.le_of_ble_eq_true rfl) ⟨by rw [ww_3 hk]; first | (rw [if_pos c17]; done) | (rw [if_neg c17]; done), rfl⟩
abbrev rm_X0_worth : Room := { frames := 8, cells := 0, slots := 0, locals := 500 }
set_option maxRecDepth 20000 in
theorem c_X0_worth (G : v_G) (l : Launch) {K : Nat × v_TY} {I : Nat → Nat → Int32} {J : Nat → Nat → Int64} {R : Nat → Nat → Option Nat} (hL : Lay K R) {h : Nat} (hh : v_3 h) {b : BS} {hm : Nat} {p : CLS} (hv : CV K I R h b hm p) {a i : Nat} {fr : Bool} (hp : PS K I a 0 i 4 (b_v b i)) (hk : b_k b i = 4) (hi : i < 6) : v_M G l yX0_worth cX0_worth 3 (some .int) rm_X0_worth [.ref a, .ref h, .int (v_p (fr = true))] (K, I, J, R) (v_Qi G (fun (x : Int32) (M' : v_MM) => x = nI (w_worth (c_vw b hm p) i fr) ∧ M' = (K, I, J, R))) := by
  refine v_of [some (.ref a), some (.ref h), some (.int (v_p (fr = true)))] (by decide) (Nat.le_of_ble_eq_true rfl) (Nat.le_of_ble_eq_true rfl) rfl ?_
  have hV := VH_of hL hh
  have hB := hv.2.1
  have hvi := hB.2.2.2.1 i
  have hy := hB.2.1
  refine v_aload_n (pc := 0) dX0_worth_0 rfl rfl ?_
  refine v_aload_n (pc := 1) dX0_worth_1 rfl rfl ?_
  refine v_getV (pc := 2) fg_X0_7_0 dX0_worth_2 hp.2.1 hp.2.2.2.1 ?_
  refine v_ci (pc := 5) (v_rV (c_X9_isEverybodys G l hL hh hv.1 hv.2.1 hv.2.2.1 p hi) rfl kV_X0_13 (v_rcO hV.1 rfl (by decide)) ⟨Nat.le_of_ble_eq_true rfl, Nat.le_of_ble_eq_true rfl⟩ ⟨Nat.le_of_ble_eq_true rfl, Nat.le_of_ble_eq_true rfl⟩ dX0_worth_5 (Nat.le_of_ble_eq_true rfl)) (fun x5 M5 h5 => ?_)
  obtain ⟨rfl, rfl⟩ := h5
  refine v_if_eqP (pc := 8) (tgt := 20) dX0_worth_8 (by decide) (fun c8 => ?_) (fun c8 => ?_)
  · refine v_iconst (pc := 20) (v := nI 0) dX0_worth_20 (by decide) ?_
    exact v_iret (pc := 21) dX0_worth_21 rfl rfl (Nat.le_of_ble_eq_true rfl) (Nat.le_of_ble_eq_true rfl) ⟨by rw [ww_4 hk]; first | (rw [if_pos c8]; done) | (rw [if_neg c8]; done), rfl⟩
  · refine v_aload_n (pc := 11) dX0_worth_11 rfl rfl ?_
    refine v_aload_n (pc := 12) dX0_worth_12 rfl rfl ?_
    refine v_iload_n (pc := 13) dX0_worth_13 rfl rfl ?_
    refine v_ci (pc := 14) (v_rP (c_X10_worth_0 G l hL hh hv hp hk hi) rfl kP_X0_19 hp.2.1 rfl (by decide) ⟨Nat.le_of_ble_eq_true rfl, Nat.le_of_ble_eq_true rfl⟩ ⟨Nat.le_of_ble_eq_true rfl, Nat.le_of_ble_eq_true rfl⟩ dX0_worth_14 (Nat.le_of_ble_eq_true rfl)) (fun x14 M14 h14 => ?_)
    obtain ⟨rfl, rfl⟩ := h14
    refine v_goto (pc := 17) (tgt := 21) dX0_worth_17 (by decide) ?_
    exact v_iret (pc := 21) dX0_worth_21 rfl rfl (Nat.le_of_ble_eq_true rfl) (Nat.le_of_ble_eq_true rfl) ⟨by rw [ww_4 hk]; first | (rw [if_pos c8]; done) | (rw [if_neg c8]; done), rfl⟩
abbrev rm_X4_worth : Room := { frames := 8, cells := 0, slots := 0, locals := 500 }
set_option maxRecDepth 20000 in
theorem c_X4_worth (G : v_G) (l : Launch) {K : Nat × v_TY} {I : Nat → Nat → Int32} {J : Nat → Nat → Int64} {R : Nat → Nat → Option Nat} (hL : Lay K R) {h : Nat} (hh : v_3 h) {b : BS} {hm : Nat} {p : CLS} (hv : CV K I R h b hm p) {a i : Nat} {fr : Bool} (hp : PS K I a 4 i 5 (b_v b i)) (hk : b_k b i = 5) (hi : i < 6) : v_M G l yX4_worth cX4_worth 3 (some .int) rm_X4_worth [.ref a, .ref h, .int (v_p (fr = true))] (K, I, J, R) (v_Qi G (fun (x : Int32) (M' : v_MM) => x = nI (w_worth (c_vw b hm p) i fr) ∧ M' = (K, I, J, R))) := by
  refine v_of [some (.ref a), some (.ref h), some (.int (v_p (fr = true)))] (by decide) (Nat.le_of_ble_eq_true rfl) (Nat.le_of_ble_eq_true rfl) rfl ?_
  have hV := VH_of hL hh
  have hB := hv.2.1
  have hvi := hB.2.2.2.1 i
  have hy := hB.2.1
  refine v_aload_n (pc := 0) dX4_worth_0 rfl rfl ?_
  refine v_aload_n (pc := 1) dX4_worth_1 rfl rfl ?_
  refine v_getV (pc := 2) fg_X4_7_4 dX4_worth_2 hp.2.1 hp.2.2.2.1 ?_
  refine v_ci (pc := 5) (v_rV (c_X9_friendsOf G l hL hh (hv.1.2.2.2.1 i hi) ⟨hi, hB.2.2.2.2.1 i⟩) rfl kV_X4_13 (v_rcO hV.1 rfl (by decide)) ⟨Nat.le_of_ble_eq_true rfl, Nat.le_of_ble_eq_true rfl⟩ ⟨Nat.le_of_ble_eq_true rfl, Nat.le_of_ble_eq_true rfl⟩ dX4_worth_5 (Nat.le_of_ble_eq_true rfl)) (fun x5 M5 h5 => ?_)
  obtain ⟨rfl, rfl⟩ := h5
  have hc7 := cnt_le (fun j => (b_m b i).testBit j) 7
  refine v_iconst (pc := 8) (v := nI 3) dX4_worth_8 (by decide) ?_
  refine v_icmp_leN (pc := 9) (tgt := 16) ⟨by omega, by omega⟩ dX4_worth_9 (by decide) (fun c9 => ?_) (fun c9 => ?_)
  · refine v_aload_n (pc := 16) dX4_worth_16 rfl rfl ?_
    refine v_aload_n (pc := 17) dX4_worth_17 rfl rfl ?_
    refine v_iload_n (pc := 18) dX4_worth_18 rfl rfl ?_
    refine v_ci (pc := 19) (v_rP (c_X3_worth_4 G l hL hh hv hp hk hi) rfl kP_X4_19 hp.2.1 rfl (by decide) ⟨Nat.le_of_ble_eq_true rfl, Nat.le_of_ble_eq_true rfl⟩ ⟨Nat.le_of_ble_eq_true rfl, Nat.le_of_ble_eq_true rfl⟩ dX4_worth_19 (Nat.le_of_ble_eq_true rfl)) (fun x19 M19 h19 => ?_)
    obtain ⟨rfl, rfl⟩ := h19
    exact v_iret (pc := 22) dX4_worth_22 rfl rfl (Nat.le_of_ble_eq_true rfl) (Nat.le_of_ble_eq_true rfl) ⟨by rw [ww_5 hk]; first | (rw [if_pos (show 3 < cnt (fun j => (b_m b i).testBit j) 7 by omega)]; done) | (rw [if_neg (show ¬ 3 < cnt (fun j => (b_m b i).testBit j) 7 by omega)]; done), rfl⟩
  · refine v_iconst (pc := 12) (v := nI 0) dX4_worth_12 (by decide) ?_
    refine v_goto (pc := 13) (tgt := 22) dX4_worth_13 (by decide) ?_
    exact v_iret (pc := 22) dX4_worth_22 rfl rfl (Nat.le_of_ble_eq_true rfl) (Nat.le_of_ble_eq_true rfl) ⟨by rw [ww_5 hk]; first | (rw [if_pos (show 3 < cnt (fun j => (b_m b i).testBit j) 7 by omega)]; done) | (rw [if_neg (show ¬ 3 < cnt (fun j => (b_m b i).testBit j) 7 by omega)]; done), rfl⟩
abbrev rm_X6_worth : Room := { frames := 8, cells := 0, slots := 0, locals := 500 }
set_option maxRecDepth 20000 in
theorem c_X6_worth (G : v_G) (l : Launch) {K : Nat × v_TY} {I : Nat → Nat → Int32} {J : Nat → Nat → Int64} {R : Nat → Nat → Option Nat} (hL : Lay K R) {h : Nat} (hh : v_3 h) {b : BS} {hm : Nat} {p : CLS} (hv : CV K I R h b hm p) {a i : Nat} {fr : Bool} (hp : PS K I a 6 i 6 (b_v b i)) (hk : b_k b i = 6) (hi : i < 6) : v_M G l yX6_worth cX6_worth 3 (some .int) rm_X6_worth [.ref a, .ref h, .int (v_p (fr = true))] (K, I, J, R) (v_Qi G (fun (x : Int32) (M' : v_MM) => x = nI (w_worth (c_vw b hm p) i fr) ∧ M' = (K, I, J, R))) := by
  refine v_of [some (.ref a), some (.ref h), some (.int (v_p (fr = true)))] (by decide) (Nat.le_of_ble_eq_true rfl) (Nat.le_of_ble_eq_true rfl) rfl ?_
  have hV := VH_of hL hh
  have hB := hv.2.1
  have hvi := hB.2.2.2.1 i
  have hy := hB.2.1
  refine v_aload_n (pc := 0) dX6_worth_0 rfl rfl ?_
  refine v_aload_n (pc := 1) dX6_worth_1 rfl rfl ?_
  refine v_getV (pc := 2) fg_X6_7_6 dX6_worth_2 hp.2.1 hp.2.2.2.1 ?_
  refine v_ci (pc := 5) (v_rV (c_X9_toldOf G l hL hh hv.1 hv.2.1 hi) rfl kV_X6_13 (v_rcO hV.1 rfl (by decide)) ⟨Nat.le_of_ble_eq_true rfl, Nat.le_of_ble_eq_true rfl⟩ ⟨Nat.le_of_ble_eq_true rfl, Nat.le_of_ble_eq_true rfl⟩ dX6_worth_5 (Nat.le_of_ble_eq_true rfl)) (fun x5 M5 h5 => ?_)
  obtain ⟨rfl, rfl⟩ := h5
  exact v_iret (pc := 8) dX6_worth_8 rfl rfl (Nat.le_of_ble_eq_true rfl) (Nat.le_of_ble_eq_true rfl) ⟨by rw [ww_6 hk], rfl⟩
def w_cs (w : VW) (a c i : Nat) : Nat := sm (fun p => if (w_a w p a && w_a w p c) = true then w_worth w p (w_a w a c) else 0) i
theorem c_worth_le {b : BS} {hm : Nat} {p : CLS} (hB : VB b) (i : Nat) (fr : Bool) : w_worth (c_vw b hm p) i fr ≤ 3 := by
  have h6 := hB.2.2.1 i
  rcases (show b_k b i = 0 ∨ b_k b i = 1 ∨ b_k b i = 2 ∨ b_k b i = 3 ∨ b_k b i = 4 ∨ b_k b i = 5 ∨ b_k b i = 6 by omega) with e | e | e | e | e | e | e
  · rw [ww_0 e]; decide
  · rw [ww_1 e]; omega
  · rw [ww_2 e]; split <;> omega
  · rw [ww_3 e]; split <;> omega
  · rw [ww_4 e]; split <;> omega
  · rw [ww_5 e]; split; omega; split <;> omega
  · rw [ww_6 e]; exact hB.2.2.2.2.2.1 _
theorem c_cs_le {b : BS} {hm : Nat} {p : CLS} (hB : VB b) (a c i : Nat) : w_cs (c_vw b hm p) a c i ≤ 3 * i := sm_le (fun j _ => by
  split
  · exact c_worth_le hB j _
  · omega)
abbrev rm_X9_commonOf : Room := { frames := 9, cells := 0, slots := 0, locals := 523 }
set_option maxRecDepth 20000 in
theorem c_X9_commonOf (G : v_G) (l : Launch) {K : Nat × v_TY} {I : Nat → Nat → Int32} {J : Nat → Nat → Int64} {R : Nat → Nat → Option Nat} (hL : Lay K R) {h : Nat} (hh : v_3 h) {k : Nat} {b : BS} {hm : Nat} {p : CLS} (hv : CV K I R h b hm p) (hk : k < 15) : v_M G l yX9_commonOf cX9_commonOf 7 (some .int) rm_X9_commonOf [.ref h, .int (nI k)] (K, I, J, R) (v_Qi G (fun (x : Int32) (M' : v_MM) => x = nI (w_com (c_vw b hm p) (w_l k) (w_g k)) ∧ M' = (K, I, J, R))) := by
  refine v_of [some (.ref h), some (.int (nI k)), none, none, none, none, none] (by decide) (Nat.le_of_ble_eq_true rfl) (Nat.le_of_ble_eq_true rfl) rfl ?_
  have hV := VH_of hL hh
  have hg := w_g_in k hk
  have hB := hv.2.1
  have hn6 := hB.1
  refine v_aload_n (pc := 0) dX9_commonOf_0 rfl rfl ?_
  refine v_getH (pc := 1) fg_X9_17_9 dX9_commonOf_1 hV.1 hV.2.2.2.1 ?_
  refine v_gets (pc := 4) (i := 0) (nm := "LESSER") (by decide) (Or.inr gs_X9_95) dX9_commonOf_4 ?_
  refine v_iload_n (pc := 7) dX9_commonOf_7 rfl rfl ?_
  refine v_stN0 (pc := 8) dX9_commonOf_8 (by omega) ?_
  refine v_ialoadN (pc := 9) dX9_commonOf_9 hV.2.1.2.1 ⟨by omega, by omega⟩ (hv.1.2.2.2.1 _ (by omega)) ?_
  refine v_aload_n (pc := 10) dX9_commonOf_10 rfl rfl ?_
  refine v_getH (pc := 11) fg_X9_17_9 dX9_commonOf_11 hV.1 hV.2.2.2.1 ?_
  refine v_gets (pc := 14) (i := 1) (nm := "GREATER") (by decide) (Or.inr gs_X9_98) dX9_commonOf_14 ?_
  refine v_iload_n (pc := 17) dX9_commonOf_17 rfl rfl ?_
  refine v_stN1 (pc := 18) dX9_commonOf_18 (by omega) ?_
  refine v_ialoadN (pc := 19) dX9_commonOf_19 hV.2.1.2.1 ⟨by omega, by omega⟩ (hv.1.2.2.2.1 _ (by omega)) ?_
  refine v_iand (pc := 20) dX9_commonOf_20 ?_
  refine v_top (nx_and _ _) ?_
  refine v_istore_n (pc := 21) dX9_commonOf_21 rfl (by decide) rfl ?_
  refine v_aload_n (pc := 22) dX9_commonOf_22 rfl rfl ?_
  refine v_iload_n (pc := 23) dX9_commonOf_23 rfl rfl ?_
  refine v_ci (pc := 24) (v_rV (c_X9_areFriends G l hL hh hv.1.2.2.2.1 hk) rfl kV_X9_104 (v_rcO hV.1 rfl (by decide)) ⟨Nat.le_of_ble_eq_true rfl, Nat.le_of_ble_eq_true rfl⟩ ⟨Nat.le_of_ble_eq_true rfl, Nat.le_of_ble_eq_true rfl⟩ dX9_commonOf_24 (Nat.le_of_ble_eq_true rfl)) (fun x24 M24 h24 => ?_)
  obtain ⟨rfl, rfl⟩ := h24
  refine v_istore_n (pc := 27) dX9_commonOf_27 rfl (by decide) rfl ?_
  refine v_iconst (pc := 28) (v := nI 0) dX9_commonOf_28 (by decide) ?_
  refine v_istore (pc := 29) dX9_commonOf_29 (by decide) rfl ?_
  refine v_iconst (pc := 31) (v := nI 0) dX9_commonOf_31 (by decide) ?_
  refine v_istore (pc := 32) dX9_commonOf_32 (by decide) rfl ?_
  have key : ∀ i, i ≤ b_n b → ∀ z6 : Option Value, v_V G l yX9_commonOf cX9_commonOf 7 (some .int) rm_X9_commonOf (v_Qi G (fun (x : Int32) (M' : v_MM) => x = nI (w_com (c_vw b hm p) (w_l k) (w_g k)) ∧ M' = (K, I, J, R))) 0 0 34 [some (.ref h), some (.int (nI k)), some (.int (nI (b_m b (w_l k) &&& b_m b (w_g k)))), some (.int (v_p ((b_m b (w_l k)).testBit (w_g k) = true))), some (.int (nI (w_cs (c_vw b hm p) (w_l k) (w_g k) i))), some (.int (nI i)), z6] [] (K, I, J, R) := by
    refine v_down (b_n b) (fun i hi ih => ?_)
    intro z6
    have hcs := c_cs_le (hm := hm) (p := p) hB (w_l k) (w_g k) i
    refine v_iload (pc := 34) dX9_commonOf_34 rfl ?_
    refine v_aload_n (pc := 36) dX9_commonOf_36 rfl rfl ?_
    refine v_getV (pc := 37) fg_X9_52_9 dX9_commonOf_37 hV.1 hv.1.1 ?_
    refine v_icmp_geN (pc := 40) (tgt := 84) ⟨by omega, by omega⟩ dX9_commonOf_40 (by decide) (fun c40 => ?_) (fun c40 => ?_)
    · refine v_iload (pc := 84) dX9_commonOf_84 rfl ?_
      exact v_iret (pc := 86) dX9_commonOf_86 rfl rfl (Nat.le_of_ble_eq_true rfl) (Nat.le_of_ble_eq_true rfl) ⟨by rw [w_com, show w_n (c_vw b hm p) = i from (show b_n b = i by omega)]; rfl, rfl⟩
    · obtain ⟨pa, hpa, hps⟩ := hv.2.2.2.1 i (by omega)
      have hbit : ((b_m b (w_l k) &&& b_m b (w_g k)).testBit i = true) ↔ ((w_a (c_vw b hm p) i (w_l k) && w_a (c_vw b hm p) i (w_g k)) = true) := by
        show _ ↔ (((b_m b i).testBit (w_l k) && (b_m b i).testBit (w_g k)) = true)
        rw [Nat.testBit_and, hB.2.2.2.2.2.2.1 (w_l k) i, hB.2.2.2.2.2.2.1 (w_g k) i]
      have eg : w_cs (c_vw b hm p) (w_l k) (w_g k) (i + 1) = w_cs (c_vw b hm p) (w_l k) (w_g k) i + (if (w_a (c_vw b hm p) i (w_l k) && w_a (c_vw b hm p) i (w_g k)) = true then w_worth (c_vw b hm p) i ((b_m b (w_l k)).testBit (w_g k)) else 0) := rfl
      have goon := fun z => ih (i + 1) (by omega) (by omega) z
      rw [eg] at goon
      refine v_aload_n (pc := 43) dX9_commonOf_43 rfl rfl ?_
      refine v_getH (pc := 44) fg_X9_11_9 dX9_commonOf_44 hV.1 hV.2.2.1 ?_
      refine v_iload (pc := 47) dX9_commonOf_47 rfl ?_
      refine v_aaloadNH (pc := 49) dX9_commonOf_49 hV.2.1.1 (Or.inl rfl) ⟨by omega, by omega⟩ hpa ?_
      refine v_astore (pc := 50) dX9_commonOf_50 (by decide) rfl ?_
      refine v_iload_n (pc := 52) dX9_commonOf_52 rfl rfl ?_
      refine v_iload (pc := 53) dX9_commonOf_53 rfl ?_
      refine v_ci (pc := 55) (v_rSN (c_X11_hasBit G l (by omega)) rfl kSN_X9_82 ⟨Nat.le_of_ble_eq_true rfl, Nat.le_of_ble_eq_true rfl⟩ ⟨Nat.le_of_ble_eq_true rfl, Nat.le_of_ble_eq_true rfl⟩ dX9_commonOf_55 (Nat.le_of_ble_eq_true rfl)) (fun x55 M55 h55 => ?_)
      obtain ⟨rfl, rfl⟩ := h55
      refine v_if_eqP (pc := 58) (tgt := 78) dX9_commonOf_58 (by decide) (fun c58 => ?_) (fun c58 => ?_)
      · rw [w_bt (by omega)] at c58
        refine v_iincN (pc := 78) (b := 1) dX9_commonOf_78 rfl (by decide) (by decide) rfl ?_
        refine v_goto (pc := 81) (tgt := 34) dX9_commonOf_81 (by decide) ?_
        first
          | (rw [if_pos (hbit.mp c58)] at goon; exact goon _)
          | (rw [if_neg (fun z => c58 (hbit.mpr z)), Nat.add_zero] at goon; exact goon _)
      · rw [w_bt (by omega)] at c58
        refine v_aload (pc := 61) dX9_commonOf_61 rfl ?_
        refine v_ifnull (pc := 63) dX9_commonOf_63 ?_
        refine v_iload (pc := 66) dX9_commonOf_66 rfl ?_
        refine v_aload (pc := 68) dX9_commonOf_68 rfl ?_
        refine v_aload_n (pc := 70) dX9_commonOf_70 rfl rfl ?_
        refine v_iload_n (pc := 71) dX9_commonOf_71 rfl rfl ?_
        refine v_ci (Z' := rm_X2_worth) (rest := [.int (nI (w_cs (c_vw b hm p) (w_l k) (w_g k) i))]) (Post := fun (x : Int32) (M' : v_MM) => x = nI (w_worth (c_vw b hm p) i ((b_m b (w_l k)).testBit (w_g k))) ∧ M' = (K, I, J, R)) ?_ (fun x72 M72 h72 => ?_)
        · have h6 := hB.2.2.1 i
          rcases (show b_k b i = 0 ∨ b_k b i = 1 ∨ b_k b i = 2 ∨ b_k b i = 3 ∨ b_k b i = 4 ∨ b_k b i = 5 ∨ b_k b i = 6 by omega) with e | e | e | e | e | e | e
          · rw [e] at hps; exact v_rU (c_X2_worth G l hL hh hv hps e (by omega)) rfl kU_X9_111_2 (v_rcO hps.2.1 rfl (by decide)) ⟨Nat.le_of_ble_eq_true rfl, Nat.le_of_ble_eq_true rfl⟩ ⟨Nat.le_of_ble_eq_true rfl, Nat.le_of_ble_eq_true rfl⟩ dX9_commonOf_72 (Nat.le_of_ble_eq_true rfl)
          · rw [e] at hps; exact v_rU (c_X10_worth G l hL hh hv hps e (by omega)) rfl kU_X9_111_10 (v_rcO hps.2.1 rfl (by decide)) ⟨Nat.le_of_ble_eq_true rfl, Nat.le_of_ble_eq_true rfl⟩ ⟨Nat.le_of_ble_eq_true rfl, Nat.le_of_ble_eq_true rfl⟩ dX9_commonOf_72 (Nat.le_of_ble_eq_true rfl)
          · rw [e] at hps; exact v_rU (c_X3_worth G l hL hh hv hps e (by omega)) rfl kU_X9_111_3 (v_rcO hps.2.1 rfl (by decide)) ⟨Nat.le_of_ble_eq_true rfl, Nat.le_of_ble_eq_true rfl⟩ ⟨Nat.le_of_ble_eq_true rfl, Nat.le_of_ble_eq_true rfl⟩ dX9_commonOf_72 (Nat.le_of_ble_eq_true rfl)
          · rw [e] at hps; exact v_rU (c_X1_worth G l hL hh hv hps e (by omega)) rfl kU_X9_111_1 (v_rcO hps.2.1 rfl (by decide)) ⟨Nat.le_of_ble_eq_true rfl, Nat.le_of_ble_eq_true rfl⟩ ⟨Nat.le_of_ble_eq_true rfl, Nat.le_of_ble_eq_true rfl⟩ dX9_commonOf_72 (Nat.le_of_ble_eq_true rfl)
          · rw [e] at hps; exact v_rU (c_X0_worth G l hL hh hv hps e (by omega)) rfl kU_X9_111_0 (v_rcO hps.2.1 rfl (by decide)) ⟨Nat.le_of_ble_eq_true rfl, Nat.le_of_ble_eq_true rfl⟩ ⟨Nat.le_of_ble_eq_true rfl, Nat.le_of_ble_eq_true rfl⟩ dX9_commonOf_72 (Nat.le_of_ble_eq_true rfl)
          · rw [e] at hps; exact v_rU (c_X4_worth G l hL hh hv hps e (by omega)) rfl kU_X9_111_4 (v_rcO hps.2.1 rfl (by decide)) ⟨Nat.le_of_ble_eq_true rfl, Nat.le_of_ble_eq_true rfl⟩ ⟨Nat.le_of_ble_eq_true rfl, Nat.le_of_ble_eq_true rfl⟩ dX9_commonOf_72 (Nat.le_of_ble_eq_true rfl)
          · rw [e] at hps; exact v_rU (c_X6_worth G l hL hh hv hps e (by omega)) rfl kU_X9_111_6 (v_rcO hps.2.1 rfl (by decide)) ⟨Nat.le_of_ble_eq_true rfl, Nat.le_of_ble_eq_true rfl⟩ ⟨Nat.le_of_ble_eq_true rfl, Nat.le_of_ble_eq_true rfl⟩ dX9_commonOf_72 (Nat.le_of_ble_eq_true rfl)
        obtain ⟨rfl, rfl⟩ := h72
        refine v_iaddN (pc := 75) dX9_commonOf_75 ?_
        refine v_istore (pc := 76) dX9_commonOf_76 (by decide) rfl ?_
        refine v_iincN (pc := 78) (b := 1) dX9_commonOf_78 rfl (by decide) (by decide) rfl ?_
        refine v_goto (pc := 81) (tgt := 34) dX9_commonOf_81 (by decide) ?_
        first
          | (rw [if_pos (hbit.mp c58)] at goon; exact goon _)
          | (rw [if_neg (fun z => c58 (hbit.mpr z)), Nat.add_zero] at goon; exact goon _)
  exact key 0 (Nat.zero_le _) none
