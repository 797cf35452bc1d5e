/-! THE REFERENCE: lay, turns; writes in a row -/
/-- the first i places of the array h are f's -/
def v_to (I : Nat → Nat → Int32) (h : Nat) (f : Nat → Int32) (i : Nat) : Nat → Nat → Int32 := fun a b => if a = h ∧ b < i then f b else I a b
theorem v_to_0 {I : Nat → Nat → Int32} {h : Nat} {f : Nat → Int32} : v_to I h f 0 = I := by funext a b; simp [v_to]
theorem v_to_s {I : Nat → Nat → Int32} {h : Nat} {f : Nat → Int32} {i : Nat} {x : Int32} (hx : x = f i) : v_u (v_to I h f i) h i x = v_to I h f (i + 1) := by
  subst hx
  funext a b
  simp only [v_u, v_to]
  by_cases ha : a = h
  · by_cases hb : b = i
    · subst hb; simp [ha]
    · have : (b < i + 1) = (b < i) := propext ⟨fun z => by omega, fun z => by omega⟩
      simp [ha, hb, this]
  · simp [ha]
theorem v_to_h {I : Nat → Nat → Int32} {h : Nat} {f : Nat → Int32} {i a b : Nat} (n : a ≠ h) : v_to I h f i a b = I a b := by simp [v_to, n]
theorem v_to_ge {I : Nat → Nat → Int32} {h : Nat} {f : Nat → Int32} {i a b : Nat} (n : i ≤ b) : v_to I h f i a b = I a b := by simp [v_to, Nat.not_lt.mpr n]
theorem v_to_lt {I : Nat → Nat → Int32} {h : Nat} {f : Nat → Int32} {i b : Nat} (n : b < i) : v_to I h f i h b = f b := by simp [v_to, n]
theorem v_shl1 : ∀ b, b < 31 → nI 1 <<< (nI b &&& 31) = nI (2 ^ b) := by decide +kernel
theorem nx_or (a b : Nat) : nI a ||| nI b = nI (a ||| b) := by
  apply b_ext
  intro i hi
  rw [b_or, w_bt hi, w_bt hi, w_bt hi, Nat.testBit_or]
theorem w_clr : ∀ x, x < 128 → ∀ p, p < 7 → nI x &&& (nI (2 ^ p) ^^^ -1) = nI (x &&& (127 - 2 ^ p)) := by decide +kernel
/-- what lay leaves behind -/
def w_lay (I : Nat → Nat → Int32) (p : Nat) (k n : Int32) : Nat → Nat → Int32 := fun a b =>
  if a = 56 ∧ b = p then k else if a = 57 ∧ b = p then n else if a = 60 ∧ b = p then 0
  else if a = 58 ∧ b < 7 then (if b = p then 0 else I 58 b) &&& (nI (2 ^ p) ^^^ -1) else if a = 59 ∧ 4 * p ≤ b ∧ b < 4 * p + 4 then 0 else I a b
abbrev rm_X12_lay : Room := { frames := 0, cells := 0, slots := 0, locals := 0 }
set_option maxRecDepth 20000 in
theorem c_X12_lay (G : v_G) (l : Launch) {K : Nat × v_TY} {I : Nat → Nat → Int32} {J : Nat → Nat → Int64} {R : Nat → Nat → Option Nat} (hL : Lay K R) {p : Nat} {k n : Int32} (hp : p < 7) : v_M G l yX12_lay cX12_lay 5 none rm_X12_lay [.ref 55, .int (nI p), .int k, .int n] (K, I, J, R) (v_Qv G (fun (M' : v_MM) => M' = (K, w_lay I p k n, J, R))) := by
  refine v_of [some (.ref 55), some (.int (nI p)), some (.int k), some (.int n), none] (by decide) (Nat.le_of_ble_eq_true rfl) (Nat.le_of_ble_eq_true rfl) rfl ?_
  have loop2 : ∀ j, j ≤ 4 → v_V G l yX12_lay cX12_lay 5 none rm_X12_lay (v_Qv G (fun (M' : v_MM) => M' = (K, w_lay I p k n, J, R))) 0 0 62 [some (.ref 55), some (.int (nI p)), some (.int k), some (.int n), some (.int (nI j))] [] (K, (fun a b => if a = 59 ∧ 4 * p ≤ b ∧ b < 4 * p + j then 0 else (v_to (v_u (v_u (v_u (v_u I 56 p k) 57 p n) 58 p (nI 0)) 60 p (nI 0)) 58 (fun b => (if b = p then 0 else I 58 b) &&& (nI (2 ^ p) ^^^ -1)) 7) a b), J, R) := by
    refine v_down 4 (fun j hj ih => ?_)
    refine v_iload (pc := 62) dX12_lay_62 rfl ?_
    refine v_iconst (pc := 64) (v := nI 4) dX12_lay_64 (by decide) ?_
    refine v_icmp_geN (pc := 65) (tgt := 86) ⟨by omega, by omega⟩ dX12_lay_65 (by decide) (fun c65 => ?_) (fun c65 => ?_)
    · exact v_vret (pc := 86) dX12_lay_86 rfl (Nat.le_of_ble_eq_true rfl) (Nat.le_of_ble_eq_true rfl) (by
        have hj4 : j = 4 := by omega
        subst hj4
        congr 2
        funext a b
        simp only [w_lay, v_to, v_u]
        by_cases h1 : a = 59 ∧ 4 * p ≤ b ∧ b < 4 * p + 4
        · obtain ⟨rfl, h2⟩ := h1
          simp [h2]
        · simp only [h1, if_false]
          by_cases h2 : a = 58 ∧ b < 7
          · obtain ⟨rfl, h3⟩ := h2
            simp [h3]
          · simp only [h2, if_false]
            by_cases h4 : a = 60 ∧ b = p
            · obtain ⟨rfl, rfl⟩ := h4
              simp [show nI 0 = (0 : Int32) from rfl]
            · by_cases h5 : a = 58
              · subst h5
                have : b ≠ p := by omega
                simp [this]
              · simp only [h4, h5, false_and, if_false]
                by_cases h6 : a = 56
                · subst h6; simp
                · by_cases h7 : a = 57
                  · subst h7; simp
                  · simp [h6, h7])
    · refine v_aload_n (pc := 68) dX12_lay_68 rfl rfl ?_
      refine v_getH (pc := 69) fg_X12_29_12 dX12_lay_69 (li_55 hL) (lr_55_6 hL) ?_
      refine v_iconst (pc := 72) (v := nI 4) dX12_lay_72 (by decide) ?_
      refine v_iload_n (pc := 73) dX12_lay_73 rfl rfl ?_
      refine v_imulN (pc := 74) dX12_lay_74 ?_
      refine v_iload (pc := 75) dX12_lay_75 rfl ?_
      refine v_iaddN (pc := 77) dX12_lay_77 ?_
      refine v_iconst (pc := 78) (v := nI 0) dX12_lay_78 (by decide) ?_
      refine v_iastoreN (pc := 79) dX12_lay_79 (li_59 hL) ⟨by omega, by omega⟩ ?_
      refine v_iincN (pc := 80) (b := 1) dX12_lay_80 rfl (by decide) (by decide) rfl ?_
      refine v_goto (pc := 83) (tgt := 62) dX12_lay_83 (by decide) ?_
      refine v_mem ?_ (ih (j + 1) (by omega) (by omega))
      congr 2
      funext a b
      simp only [v_u]
      by_cases h1 : a = 59
      · by_cases h2 : b = 4 * p + j
        · have h3 : 4 * p ≤ b ∧ b < 4 * p + (j + 1) := by omega
          simp [h1, h2, show nI 0 = (0 : Int32) from rfl]
        · have h3 : (b < 4 * p + (j + 1)) = (b < 4 * p + j) := propext ⟨fun z => by omega, fun z => by omega⟩
          simp [h1, h2, h3]
      · simp [h1]
  have loop1 : ∀ i, i ≤ 7 → v_V G l yX12_lay cX12_lay 5 none rm_X12_lay (v_Qv G (fun (M' : v_MM) => M' = (K, w_lay I p k n, J, R))) 0 0 31 [some (.ref 55), some (.int (nI p)), some (.int k), some (.int n), some (.int (nI i))] [] (K, v_to (v_u (v_u (v_u (v_u I 56 p k) 57 p n) 58 p (nI 0)) 60 p (nI 0)) 58 (fun b => (if b = p then 0 else I 58 b) &&& (nI (2 ^ p) ^^^ -1)) i, J, R) := by
    refine v_down 7 (fun i hi ih => ?_)
    refine v_iload (pc := 31) dX12_lay_31 rfl ?_
    refine v_bipush (pc := 33) (v := nI 7) dX12_lay_33 (by decide) ?_
    refine v_icmp_geN (pc := 35) (tgt := 59) ⟨by omega, by omega⟩ dX12_lay_35 (by decide) (fun c35 => ?_) (fun c35 => ?_)
    · refine v_iconst (pc := 59) (v := nI 0) dX12_lay_59 (by decide) ?_
      refine v_istore (pc := 60) dX12_lay_60 (by decide) rfl ?_
      have hi7 : i = 7 := by omega
      subst hi7
      refine v_mem ?_ (loop2 0 (by omega))
      congr 2
      funext a b
      rw [if_neg (fun z => absurd z.2 (by omega))]
    · refine v_aload_n (pc := 38) dX12_lay_38 rfl rfl ?_
      refine v_getH (pc := 39) fg_X12_26_12 dX12_lay_39 (li_55 hL) (lr_55_5 hL) ?_
      refine v_iload (pc := 42) dX12_lay_42 rfl ?_
      refine v_dup2 (pc := 44) dX12_lay_44 rfl rfl ?_
      refine v_ialoadN (pc := 45) dX12_lay_45 (li_58 hL) ⟨by omega, by omega⟩ (show v_to (v_u (v_u (v_u (v_u I 56 p k) 57 p n) 58 p (nI 0)) 60 p (nI 0)) 58 (fun b => (if b = p then 0 else I 58 b) &&& (nI (2 ^ p) ^^^ -1)) i 58 i = (if i = p then 0 else I 58 i) by rw [v_to_ge (Nat.le_refl i)]; by_cases h : i = p <;> simp [v_u, h, show nI 0 = (0 : Int32) from rfl]) ?_
      refine v_iconst (pc := 46) (v := nI 1) dX12_lay_46 (by decide) ?_
      refine v_iload_n (pc := 47) dX12_lay_47 rfl rfl ?_
      refine v_ishl (pc := 48) dX12_lay_48 ?_
      refine v_top (v_shl1 p (by omega)) ?_
      refine v_iconst (pc := 49) (v := -1) dX12_lay_49 (by decide) ?_
      refine v_ixor (pc := 50) dX12_lay_50 ?_
      refine v_iand (pc := 51) dX12_lay_51 ?_
      refine v_iastoreN (pc := 52) dX12_lay_52 (li_58 hL) ⟨by omega, by omega⟩ ?_
      refine v_iincN (pc := 53) (b := 1) dX12_lay_53 rfl (by decide) (by decide) rfl ?_
      refine v_goto (pc := 56) (tgt := 31) dX12_lay_56 (by decide) ?_
      rw [v_to_s (by rfl)]
      exact ih (i + 1) (by omega) (by omega)
  refine v_aload_n (pc := 0) dX12_lay_0 rfl rfl ?_
  refine v_getH (pc := 1) fg_X12_19_12 dX12_lay_1 (li_55 hL) (lr_55_3 hL) ?_
  refine v_iload_n (pc := 4) dX12_lay_4 rfl rfl ?_
  refine v_iload_n (pc := 5) dX12_lay_5 rfl rfl ?_
  refine v_iastoreN (pc := 6) dX12_lay_6 (li_56 hL) ⟨by omega, by omega⟩ ?_
  refine v_aload_n (pc := 7) dX12_lay_7 rfl rfl ?_
  refine v_getH (pc := 8) fg_X12_23_12 dX12_lay_8 (li_55 hL) (lr_55_4 hL) ?_
  refine v_iload_n (pc := 11) dX12_lay_11 rfl rfl ?_
  refine v_iload_n (pc := 12) dX12_lay_12 rfl rfl ?_
  refine v_iastoreN (pc := 13) dX12_lay_13 (li_57 hL) ⟨by omega, by omega⟩ ?_
  refine v_aload_n (pc := 14) dX12_lay_14 rfl rfl ?_
  refine v_getH (pc := 15) fg_X12_26_12 dX12_lay_15 (li_55 hL) (lr_55_5 hL) ?_
  refine v_iload_n (pc := 18) dX12_lay_18 rfl rfl ?_
  refine v_iconst (pc := 19) (v := nI 0) dX12_lay_19 (by decide) ?_
  refine v_iastoreN (pc := 20) dX12_lay_20 (li_58 hL) ⟨by omega, by omega⟩ ?_
  refine v_aload_n (pc := 21) dX12_lay_21 rfl rfl ?_
  refine v_getH (pc := 22) fg_X12_32_12 dX12_lay_22 (li_55 hL) (lr_55_7 hL) ?_
  refine v_iload_n (pc := 25) dX12_lay_25 rfl rfl ?_
  refine v_iconst (pc := 26) (v := nI 0) dX12_lay_26 (by decide) ?_
  refine v_iastoreN (pc := 27) dX12_lay_27 (li_60 hL) ⟨by omega, by omega⟩ ?_
  refine v_iconst (pc := 28) (v := nI 0) dX12_lay_28 (by decide) ?_
  refine v_istore (pc := 29) dX12_lay_29 (by decide) rfl ?_
  have e0 := loop1 0 (by omega)
  rw [v_to_0] at e0
  exact e0
abbrev rm_X12_turns : Room := { frames := 0, cells := 0, slots := 0, locals := 0 }
set_option maxRecDepth 20000 in
theorem c_X12_turns (G : v_G) (l : Launch) {K : Nat × v_TY} {I : Nat → Nat → Int32} {J : Nat → Nat → Int64} {R : Nat → Nat → Option Nat} (hL : Lay K R) {a b : Nat} {km : Nat → Nat} (h : ∀ i, i < 7 → I 58 i = nI (km i)) (hk : a < 7 ∧ b < 7 ∧ a ≠ b) : v_M G l yX12_turns cX12_turns 3 none rm_X12_turns [.ref 55, .int (nI a), .int (nI b)] (K, I, J, R) (v_Qv G (fun (M' : v_MM) => M' = (K, v_u (v_u I 58 a (nI (km a ^^^ 2 ^ b))) 58 b (nI (km b ^^^ 2 ^ a)), J, R))) := by
  refine v_of [some (.ref 55), some (.int (nI a)), some (.int (nI b))] (by decide) (Nat.le_of_ble_eq_true rfl) (Nat.le_of_ble_eq_true rfl) rfl ?_
  refine v_aload_n (pc := 0) dX12_turns_0 rfl rfl ?_
  refine v_getH (pc := 1) fg_X12_26_12 dX12_turns_1 (li_55 hL) (lr_55_5 hL) ?_
  refine v_iload_n (pc := 4) dX12_turns_4 rfl rfl ?_
  refine v_dup2 (pc := 5) dX12_turns_5 rfl rfl ?_
  refine v_ialoadN (pc := 6) dX12_turns_6 (li_58 hL) ⟨by omega, by omega⟩ (h a hk.1) ?_
  refine v_iconst (pc := 7) (v := nI 1) dX12_turns_7 (by decide) ?_
  refine v_iload_n (pc := 8) dX12_turns_8 rfl rfl ?_
  refine v_ishl (pc := 9) dX12_turns_9 ?_
  refine v_top (v_shl1 b (by omega)) ?_
  refine v_ixor (pc := 10) dX12_turns_10 ?_
  refine v_top (nx_xor _ _) ?_
  refine v_iastoreN (pc := 11) dX12_turns_11 (li_58 hL) ⟨by omega, by omega⟩ ?_
  refine v_aload_n (pc := 12) dX12_turns_12 rfl rfl ?_
  refine v_getH (pc := 13) fg_X12_26_12 dX12_turns_13 (li_55 hL) (lr_55_5 hL) ?_
  refine v_iload_n (pc := 16) dX12_turns_16 rfl rfl ?_
  refine v_dup2 (pc := 17) dX12_turns_17 rfl rfl ?_
  refine v_ialoadN (pc := 18) dX12_turns_18 (li_58 hL) ⟨by omega, by omega⟩ (show v_u I 58 a (nI (km a ^^^ 2 ^ b)) 58 b = nI (km b) by rw [v_u_k (Ne.symm hk.2.2)]; exact h b hk.2.1) ?_
  refine v_iconst (pc := 19) (v := nI 1) dX12_turns_19 (by decide) ?_
  refine v_iload_n (pc := 20) dX12_turns_20 rfl rfl ?_
  refine v_ishl (pc := 21) dX12_turns_21 ?_
  refine v_top (v_shl1 a (by omega)) ?_
  refine v_ixor (pc := 22) dX12_turns_22 ?_
  refine v_top (nx_xor _ _) ?_
  refine v_iastoreN (pc := 23) dX12_turns_23 (li_58 hL) ⟨by omega, by omega⟩ ?_
  exact v_vret (pc := 24) dX12_turns_24 rfl (Nat.le_of_ble_eq_true rfl) (Nat.le_of_ble_eq_true rfl) rfl
