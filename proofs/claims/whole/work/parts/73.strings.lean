/-! THE LIBRARY's texts: length, charAt, indexOf, for the seven texts of the program -/
def t_b (i j : Nat) : Int32 := (v_tby.getD i []).getD j 0
def t_n (i : Nat) : Nat := v_tln.getD i 0
theorem t_n_lt {i : Nat} (h : i < 7) : t_n i ≤ 10 := by
  rcases (show i = 0 ∨ i = 1 ∨ i = 2 ∨ i = 3 ∨ i = 4 ∨ i = 5 ∨ i = 6 by omega) with rfl | rfl | rfl | rfl | rfl | rfl | rfl <;> decide
theorem t_b_c : ∀ i, i < 7 → ∀ j, j < 10 → ((t_b i j &&& nI 255).toUInt32 % 65536).toInt32 = t_b i j := by decide +kernel
theorem t_b_n : ∀ i, i < 7 → ∀ j, j < 10 → vp_nar .char (t_b i j) = t_b i j := by decide +kernel
theorem t_ns : ∀ i, i < 7 → nI (t_n i) >>> (0 &&& 31) = nI (t_n i) := by decide +kernel
def t_ix (i c : Nat) : Int32 := (w_ff (fun j => if t_b i j = nI c then some (nI j) else none) (t_n i)).getD (-1)
theorem v_rcT {G : v_G} {M : v_MM} {i : Nat} (hi : i < 7) : v_rc G M (1000000 + (10 + i)) "java/lang/String" := by
  rw [show 1000000 + (10 + i) = 1000010 + i by omega]; exact v_rcS hi
theorem b_i9 : ∀ s, s < 128 → (nI s).toInt8.toInt32 = nI s := by decide +kernel
abbrev rm_J0_coder_7d493 : Room := { frames := 0, cells := 0, slots := 0, locals := 0 }
set_option maxRecDepth 20000 in
theorem c_J0_coder_7d493 (G : v_G) (l : Launch) {K : Nat × v_TY} {I : Nat → Nat → Int32} {J : Nat → Nat → Int64} {R : Nat → Nat → Option Nat} {i : Nat} (hi : i < 7) : v_M G l yJ0_coder_7d493 cJ0_coder_7d493 1 (some .byte) rm_J0_coder_7d493 [.ref (1000000 + (10 + i))] (K, I, J, R) (v_Qi G (fun (x : Int32) (M' : v_MM) => x = 0 ∧ M' = (K, I, J, R))) := by
  refine v_of [some (.ref (1000000 + (10 + i)))] (by decide) (Nat.le_of_ble_eq_true rfl) (Nat.le_of_ble_eq_true rfl) rfl ?_
  refine v_getsC (pc := 0) gs_J0_38 dJ0_coder_7d493_0 ?_
  refine v_if_eq (pc := 3) (tgt := 13) dJ0_coder_7d493_3 (by decide) (fun c3 => ?_) (fun c3 => ?_)
  · exact absurd c3 (by decide)
  · refine v_aload_n (pc := 6) dJ0_coder_7d493_6 rfl rfl ?_
    refine v_txC (pc := 7) hi fx_J0_15 dJ0_coder_7d493_7 ?_
    refine v_goto (pc := 10) (tgt := 14) dJ0_coder_7d493_10 (by decide) ?_
    exact v_iret (pc := 14) dJ0_coder_7d493_14 rfl rfl (Nat.le_of_ble_eq_true rfl) (Nat.le_of_ble_eq_true rfl) ⟨rfl, rfl⟩
abbrev rm_J0_isLatin1_aae02 : Room := { frames := 0, cells := 0, slots := 0, locals := 0 }
set_option maxRecDepth 20000 in
theorem c_J0_isLatin1_aae02 (G : v_G) (l : Launch) {K : Nat × v_TY} {I : Nat → Nat → Int32} {J : Nat → Nat → Int64} {R : Nat → Nat → Option Nat} {i : Nat} (hi : i < 7) : v_M G l yJ0_isLatin1_aae02 cJ0_isLatin1_aae02 1 (some .boolean) rm_J0_isLatin1_aae02 [.ref (1000000 + (10 + i))] (K, I, J, R) (v_Qi G (fun (x : Int32) (M' : v_MM) => x = 1 ∧ M' = (K, I, J, R))) := by
  refine v_of [some (.ref (1000000 + (10 + i)))] (by decide) (Nat.le_of_ble_eq_true rfl) (Nat.le_of_ble_eq_true rfl) rfl ?_
  refine v_getsC (pc := 0) gs_J0_38 dJ0_isLatin1_aae02_0 ?_
  refine v_if_eq (pc := 3) (tgt := 17) dJ0_isLatin1_aae02_3 (by decide) (fun c3 => ?_) (fun c3 => ?_)
  · exact absurd c3 (by decide)
  · refine v_aload_n (pc := 6) dJ0_isLatin1_aae02_6 rfl rfl ?_
    refine v_txC (pc := 7) hi fx_J0_15 dJ0_isLatin1_aae02_7 ?_
    refine v_if_ne (pc := 10) (tgt := 17) dJ0_isLatin1_aae02_10 (by decide) (fun c10 => ?_) (fun c10 => ?_)
    · exact absurd rfl c10
    · refine v_iconst (pc := 13) (v := nI 1) dJ0_isLatin1_aae02_13 (by decide) ?_
      refine v_goto (pc := 14) (tgt := 18) dJ0_isLatin1_aae02_14 (by decide) ?_
      exact v_iret (pc := 18) dJ0_isLatin1_aae02_18 rfl rfl (Nat.le_of_ble_eq_true rfl) (Nat.le_of_ble_eq_true rfl) ⟨rfl, rfl⟩
abbrev rm_J0_length_8abf5 : Room := { frames := 1, cells := 0, slots := 0, locals := 20 }
set_option maxRecDepth 20000 in
theorem c_J0_length_8abf5 (G : v_G) (l : Launch) {K : Nat × v_TY} {I : Nat → Nat → Int32} {J : Nat → Nat → Int64} {R : Nat → Nat → Option Nat} {i : Nat} (hi : i < 7) : v_M G l yJ0_length_8abf5 cJ0_length_8abf5 1 (some .int) rm_J0_length_8abf5 [.ref (1000000 + (10 + i))] (K, I, J, R) (v_Qi G (fun (x : Int32) (M' : v_MM) => x = nI (t_n i) ∧ M' = (K, I, J, R))) := by
  refine v_of [some (.ref (1000000 + (10 + i)))] (by decide) (Nat.le_of_ble_eq_true rfl) (Nat.le_of_ble_eq_true rfl) rfl ?_
  refine v_aload_n (pc := 0) dJ0_length_8abf5_0 rfl rfl ?_
  refine v_txV (pc := 1) hi fx_J0_9 dJ0_length_8abf5_1 ?_
  refine v_txL (pc := 4) hi dJ0_length_8abf5_4 ?_
  refine v_aload_n (pc := 5) dJ0_length_8abf5_5 rfl rfl ?_
  refine v_ci (pc := 6) (v_rV (c_J0_coder_7d493 G l hi) rfl kV_J0_335 (v_rcT hi) ⟨Nat.le_of_ble_eq_true rfl, Nat.le_of_ble_eq_true rfl⟩ ⟨Nat.le_of_ble_eq_true rfl, Nat.le_of_ble_eq_true rfl⟩ dJ0_length_8abf5_6 (Nat.le_of_ble_eq_true rfl)) (fun x6 M6 h6 => ?_)
  obtain ⟨rfl, rfl⟩ := h6
  refine v_ishr (pc := 9) dJ0_length_8abf5_9 ?_
  exact v_iret (pc := 10) dJ0_length_8abf5_10 rfl rfl (Nat.le_of_ble_eq_true rfl) (Nat.le_of_ble_eq_true rfl) ⟨t_ns i hi, rfl⟩
abbrev rm_J3_checkIndex_8e157 : Room := { frames := 0, cells := 0, slots := 0, locals := 0 }
set_option maxRecDepth 20000 in
theorem c_J3_checkIndex_n (G : v_G) (l : Launch) {K : Nat × v_TY} {I : Nat → Nat → Int32} {J : Nat → Nat → Int64} {R : Nat → Nat → Option Nat} {j n : Nat} (hj : j < n ∧ n < 2 ^ 31) : v_M G l yJ3_checkIndex_8e157 cJ3_checkIndex_8e157 3 (some .int) rm_J3_checkIndex_8e157 [.int (nI j), .int (nI n), .null] (K, I, J, R) (v_Qi G (fun (x : Int32) (M' : v_MM) => x = nI j ∧ M' = (K, I, J, R))) := by
  refine v_of [some (.int (nI j)), some (.int (nI n)), some (.null)] (by decide) (Nat.le_of_ble_eq_true rfl) (Nat.le_of_ble_eq_true rfl) rfl ?_
  refine v_iload_n (pc := 0) dJ3_checkIndex_8e157_0 rfl rfl ?_
  refine v_if_ltN (pc := 1) (tgt := 9) (by omega) dJ3_checkIndex_8e157_1 (by decide) ?_
  refine v_iload_n (pc := 4) dJ3_checkIndex_8e157_4 rfl rfl ?_
  refine v_iload_n (pc := 5) dJ3_checkIndex_8e157_5 rfl rfl ?_
  refine v_icmp_ltN (pc := 6) (tgt := 16) ⟨by omega, by omega⟩ dJ3_checkIndex_8e157_6 (by decide) (fun c6 => ?_) (fun c6 => ?_)
  · refine v_iload_n (pc := 16) dJ3_checkIndex_8e157_16 rfl rfl ?_
    exact v_iret (pc := 17) dJ3_checkIndex_8e157_17 rfl rfl (Nat.le_of_ble_eq_true rfl) (Nat.le_of_ble_eq_true rfl) ⟨rfl, rfl⟩
  · exact absurd hj.1 (by omega)
set_option maxRecDepth 20000 in
theorem c_J3_checkIndex_r (G : v_G) (l : Launch) {K : Nat × v_TY} {I : Nat → Nat → Int32} {J : Nat → Nat → Int64} {R : Nat → Nat → Option Nat} {j n : Nat} (hj : j < n ∧ n < 2 ^ 31) {a : Nat} : v_M G l yJ3_checkIndex_8e157 cJ3_checkIndex_8e157 3 (some .int) rm_J3_checkIndex_8e157 [.int (nI j), .int (nI n), .ref a] (K, I, J, R) (v_Qi G (fun (x : Int32) (M' : v_MM) => x = nI j ∧ M' = (K, I, J, R))) := by
  refine v_of [some (.int (nI j)), some (.int (nI n)), some (.ref a)] (by decide) (Nat.le_of_ble_eq_true rfl) (Nat.le_of_ble_eq_true rfl) rfl ?_
  refine v_iload_n (pc := 0) dJ3_checkIndex_8e157_0 rfl rfl ?_
  refine v_if_ltN (pc := 1) (tgt := 9) (by omega) dJ3_checkIndex_8e157_1 (by decide) ?_
  refine v_iload_n (pc := 4) dJ3_checkIndex_8e157_4 rfl rfl ?_
  refine v_iload_n (pc := 5) dJ3_checkIndex_8e157_5 rfl rfl ?_
  refine v_icmp_ltN (pc := 6) (tgt := 16) ⟨by omega, by omega⟩ dJ3_checkIndex_8e157_6 (by decide) (fun c6 => ?_) (fun c6 => ?_)
  · refine v_iload_n (pc := 16) dJ3_checkIndex_8e157_16 rfl rfl ?_
    exact v_iret (pc := 17) dJ3_checkIndex_8e157_17 rfl rfl (Nat.le_of_ble_eq_true rfl) (Nat.le_of_ble_eq_true rfl) ⟨rfl, rfl⟩
  · exact absurd hj.1 (by omega)
abbrev rm_J0_checkIndex_df160 : Room := { frames := 3, cells := 0, slots := 0, locals := 80 }
set_option maxRecDepth 20000 in
theorem c_J0_checkIndex_df160 (G : v_G) (l : Launch) {K : Nat × v_TY} {I : Nat → Nat → Int32} {J : Nat → Nat → Int64} {R : Nat → Nat → Option Nat} {j n : Nat} (hj : j < n ∧ n < 2 ^ 31) : v_M G l yJ0_checkIndex_df160 cJ0_checkIndex_df160 2 none rm_J0_checkIndex_df160 [.int (nI j), .int (nI n)] (K, I, J, R) (v_Qv G (fun (M' : v_MM) => M' = (K, I, J, R))) := by
  refine v_of [some (.int (nI j)), some (.int (nI n))] (by decide) (Nat.le_of_ble_eq_true rfl) (Nat.le_of_ble_eq_true rfl) rfl ?_
  refine v_iload_n (pc := 0) dJ0_checkIndex_df160_0 rfl rfl ?_
  refine v_iload_n (pc := 1) dJ0_checkIndex_df160_1 rfl rfl ?_
  refine v_getsQ (pc := 2) gs_J0_1053 dJ0_checkIndex_df160_2 (fun r => ?_)
  rcases r with _ | a
  · refine v_ci (pc := 5) (v_rS (c_J3_checkIndex_n G l hj) rfl kS_J0_1059 ⟨Nat.le_of_ble_eq_true rfl, Nat.le_of_ble_eq_true rfl⟩ ⟨Nat.le_of_ble_eq_true rfl, Nat.le_of_ble_eq_true rfl⟩ dJ0_checkIndex_df160_5 (Nat.le_of_ble_eq_true rfl)) (fun x5 M5 h5 => ?_)
    obtain ⟨rfl, rfl⟩ := h5
    refine v_pop (pc := 8) dJ0_checkIndex_df160_8 rfl ?_
    exact v_vret (pc := 9) dJ0_checkIndex_df160_9 rfl (Nat.le_of_ble_eq_true rfl) (Nat.le_of_ble_eq_true rfl) rfl
  · refine v_ci (pc := 5) (v_rS (c_J3_checkIndex_r G l hj) rfl kS_J0_1059 ⟨Nat.le_of_ble_eq_true rfl, Nat.le_of_ble_eq_true rfl⟩ ⟨Nat.le_of_ble_eq_true rfl, Nat.le_of_ble_eq_true rfl⟩ dJ0_checkIndex_df160_5 (Nat.le_of_ble_eq_true rfl)) (fun x5 M5 h5 => ?_)
    obtain ⟨rfl, rfl⟩ := h5
    refine v_pop (pc := 8) dJ0_checkIndex_df160_8 rfl ?_
    exact v_vret (pc := 9) dJ0_checkIndex_df160_9 rfl (Nat.le_of_ble_eq_true rfl) (Nat.le_of_ble_eq_true rfl) rfl
abbrev rm_J1_charAt_3b067 : Room := { frames := 4, cells := 0, slots := 0, locals := 101 }
set_option maxRecDepth 20000 in
theorem c_J1_charAt_3b067 (G : v_G) (l : Launch) {K : Nat × v_TY} {I : Nat → Nat → Int32} {J : Nat → Nat → Int64} {R : Nat → Nat → Option Nat} {i j : Nat} (hi : i < 7) (hj : j < t_n i) : v_M G l yJ1_charAt_3b067 cJ1_charAt_3b067 2 (some .char) rm_J1_charAt_3b067 [.ref (1000000 + (20 + i)), .int (nI j)] (K, I, J, R) (v_Qi G (fun (x : Int32) (M' : v_MM) => x = t_b i j ∧ M' = (K, I, J, R))) := by
  refine v_of [some (.ref (1000000 + (20 + i))), some (.int (nI j))] (by decide) (Nat.le_of_ble_eq_true rfl) (Nat.le_of_ble_eq_true rfl) rfl ?_
  have h10 := t_n_lt hi
  refine v_iload_n (pc := 0) dJ1_charAt_3b067_0 rfl rfl ?_
  refine v_aload_n (pc := 1) dJ1_charAt_3b067_1 rfl rfl ?_
  refine v_txL (pc := 2) hi dJ1_charAt_3b067_2 ?_
  refine v_cv (pc := 3) (v_rS (c_J0_checkIndex_df160 G l (j := j) (n := t_n i) ⟨hj, by omega⟩) rfl kS_J1_9 ⟨Nat.le_of_ble_eq_true rfl, Nat.le_of_ble_eq_true rfl⟩ ⟨Nat.le_of_ble_eq_true rfl, Nat.le_of_ble_eq_true rfl⟩ dJ1_charAt_3b067_3 (Nat.le_of_ble_eq_true rfl)) (fun M3 h3 => ?_)
  subst h3
  refine v_aload_n (pc := 6) dJ1_charAt_3b067_6 rfl rfl ?_
  refine v_iload_n (pc := 7) dJ1_charAt_3b067_7 rfl rfl ?_
  refine v_txB (pc := 8) hi (vp_in_nI hj (by have := h10; unfold t_n at this; omega)) dJ1_charAt_3b067_8 ?_
  rw [nI_clamp (show j < 2 ^ 31 by omega)]
  refine v_sipush (pc := 9) (v := nI 255) dJ1_charAt_3b067_9 (by decide) ?_
  refine v_iand (pc := 12) dJ1_charAt_3b067_12 ?_
  refine v_i2c (pc := 13) dJ1_charAt_3b067_13 ?_
  exact v_iret (pc := 14) dJ1_charAt_3b067_14 rfl (by rw [show ((((v_tby.getD i []).getD j 0) &&& nI 255).toUInt32 % 65536).toInt32 = t_b i j from t_b_c i hi j (by omega)]; exact congrArg Value.int (t_b_n i hi j (by omega))) (Nat.le_of_ble_eq_true rfl) (Nat.le_of_ble_eq_true rfl) ⟨t_b_c i hi j (by omega), rfl⟩
abbrev rm_J0_charAt_5068e : Room := { frames := 5, cells := 0, slots := 0, locals := 122 }
set_option maxRecDepth 20000 in
theorem c_J0_charAt_5068e (G : v_G) (l : Launch) {K : Nat × v_TY} {I : Nat → Nat → Int32} {J : Nat → Nat → Int64} {R : Nat → Nat → Option Nat} {i j : Nat} (hi : i < 7) (hj : j < t_n i) : v_M G l yJ0_charAt_5068e cJ0_charAt_5068e 2 (some .char) rm_J0_charAt_5068e [.ref (1000000 + (10 + i)), .int (nI j)] (K, I, J, R) (v_Qi G (fun (x : Int32) (M' : v_MM) => x = t_b i j ∧ M' = (K, I, J, R))) := by
  refine v_of [some (.ref (1000000 + (10 + i))), some (.int (nI j))] (by decide) (Nat.le_of_ble_eq_true rfl) (Nat.le_of_ble_eq_true rfl) rfl ?_
  have h10 := t_n_lt hi
  refine v_aload_n (pc := 0) dJ0_charAt_5068e_0 rfl rfl ?_
  refine v_ci (pc := 1) (v_rV (c_J0_isLatin1_aae02 G l hi) rfl kV_J0_492 (v_rcT hi) ⟨Nat.le_of_ble_eq_true rfl, Nat.le_of_ble_eq_true rfl⟩ ⟨Nat.le_of_ble_eq_true rfl, Nat.le_of_ble_eq_true rfl⟩ dJ0_charAt_5068e_1 (Nat.le_of_ble_eq_true rfl)) (fun x1 M1 h1 => ?_)
  obtain ⟨rfl, rfl⟩ := h1
  refine v_if_eq (pc := 4) (tgt := 16) dJ0_charAt_5068e_4 (by decide) (fun c4 => ?_) (fun c4 => ?_)
  · exact absurd c4 (by decide)
  · refine v_aload_n (pc := 7) dJ0_charAt_5068e_7 rfl rfl ?_
    refine v_txV (pc := 8) hi fx_J0_9 dJ0_charAt_5068e_8 ?_
    refine v_iload_n (pc := 11) dJ0_charAt_5068e_11 rfl rfl ?_
    refine v_ci (pc := 12) (v_rS (c_J1_charAt_3b067 G l hi hj) rfl kS_J0_495 ⟨Nat.le_of_ble_eq_true rfl, Nat.le_of_ble_eq_true rfl⟩ ⟨Nat.le_of_ble_eq_true rfl, Nat.le_of_ble_eq_true rfl⟩ dJ0_charAt_5068e_12 (Nat.le_of_ble_eq_true rfl)) (fun x12 M12 h12 => ?_)
    obtain ⟨rfl, rfl⟩ := h12
    exact v_iret (pc := 15) dJ0_charAt_5068e_15 rfl (congrArg Value.int (t_b_n i hi j (by omega))) (Nat.le_of_ble_eq_true rfl) (Nat.le_of_ble_eq_true rfl) ⟨rfl, rfl⟩
abbrev rm_J1_canEncode_9a6ad : Room := { frames := 0, cells := 0, slots := 0, locals := 0 }
set_option maxRecDepth 20000 in
theorem c_J1_canEncode_9a6ad (G : v_G) (l : Launch) {K : Nat × v_TY} {I : Nat → Nat → Int32} {J : Nat → Nat → Int64} {R : Nat → Nat → Option Nat} {c : Nat} (hc : c < 128) : v_M G l yJ1_canEncode_9a6ad cJ1_canEncode_9a6ad 1 (some .boolean) rm_J1_canEncode_9a6ad [.int (nI c)] (K, I, J, R) (v_Qi G (fun (x : Int32) (M' : v_MM) => x = 1 ∧ M' = (K, I, J, R))) := by
  refine v_of [some (.int (nI c))] (by decide) (Nat.le_of_ble_eq_true rfl) (Nat.le_of_ble_eq_true rfl) rfl ?_
  refine v_iload_n (pc := 0) dJ1_canEncode_9a6ad_0 rfl rfl ?_
  refine v_if_ltN (pc := 1) (tgt := 15) (by omega) dJ1_canEncode_9a6ad_1 (by decide) ?_
  refine v_iload_n (pc := 4) dJ1_canEncode_9a6ad_4 rfl rfl ?_
  refine v_sipush (pc := 5) (v := nI 255) dJ1_canEncode_9a6ad_5 (by decide) ?_
  refine v_icmp_gtN (pc := 8) (tgt := 15) ⟨by omega, by omega⟩ dJ1_canEncode_9a6ad_8 (by decide) (fun c8 => ?_) (fun c8 => ?_)
  · exact absurd c8 (by omega)
  · refine v_iconst (pc := 11) (v := nI 1) dJ1_canEncode_9a6ad_11 (by decide) ?_
    refine v_goto (pc := 12) (tgt := 16) dJ1_canEncode_9a6ad_12 (by decide) ?_
    exact v_iret (pc := 16) dJ1_canEncode_9a6ad_16 rfl rfl (Nat.le_of_ble_eq_true rfl) (Nat.le_of_ble_eq_true rfl) ⟨rfl, rfl⟩
abbrev rm_J1_indexOfChar_4cfef : Room := { frames := 0, cells := 0, slots := 0, locals := 0 }
set_option maxRecDepth 20000 in
theorem c_J1_indexOfChar_4cfef (G : v_G) (l : Launch) {K : Nat × v_TY} {I : Nat → Nat → Int32} {J : Nat → Nat → Int64} {R : Nat → Nat → Option Nat} {i c : Nat} (hi : i < 7) (hc : c < 128) : v_M G l yJ1_indexOfChar_4cfef cJ1_indexOfChar_4cfef 6 (some .int) rm_J1_indexOfChar_4cfef [.ref (1000000 + (20 + i)), .int (nI c), .int (nI 0), .int (nI (t_n i))] (K, I, J, R) (v_Qi G (fun (x : Int32) (M' : v_MM) => x = t_ix i c ∧ M' = (K, I, J, R))) := by
  refine v_of [some (.ref (1000000 + (20 + i))), some (.int (nI c)), some (.int (nI 0)), some (.int (nI (t_n i))), none, none] (by decide) (Nat.le_of_ble_eq_true rfl) (Nat.le_of_ble_eq_true rfl) rfl ?_
  have h10 := t_n_lt hi
  refine v_iload_n (pc := 0) dJ1_indexOfChar_4cfef_0 rfl rfl ?_
  refine v_i2b (pc := 1) dJ1_indexOfChar_4cfef_1 ?_
  refine v_top (b_i9 c hc) ?_
  refine v_istore (pc := 2) dJ1_indexOfChar_4cfef_2 (by decide) rfl ?_
  refine v_iload_n (pc := 4) dJ1_indexOfChar_4cfef_4 rfl rfl ?_
  refine v_istore (pc := 5) dJ1_indexOfChar_4cfef_5 (by decide) rfl ?_
  refine v_down (t_n i) (P := fun j => w_ff (fun j => if t_b i j = nI c then some (nI j) else none) j = none → v_V G l yJ1_indexOfChar_4cfef cJ1_indexOfChar_4cfef 6 (some .int) rm_J1_indexOfChar_4cfef (v_Qi G (fun (x : Int32) (M' : v_MM) => x = t_ix i c ∧ M' = (K, I, J, R))) 0 0 7 [some (.ref (1000000 + (20 + i))), some (.int (nI c)), some (.int (nI 0)), some (.int (nI (t_n i))), some (.int (nI c)), some (.int (nI j))] [] (K, I, J, R)) (fun j hj ih => ?_) 0 (by omega) rfl
  intro hf
  refine v_iload (pc := 7) dJ1_indexOfChar_4cfef_7 rfl ?_
  refine v_iload_n (pc := 9) dJ1_indexOfChar_4cfef_9 rfl rfl ?_
  refine v_icmp_geN (pc := 10) (tgt := 31) ⟨by omega, by omega⟩ dJ1_indexOfChar_4cfef_10 (by decide) (fun c10 => ?_) (fun c10 => ?_)
  · refine v_iconst (pc := 31) (v := -1) dJ1_indexOfChar_4cfef_31 (by decide) ?_
    exact v_iret (pc := 32) dJ1_indexOfChar_4cfef_32 rfl rfl (Nat.le_of_ble_eq_true rfl) (Nat.le_of_ble_eq_true rfl) ⟨by first | (rw [t_ix, w_ff_s hf (x := nI j) (if_pos c19) (by omega)]; rfl) | (rw [t_ix, show t_n i = j by omega, hf]; rfl), rfl⟩
  · refine v_aload_n (pc := 13) dJ1_indexOfChar_4cfef_13 rfl rfl ?_
    refine v_iload (pc := 14) dJ1_indexOfChar_4cfef_14 rfl ?_
    refine v_txB (pc := 16) hi (vp_in_nI (show j < v_tln.getD i 0 from c10) (by have := h10; unfold t_n at this; omega)) dJ1_indexOfChar_4cfef_16 ?_
    rw [nI_clamp (show j < 2 ^ 31 by omega)]
    refine v_iload (pc := 17) dJ1_indexOfChar_4cfef_17 rfl ?_
    refine v_icmp_ne (pc := 19) (tgt := 25) dJ1_indexOfChar_4cfef_19 (by decide) (fun c19 => ?_) (fun c19 => ?_)
    · refine v_iincN (pc := 25) (b := 1) dJ1_indexOfChar_4cfef_25 rfl (by decide) (by decide) rfl ?_
      refine v_goto (pc := 28) (tgt := 7) dJ1_indexOfChar_4cfef_28 (by decide) ?_
      exact ih (j + 1) (by omega) (by omega) (w_ff_n hf (if_neg c19))
    · refine v_iload (pc := 22) dJ1_indexOfChar_4cfef_22 rfl ?_
      exact v_iret (pc := 24) dJ1_indexOfChar_4cfef_24 rfl rfl (Nat.le_of_ble_eq_true rfl) (Nat.le_of_ble_eq_true rfl) ⟨by first | (rw [t_ix, w_ff_s hf (x := nI j) (if_pos c19) (by omega)]; rfl) | (rw [t_ix, show t_n i = j by omega, hf]; rfl), rfl⟩
abbrev rm_J1_indexOf_4cfef : Room := { frames := 1, cells := 0, slots := 0, locals := 25 }
set_option maxRecDepth 20000 in
theorem c_J1_indexOf_4cfef (G : v_G) (l : Launch) {K : Nat × v_TY} {I : Nat → Nat → Int32} {J : Nat → Nat → Int64} {R : Nat → Nat → Option Nat} {i c : Nat} (hi : i < 7) (hc : c < 128) : v_M G l yJ1_indexOf_4cfef cJ1_indexOf_4cfef 4 (some .int) rm_J1_indexOf_4cfef [.ref (1000000 + (20 + i)), .int (nI c), .int (nI 0), .int (nI (t_n i))] (K, I, J, R) (v_Qi G (fun (x : Int32) (M' : v_MM) => x = t_ix i c ∧ M' = (K, I, J, R))) := by
  refine v_of [some (.ref (1000000 + (20 + i))), some (.int (nI c)), some (.int (nI 0)), some (.int (nI (t_n i)))] (by decide) (Nat.le_of_ble_eq_true rfl) (Nat.le_of_ble_eq_true rfl) rfl ?_
  have h10 := t_n_lt hi
  have h1 : 0 < t_n i := by
    rcases (show i = 0 ∨ i = 1 ∨ i = 2 ∨ i = 3 ∨ i = 4 ∨ i = 5 ∨ i = 6 by omega) with rfl | rfl | rfl | rfl | rfl | rfl | rfl <;> decide
  refine v_iload_n (pc := 0) dJ1_indexOf_4cfef_0 rfl rfl ?_
  refine v_ci (pc := 1) (v_rS (c_J1_canEncode_9a6ad G l hc) rfl kS_J1_88 ⟨Nat.le_of_ble_eq_true rfl, Nat.le_of_ble_eq_true rfl⟩ ⟨Nat.le_of_ble_eq_true rfl, Nat.le_of_ble_eq_true rfl⟩ dJ1_indexOf_4cfef_1 (Nat.le_of_ble_eq_true rfl)) (fun x1 M1 h1 => ?_)
  obtain ⟨rfl, rfl⟩ := h1
  refine v_if_ne (pc := 4) (tgt := 9) dJ1_indexOf_4cfef_4 (by decide) (fun c4 => ?_) (fun c4 => ?_)
  · refine v_iload_n (pc := 9) dJ1_indexOf_4cfef_9 rfl rfl ?_
    refine v_iconst (pc := 10) (v := nI 0) dJ1_indexOf_4cfef_10 (by decide) ?_
    refine v_mmax (pc := 11) ⟨by omega, by omega⟩ wg_606 ⟨Nat.le_of_ble_eq_true rfl, Nat.le_of_ble_eq_true rfl⟩ ⟨Nat.le_of_ble_eq_true rfl, Nat.le_of_ble_eq_true rfl⟩ dJ1_indexOf_4cfef_11 ?_
    refine v_top (show nI (max 0 0) = nI 0 from rfl) ?_
    refine v_istore_n (pc := 14) dJ1_indexOf_4cfef_14 rfl (by decide) rfl ?_
    refine v_iload_n (pc := 15) dJ1_indexOf_4cfef_15 rfl rfl ?_
    refine v_aload_n (pc := 16) dJ1_indexOf_4cfef_16 rfl rfl ?_
    refine v_txL (pc := 17) hi dJ1_indexOf_4cfef_17 ?_
    rw [show (Int32.ofNat (v_tln.getD i 0)) = nI (t_n i) from rfl]
    refine v_mmin (pc := 18) ⟨by omega, by omega⟩ wg_607 ⟨Nat.le_of_ble_eq_true rfl, Nat.le_of_ble_eq_true rfl⟩ ⟨Nat.le_of_ble_eq_true rfl, Nat.le_of_ble_eq_true rfl⟩ dJ1_indexOf_4cfef_18 ?_
    refine v_top (show nI (min (t_n i) (t_n i)) = nI (t_n i) by rw [Nat.min_self]) ?_
    refine v_istore_n (pc := 21) dJ1_indexOf_4cfef_21 rfl (by decide) rfl ?_
    refine v_iload_n (pc := 22) dJ1_indexOf_4cfef_22 rfl rfl ?_
    refine v_iload_n (pc := 23) dJ1_indexOf_4cfef_23 rfl rfl ?_
    refine v_icmp_ltN (pc := 24) (tgt := 29) ⟨by omega, by omega⟩ dJ1_indexOf_4cfef_24 (by decide) (fun c24 => ?_) (fun c24 => ?_)
    · refine v_aload_n (pc := 29) dJ1_indexOf_4cfef_29 rfl rfl ?_
      refine v_iload_n (pc := 30) dJ1_indexOf_4cfef_30 rfl rfl ?_
      refine v_iload_n (pc := 31) dJ1_indexOf_4cfef_31 rfl rfl ?_
      refine v_iload_n (pc := 32) dJ1_indexOf_4cfef_32 rfl rfl ?_
      refine v_ci (pc := 33) (v_rS (c_J1_indexOfChar_4cfef G l hi hc) rfl kS_J1_95 ⟨Nat.le_of_ble_eq_true rfl, Nat.le_of_ble_eq_true rfl⟩ ⟨Nat.le_of_ble_eq_true rfl, Nat.le_of_ble_eq_true rfl⟩ dJ1_indexOf_4cfef_33 (Nat.le_of_ble_eq_true rfl)) (fun x33 M33 h33 => ?_)
      obtain ⟨rfl, rfl⟩ := h33
      exact v_iret (pc := 36) dJ1_indexOf_4cfef_36 rfl rfl (Nat.le_of_ble_eq_true rfl) (Nat.le_of_ble_eq_true rfl) ⟨rfl, rfl⟩
    · exact absurd c24 (by omega)
  · exact absurd c4 (by decide)
abbrev rm_J0_indexOf_7cf53 : Room := { frames := 2, cells := 0, slots := 0, locals := 48 }
set_option maxRecDepth 20000 in
theorem c_J0_indexOf_7cf53 (G : v_G) (l : Launch) {K : Nat × v_TY} {I : Nat → Nat → Int32} {J : Nat → Nat → Int64} {R : Nat → Nat → Option Nat} {i c : Nat} (hi : i < 7) (hc : c < 128) : v_M G l yJ0_indexOf_7cf53 cJ0_indexOf_7cf53 3 (some .int) rm_J0_indexOf_7cf53 [.ref (1000000 + (10 + i)), .int (nI c), .int (nI 0)] (K, I, J, R) (v_Qi G (fun (x : Int32) (M' : v_MM) => x = t_ix i c ∧ M' = (K, I, J, R))) := by
  refine v_of [some (.ref (1000000 + (10 + i))), some (.int (nI c)), some (.int (nI 0))] (by decide) (Nat.le_of_ble_eq_true rfl) (Nat.le_of_ble_eq_true rfl) rfl ?_
  refine v_aload_n (pc := 0) dJ0_indexOf_7cf53_0 rfl rfl ?_
  refine v_ci (pc := 1) (v_rV (c_J0_isLatin1_aae02 G l hi) rfl kV_J0_492 (v_rcT hi) ⟨Nat.le_of_ble_eq_true rfl, Nat.le_of_ble_eq_true rfl⟩ ⟨Nat.le_of_ble_eq_true rfl, Nat.le_of_ble_eq_true rfl⟩ dJ0_indexOf_7cf53_1 (Nat.le_of_ble_eq_true rfl)) (fun x1 M1 h1 => ?_)
  obtain ⟨rfl, rfl⟩ := h1
  refine v_if_eq (pc := 4) (tgt := 23) dJ0_indexOf_7cf53_4 (by decide) (fun c4 => ?_) (fun c4 => ?_)
  · exact absurd c4 (by decide)
  · refine v_aload_n (pc := 7) dJ0_indexOf_7cf53_7 rfl rfl ?_
    refine v_txV (pc := 8) hi fx_J0_9 dJ0_indexOf_7cf53_8 ?_
    refine v_iload_n (pc := 11) dJ0_indexOf_7cf53_11 rfl rfl ?_
    refine v_iload_n (pc := 12) dJ0_indexOf_7cf53_12 rfl rfl ?_
    refine v_aload_n (pc := 13) dJ0_indexOf_7cf53_13 rfl rfl ?_
    refine v_ci (pc := 14) (v_rV (c_J0_length_8abf5 G l hi) rfl kV_J0_505 (v_rcT hi) ⟨Nat.le_of_ble_eq_true rfl, Nat.le_of_ble_eq_true rfl⟩ ⟨Nat.le_of_ble_eq_true rfl, Nat.le_of_ble_eq_true rfl⟩ dJ0_indexOf_7cf53_14 (Nat.le_of_ble_eq_true rfl)) (fun x14 M14 h14 => ?_)
    obtain ⟨rfl, rfl⟩ := h14
    refine v_ci (pc := 17) (v_rS (c_J1_indexOf_4cfef G l hi hc) rfl kS_J0_637 ⟨Nat.le_of_ble_eq_true rfl, Nat.le_of_ble_eq_true rfl⟩ ⟨Nat.le_of_ble_eq_true rfl, Nat.le_of_ble_eq_true rfl⟩ dJ0_indexOf_7cf53_17 (Nat.le_of_ble_eq_true rfl)) (fun x17 M17 h17 => ?_)
    obtain ⟨rfl, rfl⟩ := h17
    refine v_goto (pc := 20) (tgt := 36) dJ0_indexOf_7cf53_20 (by decide) ?_
    exact v_iret (pc := 36) dJ0_indexOf_7cf53_36 rfl rfl (Nat.le_of_ble_eq_true rfl) (Nat.le_of_ble_eq_true rfl) ⟨rfl, rfl⟩
abbrev rm_J0_indexOf_0f7a4 : Room := { frames := 3, cells := 0, slots := 0, locals := 70 }
set_option maxRecDepth 20000 in
theorem c_J0_indexOf_0f7a4 (G : v_G) (l : Launch) {K : Nat × v_TY} {I : Nat → Nat → Int32} {J : Nat → Nat → Int64} {R : Nat → Nat → Option Nat} {i c : Nat} (hi : i < 7) (hc : c < 128) : v_M G l yJ0_indexOf_0f7a4 cJ0_indexOf_0f7a4 2 (some .int) rm_J0_indexOf_0f7a4 [.ref (1000000 + (10 + i)), .int (nI c)] (K, I, J, R) (v_Qi G (fun (x : Int32) (M' : v_MM) => x = t_ix i c ∧ M' = (K, I, J, R))) := by
  refine v_of [some (.ref (1000000 + (10 + i))), some (.int (nI c))] (by decide) (Nat.le_of_ble_eq_true rfl) (Nat.le_of_ble_eq_true rfl) rfl ?_
  refine v_aload_n (pc := 0) dJ0_indexOf_0f7a4_0 rfl rfl ?_
  refine v_iload_n (pc := 1) dJ0_indexOf_0f7a4_1 rfl rfl ?_
  refine v_iconst (pc := 2) (v := nI 0) dJ0_indexOf_0f7a4_2 (by decide) ?_
  refine v_ci (pc := 3) (v_rV (c_J0_indexOf_7cf53 G l hi hc) rfl kV_J0_633 (v_rcT hi) ⟨Nat.le_of_ble_eq_true rfl, Nat.le_of_ble_eq_true rfl⟩ ⟨Nat.le_of_ble_eq_true rfl, Nat.le_of_ble_eq_true rfl⟩ dJ0_indexOf_0f7a4_3 (Nat.le_of_ble_eq_true rfl)) (fun x3 M3 h3 => ?_)
  obtain ⟨rfl, rfl⟩ := h3
  exact v_iret (pc := 6) dJ0_indexOf_0f7a4_6 rfl rfl (Nat.le_of_ble_eq_true rfl) (Nat.le_of_ble_eq_true rfl) ⟨rfl, rfl⟩
