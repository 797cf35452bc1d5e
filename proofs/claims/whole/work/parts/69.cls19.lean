/-! THE CLASS: tapes -/
def CTp (I : Nat → Nat → Int32) (J : Nat → Nat → Int64) (t : Nat → TP) : Prop := ∀ i, i < 6 → I (43 + 2 * i) 0 = o_s (t i).1 ∧ I (43 + 2 * i) 1 = nI (t i).2.1 ∧ ∀ j, j < 60 → J (44 + 2 * i) j = (t i).2.2 j
/-- all but the tapes is as it was -/
def kT (I : Nat → Nat → Int32) (J : Nat → Nat → Int64) (I' : Nat → Nat → Int32) (J' : Nat → Nat → Int64) : Prop := (∀ a b, (a < 43 ∨ 54 < a) → I' a b = I a b) ∧ ∀ a b, (a < 43 ∨ 54 < a) → J' a b = J a b
theorem kT_rf {I : Nat → Nat → Int32} {J : Nat → Nat → Int64} : kT I J I J := ⟨fun _ _ _ => rfl, fun _ _ _ => rfl⟩
def TA (K : Nat × v_TY) (R : Nat → Nat → Option Nat) (i : Nat) : Prop := R 38 i = some (43 + 2 * i) ∧ v_is K (43 + 2 * i) 5 0 ∧ v_is K (44 + 2 * i) 15 60 ∧ R (43 + 2 * i) 2 = some (44 + 2 * i)
theorem TA_of {K : Nat × v_TY} {R : Nat → Nat → Option Nat} (hL : Lay K R) {i : Nat} (hi : i < 6) : TA K R i := by
  rcases (show i = 0 ∨ i = 1 ∨ i = 2 ∨ i = 3 ∨ i = 4 ∨ i = 5 by omega) with rfl | rfl | rfl | rfl | rfl | rfl
  · exact ⟨lr_38_0 hL, li_43 hL, li_44 hL, lr_43_2 hL⟩
  · exact ⟨lr_38_1 hL, li_45 hL, li_46 hL, lr_45_2 hL⟩
  · exact ⟨lr_38_2 hL, li_47 hL, li_48 hL, lr_47_2 hL⟩
  · exact ⟨lr_38_3 hL, li_49 hL, li_50 hL, lr_49_2 hL⟩
  · exact ⟨lr_38_4 hL, li_51 hL, li_52 hL, lr_51_2 hL⟩
  · exact ⟨lr_38_5 hL, li_53 hL, li_54 hL, lr_53_2 hL⟩
def v_tl (J : Nat → Nat → Int64) (h : Nat) (z : Int64) (n : Nat) : Nat → Nat → Int64 := fun a b => if a = h ∧ b < n then z else J a b
theorem v_tl_0 {J : Nat → Nat → Int64} {h : Nat} {z : Int64} : v_tl J h z 0 = J := by funext a b; exact if_neg (fun q => by omega)
theorem v_tl_s {J : Nat → Nat → Int64} {h i : Nat} {z : Int64} : v_u (v_tl J h z i) h i z = v_tl J h z (i + 1) := by
  funext a b
  simp only [v_u, v_tl]
  by_cases h1 : a = h
  · by_cases h2 : b = i
    · simp [h1, h2]
    · have h3 : (b < i + 1) = (b < i) := propext ⟨fun q => by omega, fun q => by omega⟩
      simp [h1, h2, h3]
  · simp [h1]
theorem s_m1 : ∀ s, s < 5 → nI s ≠ -1 := by decide
theorem t_st {ii nn : Int32} {L : Nat} (hL : L ≤ 60) : (¬ nn < 0 ∧ ¬ ii < 0 ∧ ¬ nn > nI L ∧ ¬ ii > nI L - nn) ↔ (0 ≤ nn.toInt ∧ 0 ≤ ii.toInt ∧ ii.toInt + nn.toInt ≤ L) := by
  have h0 : (0 : Int32).toInt = 0 := rfl
  constructor
  · rintro ⟨h1, h2, h3, h4⟩
    obtain ⟨n, hn, rfl⟩ := x_pos h1
    obtain ⟨i, hi, rfl⟩ := x_pos h2
    rw [gt_iff_lt, Int32.lt_iff_toInt_lt, t_sub (by omega) hn, nI_toInt hi] at h4
    rw [nI_toInt hn, nI_toInt hi]
    omega
  · rintro ⟨h1, h2, h3⟩
    obtain ⟨n, hn, rfl⟩ := x_pos (x := nn) (by rw [Int32.lt_iff_toInt_lt]; omega)
    obtain ⟨i, hi, rfl⟩ := x_pos (x := ii) (by rw [Int32.lt_iff_toInt_lt]; omega)
    rw [nI_toInt hn, nI_toInt hi] at h3
    refine ⟨?_, ?_, ?_, ?_⟩
    · rw [Int32.lt_iff_toInt_lt, nI_toInt hn]; omega
    · rw [Int32.lt_iff_toInt_lt, nI_toInt hi]; omega
    · rw [gt_iff_lt, Int32.lt_iff_toInt_lt, nI_toInt hn, nI_toInt (by omega)]; omega
    · rw [gt_iff_lt, Int32.lt_iff_toInt_lt, t_sub (by omega) hn, nI_toInt hi]; omega
theorem t_lt {ii : Int32} {L i : Nat} (hL : L ≤ 60) (hi : i < 16) (h : ¬ ii < 0) : ii < nI L - nI i ↔ vp_in ii (L - i) := by
  rw [Int32.lt_iff_toInt_lt, t_sub (by omega) (by omega), vp_in_iff]
  rw [Int32.lt_iff_toInt_lt] at h
  have h0 : (0 : Int32).toInt = 0 := rfl
  constructor
  · intro q; omega
  · intro q; omega
theorem t_j1 {z : Int64} {a : Bool} (h : z = 0 ∨ z = 1) : (nI (if z = 0 then 0 else 1) = v_p (a = true)) ↔ z = (nI (if a = true then 1 else 0)).toInt64 := by
  have e1 : v_p ((true : Bool) = true) = nI 1 := v_p_t rfl
  have e0 : v_p ((false : Bool) = true) = nI 0 := v_p_f (by decide)
  rcases h with rfl | rfl <;> cases a <;> (first | rw [e0] | rw [e1]) <;> decide
abbrev rm_J7_fill_d0a16 : Room := { frames := 0, cells := 0, slots := 0, locals := 0 }
set_option maxRecDepth 20000 in
theorem c_J7_fill_d0a16 (G : v_G) (l : Launch) {K : Nat × v_TY} {I : Nat → Nat → Int32} {J : Nat → Nat → Int64} {R : Nat → Nat → Option Nat} {a n : Nat} {v : Int64} (ha : v_is K a 15 n) (hn : n < 1000) : v_M G l yJ7_fill_d0a16 cJ7_fill_d0a16 5 none rm_J7_fill_d0a16 [.ref a, .long v] (K, I, J, R) (v_Qv G (fun (M' : v_MM) => M' = (K, I, v_tl J a v n, R))) := by
  refine v_of [some (.ref a), some (.long v), none, none, none] (by decide) (Nat.le_of_ble_eq_true rfl) (Nat.le_of_ble_eq_true rfl) rfl ?_
  refine v_iconst (pc := 0) (v := nI 0) dJ7_fill_d0a16_0 (by decide) ?_
  refine v_istore_n (pc := 1) dJ7_fill_d0a16_1 rfl (by decide) rfl ?_
  refine v_aload_n (pc := 2) dJ7_fill_d0a16_2 rfl rfl ?_
  refine v_alen (pc := 3) (v := _) dJ7_fill_d0a16_3 ha (by decide) rfl ?_
  refine v_top (show Int32.ofNat n = nI n from rfl) ?_
  refine v_istore (pc := 4) dJ7_fill_d0a16_4 (by decide) rfl ?_
  have key : ∀ i, i ≤ n → v_V G l yJ7_fill_d0a16 cJ7_fill_d0a16 5 none rm_J7_fill_d0a16 (v_Qv G (fun (M' : v_MM) => M' = (K, I, v_tl J a v n, R))) 0 0 6 [some (.ref a), some (.long v), none, some (.int (nI i)), some (.int (nI n))] [] (K, I, v_tl J a v i, R) := by
    refine v_down n (fun i hi ih => ?_)
    refine v_iload_n (pc := 6) dJ7_fill_d0a16_6 rfl rfl ?_
    refine v_iload (pc := 7) dJ7_fill_d0a16_7 rfl ?_
    refine v_icmp_geN (pc := 9) (tgt := 22) ⟨by omega, by omega⟩ dJ7_fill_d0a16_9 (by decide) (fun c9 => ?_) (fun c9 => ?_)
    · exact v_vret (pc := 22) dJ7_fill_d0a16_22 rfl (Nat.le_of_ble_eq_true rfl) (Nat.le_of_ble_eq_true rfl) (by rw [show i = n by omega])
    · refine v_aload_n (pc := 12) dJ7_fill_d0a16_12 rfl rfl ?_
      refine v_iload_n (pc := 13) dJ7_fill_d0a16_13 rfl rfl ?_
      refine v_lload_n (pc := 14) dJ7_fill_d0a16_14 rfl rfl ?_
      refine v_lastoreN (pc := 15) dJ7_fill_d0a16_15 ha ⟨by omega, by omega⟩ ?_
      refine v_iincN (pc := 16) (b := 1) dJ7_fill_d0a16_16 rfl (by decide) (by decide) rfl ?_
      refine v_goto (pc := 19) (tgt := 6) dJ7_fill_d0a16_19 (by decide) ?_
      rw [v_tl_s]
      exact ih (i + 1) (by omega) (by omega)
  have e0 := key 0 (Nat.zero_le _)
  rw [v_tl_0] at e0
  exact e0
abbrev rm_X5_isThere : Room := { frames := 0, cells := 0, slots := 0, locals := 0 }
set_option maxRecDepth 20000 in
theorem c_X5_isThere (G : v_G) (l : Launch) {K : Nat × v_TY} {I : Nat → Nat → Int32} {J : Nat → Nat → Int64} {R : Nat → Nat → Option Nat} {i : Nat} (hT : TA K R i) {o : Option Nat} (h : I (43 + 2 * i) 0 = o_s o) (ho : ∀ s, o = some s → s < 5) : v_M G l yX5_isThere cX5_isThere 1 (some .boolean) rm_X5_isThere [.ref (43 + 2 * i)] (K, I, J, R) (v_Qi G (fun (x : Int32) (M' : v_MM) => x = v_p (o.isSome = true) ∧ M' = (K, I, J, R))) := by
  refine v_of [some (.ref (43 + 2 * i))] (by decide) (Nat.le_of_ble_eq_true rfl) (Nat.le_of_ble_eq_true rfl) rfl ?_
  rcases o with - | s
  · have hs : I (43 + 2 * i) 0 = -1 := h
    refine v_aload_n (pc := 0) dX5_isThere_0 rfl rfl ?_
    refine v_getV (pc := 1) fg_X5_11_5 dX5_isThere_1 hT.2.1 hs ?_
    refine v_iconst (pc := 4) (v := -1) dX5_isThere_4 (by decide) ?_
    refine v_icmp_eq (pc := 5) (tgt := 12) dX5_isThere_5 (by decide) (fun c5 => ?_) (fun c5 => ?_)
    · refine v_iconst (pc := 12) (v := nI 0) dX5_isThere_12 (by decide) ?_
      exact v_iret (pc := 13) dX5_isThere_13 rfl rfl (Nat.le_of_ble_eq_true rfl) (Nat.le_of_ble_eq_true rfl) ⟨v_pz (by simp), rfl⟩
    · exact absurd rfl c5
  · have hs : I (43 + 2 * i) 0 = nI s := h
    have hs5 := ho s rfl
    refine v_aload_n (pc := 0) dX5_isThere_0 rfl rfl ?_
    refine v_getV (pc := 1) fg_X5_11_5 dX5_isThere_1 hT.2.1 hs ?_
    refine v_iconst (pc := 4) (v := -1) dX5_isThere_4 (by decide) ?_
    refine v_icmp_eq (pc := 5) (tgt := 12) dX5_isThere_5 (by decide) (fun c5 => ?_) (fun c5 => ?_)
    · exact absurd c5 (s_m1 s hs5)
    · refine v_iconst (pc := 8) (v := nI 1) dX5_isThere_8 (by decide) ?_
      refine v_goto (pc := 9) (tgt := 13) dX5_isThere_9 (by decide) ?_
      exact v_iret (pc := 13) dX5_isThere_13 rfl rfl (Nat.le_of_ble_eq_true rfl) (Nat.le_of_ble_eq_true rfl) ⟨v_po rfl, rfl⟩
abbrev rm_X5_hasPlace : Room := { frames := 0, cells := 0, slots := 0, locals := 0 }
set_option maxRecDepth 20000 in
theorem c_X5_hasPlace (G : v_G) (l : Launch) {K : Nat × v_TY} {I : Nat → Nat → Int32} {J : Nat → Nat → Int64} {R : Nat → Nat → Option Nat} {i : Nat} (hT : TA K R i) {pp : Int32} {n : Nat} (hn : I (43 + 2 * i) 1 = nI n) (hn6 : n ≤ 60) : v_M G l yX5_hasPlace cX5_hasPlace 2 (some .boolean) rm_X5_hasPlace [.ref (43 + 2 * i), .int pp] (K, I, J, R) (v_Qi G (fun (x : Int32) (M' : v_MM) => x = v_p (vp_in pp n) ∧ M' = (K, I, J, R))) := by
  refine v_of [some (.ref (43 + 2 * i)), some (.int pp)] (by decide) (Nat.le_of_ble_eq_true rfl) (Nat.le_of_ble_eq_true rfl) rfl ?_
  refine v_iload_n (pc := 0) dX5_hasPlace_0 rfl rfl ?_
  refine v_if_lt (pc := 1) (tgt := 16) dX5_hasPlace_1 (by decide) (fun c1 => ?_) (fun c1 => ?_)
  · refine v_iconst (pc := 16) (v := nI 0) dX5_hasPlace_16 (by decide) ?_
    exact v_iret (pc := 17) dX5_hasPlace_17 rfl rfl (Nat.le_of_ble_eq_true rfl) (Nat.le_of_ble_eq_true rfl) ⟨by first | exact v_pz (fun q => ((v_ltI (by omega)).mpr q).1 c1) | exact v_pz (fun q => ((v_ltI (by omega)).mpr q).2 c9) | exact v_po ((v_ltI (by omega)).mp ⟨c1, c9⟩), rfl⟩
  · refine v_iload_n (pc := 4) dX5_hasPlace_4 rfl rfl ?_
    refine v_aload_n (pc := 5) dX5_hasPlace_5 rfl rfl ?_
    refine v_getV (pc := 6) fg_X5_19_5 dX5_hasPlace_6 hT.2.1 hn ?_
    refine v_icmp_ge (pc := 9) (tgt := 16) dX5_hasPlace_9 (by decide) (fun c9 => ?_) (fun c9 => ?_)
    · refine v_iconst (pc := 16) (v := nI 0) dX5_hasPlace_16 (by decide) ?_
      exact v_iret (pc := 17) dX5_hasPlace_17 rfl rfl (Nat.le_of_ble_eq_true rfl) (Nat.le_of_ble_eq_true rfl) ⟨by first | exact v_pz (fun q => ((v_ltI (by omega)).mpr q).1 c1) | exact v_pz (fun q => ((v_ltI (by omega)).mpr q).2 c9) | exact v_po ((v_ltI (by omega)).mp ⟨c1, c9⟩), rfl⟩
    · refine v_iconst (pc := 12) (v := nI 1) dX5_hasPlace_12 (by decide) ?_
      refine v_goto (pc := 13) (tgt := 17) dX5_hasPlace_13 (by decide) ?_
      exact v_iret (pc := 17) dX5_hasPlace_17 rfl rfl (Nat.le_of_ble_eq_true rfl) (Nat.le_of_ble_eq_true rfl) ⟨by first | exact v_pz (fun q => ((v_ltI (by omega)).mpr q).1 c1) | exact v_pz (fun q => ((v_ltI (by omega)).mpr q).2 c9) | exact v_po ((v_ltI (by omega)).mp ⟨c1, c9⟩), rfl⟩
abbrev rm_X5_hasStretch : Room := { frames := 0, cells := 0, slots := 0, locals := 0 }
set_option maxRecDepth 20000 in
theorem c_X5_hasStretch (G : v_G) (l : Launch) {K : Nat × v_TY} {I : Nat → Nat → Int32} {J : Nat → Nat → Int64} {R : Nat → Nat → Option Nat} {i : Nat} (hT : TA K R i) {ii nn : Int32} {n : Nat} (hn : I (43 + 2 * i) 1 = nI n) (hn6 : n ≤ 60) : v_M G l yX5_hasStretch cX5_hasStretch 3 (some .boolean) rm_X5_hasStretch [.ref (43 + 2 * i), .int ii, .int nn] (K, I, J, R) (v_Qi G (fun (x : Int32) (M' : v_MM) => x = v_p (0 ≤ nn.toInt ∧ 0 ≤ ii.toInt ∧ ii.toInt + nn.toInt ≤ n) ∧ M' = (K, I, J, R))) := by
  refine v_of [some (.ref (43 + 2 * i)), some (.int ii), some (.int nn)] (by decide) (Nat.le_of_ble_eq_true rfl) (Nat.le_of_ble_eq_true rfl) rfl ?_
  refine v_iload_n (pc := 0) dX5_hasStretch_0 rfl rfl ?_
  refine v_if_lt (pc := 1) (tgt := 30) dX5_hasStretch_1 (by decide) (fun c1 => ?_) (fun c1 => ?_)
  · refine v_iconst (pc := 30) (v := nI 0) dX5_hasStretch_30 (by decide) ?_
    exact v_iret (pc := 31) dX5_hasStretch_31 rfl rfl (Nat.le_of_ble_eq_true rfl) (Nat.le_of_ble_eq_true rfl) ⟨by first | exact v_pz (fun q => ((t_st hn6).mpr q).1 c1) | exact v_pz (fun q => ((t_st hn6).mpr q).2.1 c5) | exact v_pz (fun q => ((t_st hn6).mpr q).2.2.1 c13) | exact v_pz (fun q => ((t_st hn6).mpr q).2.2.2 c23) | exact v_po ((t_st hn6).mp ⟨c1, c5, c13, c23⟩), rfl⟩
  · refine v_iload_n (pc := 4) dX5_hasStretch_4 rfl rfl ?_
    refine v_if_lt (pc := 5) (tgt := 30) dX5_hasStretch_5 (by decide) (fun c5 => ?_) (fun c5 => ?_)
    · refine v_iconst (pc := 30) (v := nI 0) dX5_hasStretch_30 (by decide) ?_
      exact v_iret (pc := 31) dX5_hasStretch_31 rfl rfl (Nat.le_of_ble_eq_true rfl) (Nat.le_of_ble_eq_true rfl) ⟨by first | exact v_pz (fun q => ((t_st hn6).mpr q).1 c1) | exact v_pz (fun q => ((t_st hn6).mpr q).2.1 c5) | exact v_pz (fun q => ((t_st hn6).mpr q).2.2.1 c13) | exact v_pz (fun q => ((t_st hn6).mpr q).2.2.2 c23) | exact v_po ((t_st hn6).mp ⟨c1, c5, c13, c23⟩), rfl⟩
    · refine v_iload_n (pc := 8) dX5_hasStretch_8 rfl rfl ?_
      refine v_aload_n (pc := 9) dX5_hasStretch_9 rfl rfl ?_
      refine v_getV (pc := 10) fg_X5_19_5 dX5_hasStretch_10 hT.2.1 hn ?_
      refine v_icmp_gt (pc := 13) (tgt := 30) dX5_hasStretch_13 (by decide) (fun c13 => ?_) (fun c13 => ?_)
      · refine v_iconst (pc := 30) (v := nI 0) dX5_hasStretch_30 (by decide) ?_
        exact v_iret (pc := 31) dX5_hasStretch_31 rfl rfl (Nat.le_of_ble_eq_true rfl) (Nat.le_of_ble_eq_true rfl) ⟨by first | exact v_pz (fun q => ((t_st hn6).mpr q).1 c1) | exact v_pz (fun q => ((t_st hn6).mpr q).2.1 c5) | exact v_pz (fun q => ((t_st hn6).mpr q).2.2.1 c13) | exact v_pz (fun q => ((t_st hn6).mpr q).2.2.2 c23) | exact v_po ((t_st hn6).mp ⟨c1, c5, c13, c23⟩), rfl⟩
      · refine v_iload_n (pc := 16) dX5_hasStretch_16 rfl rfl ?_
        refine v_aload_n (pc := 17) dX5_hasStretch_17 rfl rfl ?_
        refine v_getV (pc := 18) fg_X5_19_5 dX5_hasStretch_18 hT.2.1 hn ?_
        refine v_iload_n (pc := 21) dX5_hasStretch_21 rfl rfl ?_
        refine v_isub (pc := 22) dX5_hasStretch_22 ?_
        refine v_icmp_gt (pc := 23) (tgt := 30) dX5_hasStretch_23 (by decide) (fun c23 => ?_) (fun c23 => ?_)
        · refine v_iconst (pc := 30) (v := nI 0) dX5_hasStretch_30 (by decide) ?_
          exact v_iret (pc := 31) dX5_hasStretch_31 rfl rfl (Nat.le_of_ble_eq_true rfl) (Nat.le_of_ble_eq_true rfl) ⟨by first | exact v_pz (fun q => ((t_st hn6).mpr q).1 c1) | exact v_pz (fun q => ((t_st hn6).mpr q).2.1 c5) | exact v_pz (fun q => ((t_st hn6).mpr q).2.2.1 c13) | exact v_pz (fun q => ((t_st hn6).mpr q).2.2.2 c23) | exact v_po ((t_st hn6).mp ⟨c1, c5, c13, c23⟩), rfl⟩
        · refine v_iconst (pc := 26) (v := nI 1) dX5_hasStretch_26 (by decide) ?_
          refine v_goto (pc := 27) (tgt := 31) dX5_hasStretch_27 (by decide) ?_
          exact v_iret (pc := 31) dX5_hasStretch_31 rfl rfl (Nat.le_of_ble_eq_true rfl) (Nat.le_of_ble_eq_true rfl) ⟨by first | exact v_pz (fun q => ((t_st hn6).mpr q).1 c1) | exact v_pz (fun q => ((t_st hn6).mpr q).2.1 c5) | exact v_pz (fun q => ((t_st hn6).mpr q).2.2.1 c13) | exact v_pz (fun q => ((t_st hn6).mpr q).2.2.2 c23) | exact v_po ((t_st hn6).mp ⟨c1, c5, c13, c23⟩), rfl⟩
abbrev rm_X5_asItem : Room := { frames := 0, cells := 0, slots := 0, locals := 0 }
set_option maxRecDepth 20000 in
theorem c_X5_asItem (G : v_G) (l : Launch) {K : Nat × v_TY} {I : Nat → Nat → Int32} {J : Nat → Nat → Int64} {R : Nat → Nat → Option Nat} {i : Nat} (hT : TA K R i) {s : Nat} {z : Int64} (hs : I (43 + 2 * i) 0 = nI s) (hs5 : s < 5) : v_M G l yX5_asItem cX5_asItem 3 (some .long) rm_X5_asItem [.ref (43 + 2 * i), .long z] (K, I, J, R) (v_Ql G (fun (x : Int64) (M' : v_MM) => x = w_nar s z ∧ M' = (K, I, J, R))) := by
  refine v_of [some (.ref (43 + 2 * i)), some (.long z), none] (by decide) (Nat.le_of_ble_eq_true rfl) (Nat.le_of_ble_eq_true rfl) rfl ?_
  refine v_aload_n (pc := 0) dX5_asItem_0 rfl rfl ?_
  refine v_getV (pc := 1) fg_X5_11_5 dX5_asItem_1 hT.2.1 hs ?_
  rcases (show s = 0 ∨ s = 1 ∨ s = 2 ∨ s = 3 ∨ s = 4 by omega) with rfl | rfl | rfl | rfl | rfl
  · refine v_tableIn (pc := 4) (tgt := 40) dX5_asItem_4 (by decide) (by decide) rfl (by decide) ?_
    refine v_lload_n (pc := 40) dX5_asItem_40 rfl rfl ?_
    refine v_l2i (pc := 41) dX5_asItem_41 ?_
    refine v_i2b (pc := 42) dX5_asItem_42 ?_
    refine v_i2l (pc := 43) dX5_asItem_43 ?_
    exact v_lret (pc := 44) dX5_asItem_44 rfl (Nat.le_of_ble_eq_true rfl) (Nat.le_of_ble_eq_true rfl) ⟨by first | rfl | (exact (if_pos (x_cmp0.mp c57)).symm) | (exact (if_neg (fun q => c57 (x_cmp0.mpr q))).symm), rfl⟩
  · refine v_tableIn (pc := 4) (tgt := 45) dX5_asItem_4 (by decide) (by decide) rfl (by decide) ?_
    refine v_lload_n (pc := 45) dX5_asItem_45 rfl rfl ?_
    refine v_l2i (pc := 46) dX5_asItem_46 ?_
    refine v_i2s (pc := 47) dX5_asItem_47 ?_
    refine v_i2l (pc := 48) dX5_asItem_48 ?_
    exact v_lret (pc := 49) dX5_asItem_49 rfl (Nat.le_of_ble_eq_true rfl) (Nat.le_of_ble_eq_true rfl) ⟨by first | rfl | (exact (if_pos (x_cmp0.mp c57)).symm) | (exact (if_neg (fun q => c57 (x_cmp0.mpr q))).symm), rfl⟩
  · refine v_tableIn (pc := 4) (tgt := 50) dX5_asItem_4 (by decide) (by decide) rfl (by decide) ?_
    refine v_lload_n (pc := 50) dX5_asItem_50 rfl rfl ?_
    refine v_l2i (pc := 51) dX5_asItem_51 ?_
    refine v_i2l (pc := 52) dX5_asItem_52 ?_
    exact v_lret (pc := 53) dX5_asItem_53 rfl (Nat.le_of_ble_eq_true rfl) (Nat.le_of_ble_eq_true rfl) ⟨by first | rfl | (exact (if_pos (x_cmp0.mp c57)).symm) | (exact (if_neg (fun q => c57 (x_cmp0.mpr q))).symm), rfl⟩
  · refine v_tableIn (pc := 4) (tgt := 66) dX5_asItem_4 (by decide) (by decide) rfl (by decide) ?_
    refine v_lload_n (pc := 66) dX5_asItem_66 rfl rfl ?_
    exact v_lret (pc := 67) dX5_asItem_67 rfl (Nat.le_of_ble_eq_true rfl) (Nat.le_of_ble_eq_true rfl) ⟨by first | rfl | (exact (if_pos (x_cmp0.mp c57)).symm) | (exact (if_neg (fun q => c57 (x_cmp0.mpr q))).symm), rfl⟩
  · refine v_tableIn (pc := 4) (tgt := 54) dX5_asItem_4 (by decide) (by decide) rfl (by decide) ?_
    refine v_lload_n (pc := 54) dX5_asItem_54 rfl rfl ?_
    refine v_lconst (pc := 55) (v := 0) dX5_asItem_55 (by decide) ?_
    refine v_lcmp (pc := 56) dX5_asItem_56 ?_
    refine v_if_eq (pc := 57) (tgt := 64) dX5_asItem_57 (by decide) (fun c57 => ?_) (fun c57 => ?_)
    · refine v_lconst (pc := 64) (v := 0) dX5_asItem_64 (by decide) ?_
      exact v_lret (pc := 65) dX5_asItem_65 rfl (Nat.le_of_ble_eq_true rfl) (Nat.le_of_ble_eq_true rfl) ⟨by first | rfl | (exact (if_pos (x_cmp0.mp c57)).symm) | (exact (if_neg (fun q => c57 (x_cmp0.mpr q))).symm), rfl⟩
    · refine v_lconst (pc := 60) (v := 1) dX5_asItem_60 (by decide) ?_
      refine v_goto (pc := 61) (tgt := 65) dX5_asItem_61 (by decide) ?_
      exact v_lret (pc := 65) dX5_asItem_65 rfl (Nat.le_of_ble_eq_true rfl) (Nat.le_of_ble_eq_true rfl) ⟨by first | rfl | (exact (if_pos (x_cmp0.mp c57)).symm) | (exact (if_neg (fun q => c57 (x_cmp0.mpr q))).symm), rfl⟩
abbrev rm_X5_hold : Room := { frames := 1, cells := 0, slots := 0, locals := 24 }
set_option maxRecDepth 20000 in
theorem c_X5_hold (G : v_G) (l : Launch) {K : Nat × v_TY} {I : Nat → Nat → Int32} {J : Nat → Nat → Int64} {R : Nat → Nat → Option Nat} {i : Nat} (hT : TA K R i) {s n : Int32} : v_M G l yX5_hold cX5_hold 3 none rm_X5_hold [.ref (43 + 2 * i), .int s, .int n] (K, I, J, R) (v_Qv G (fun (M' : v_MM) => M' = (K, v_u (v_u I (43 + 2 * i) 0 s) (43 + 2 * i) 1 n, v_tl J (44 + 2 * i) 0 60, R))) := by
  refine v_of [some (.ref (43 + 2 * i)), some (.int s), some (.int n)] (by decide) (Nat.le_of_ble_eq_true rfl) (Nat.le_of_ble_eq_true rfl) rfl ?_
  refine v_aload_n (pc := 0) dX5_hold_0 rfl rfl ?_
  refine v_iload_n (pc := 1) dX5_hold_1 rfl rfl ?_
  refine v_putI (pc := 2) pg_X5_11_5 (fun h => by cases h) dX5_hold_2 hT.2.1 rfl rfl ?_
  refine v_aload_n (pc := 5) dX5_hold_5 rfl rfl ?_
  refine v_iload_n (pc := 6) dX5_hold_6 rfl rfl ?_
  refine v_putI (pc := 7) pg_X5_19_5 (fun h => by cases h) dX5_hold_7 hT.2.1 rfl rfl ?_
  refine v_aload_n (pc := 10) dX5_hold_10 rfl rfl ?_
  refine v_getH (pc := 11) fg_X5_15_5 dX5_hold_11 hT.2.1 hT.2.2.2 ?_
  refine v_lconst (pc := 14) (v := 0) dX5_hold_14 (by decide) ?_
  refine v_cv (pc := 15) (v_rS (c_J7_fill_d0a16 G l hT.2.2.1 (by decide)) rfl kS_X5_22 ⟨Nat.le_of_ble_eq_true rfl, Nat.le_of_ble_eq_true rfl⟩ ⟨Nat.le_of_ble_eq_true rfl, Nat.le_of_ble_eq_true rfl⟩ dX5_hold_15 (Nat.le_of_ble_eq_true rfl)) (fun M15 h15 => ?_)
  subst h15
  exact v_vret (pc := 18) dX5_hold_18 rfl (Nat.le_of_ble_eq_true rfl) (Nat.le_of_ble_eq_true rfl) rfl
theorem CTp_put {I : Nat → Nat → Int32} {J : Nat → Nat → Int64} {t : Nat → TP} (h : CTp I J t) {k : Nat} {T : TP} (hz : ∀ j, T.2.2 j = 0) :
    CTp (v_u (v_u I (43 + 2 * k) 0 (o_s T.1)) (43 + 2 * k) 1 (nI T.2.1)) (v_tl J (44 + 2 * k) 0 60) (w_put t (some (k, T))) := by
  intro i hi
  by_cases e : i = k
  · subst e
    have e1 : w_put t (some (i, T)) i = T := if_pos rfl
    rw [e1]
    exact ⟨(v_u_k (by decide)).trans v_u_same, v_u_same, fun j hj => (if_pos ⟨rfl, hj⟩).trans (hz j).symm⟩
  · have e1 : w_put t (some (k, T)) i = t i := if_neg e
    rw [e1]
    exact ⟨(v_u_h (by omega)).trans ((v_u_h (by omega)).trans (h i hi).1), (v_u_h (by omega)).trans ((v_u_h (by omega)).trans (h i hi).2.1), fun j hj => (if_neg (fun q => by omega)).trans ((h i hi).2.2 j hj)⟩
theorem kT_put {I : Nat → Nat → Int32} {J : Nat → Nat → Int64} {k : Nat} (hk : k < 6) {x y : Int32} {z : Int64} : kT I J (v_u (v_u I (43 + 2 * k) 0 x) (43 + 2 * k) 1 y) (v_tl J (44 + 2 * k) z 60) := ⟨fun a b n => by rw [v_u_h (by omega), v_u_h (by omega)], fun a b n => if_neg (fun q => by omega)⟩
theorem CTp_one {I : Nat → Nat → Int32} {J : Nat → Nat → Int64} {t : Nat → TP} (h : CTp I J t) {k j s : Nat} {z : Int64} (hk : k < 6) (he : (t k).1 = some s) (hj : j < (t k).2.1) (h60 : (t k).2.1 ≤ 60) :
    CTp I (v_u J (44 + 2 * k) j z) (w_put t (some (k, some s, (t k).2.1, fun q => if q = j then z else (t k).2.2 q))) := by
  intro i hi
  by_cases e : i = k
  · subst e
    refine ⟨?_, ?_, fun q hq => ?_⟩
    · show _ = o_s (if i = i then _ else t i).1
      rw [if_pos rfl]; exact (h i hi).1.trans (by rw [he])
    · show _ = nI (if i = i then _ else t i).2.1
      rw [if_pos rfl]; exact (h i hi).2.1
    · show _ = (if i = i then _ else t i).2.2 q
      rw [if_pos rfl]
      show _ = if q = j then z else (t i).2.2 q
      by_cases e2 : q = j
      · subst e2; rw [if_pos rfl]; exact v_u_same
      · rw [if_neg e2, v_u_k (by omega)]; exact (h i hi).2.2 q hq
  · have e1 : ∀ T, w_put t (some (k, T)) i = t i := fun T => if_neg e
    rw [e1]
    exact ⟨(h i hi).1, (h i hi).2.1, fun q hq => (v_u_h (by omega)).trans ((h i hi).2.2 q hq)⟩
theorem CTp_shf {I : Nat → Nat → Int32} {J : Nat → Nat → Int64} {tp : Nat → TP} (h : CTp I J tp) {t o i j n : Nat} (ht : t < 6) (ho : o < 6) (h1 : i + n ≤ (tp t).2.1) (h2 : j + n ≤ (tp o).2.1) (h3 : (tp t).2.1 ≤ 60) (h4 : (tp o).2.1 ≤ 60) :
    CTp I (v_cp J (44 + 2 * t) (44 + 2 * o) i j n) (w_put tp (some (o, w_shf (tp t) (tp o) i j n))) := by
  intro k hk
  by_cases e : k = o
  · subst e
    have e1 : w_put tp (some (k, w_shf (tp t) (tp k) i j n)) k = w_shf (tp t) (tp k) i j n := if_pos rfl
    rw [e1]
    refine ⟨(h k hk).1, (h k hk).2.1, fun q hq => ?_⟩
    show (if 44 + 2 * k = 44 + 2 * k then va_cpy (J (44 + 2 * t)) (J (44 + 2 * k)) i j n q else J (44 + 2 * k) q) = if j ≤ q ∧ q < j + n then (tp t).2.2 (i + (q - j)) else (tp k).2.2 q
    rw [if_pos rfl]
    show (if j ≤ q ∧ q < j + n then J (44 + 2 * t) (i + (q - j)) else J (44 + 2 * k) q) = _
    by_cases c : j ≤ q ∧ q < j + n
    · rw [if_pos c, if_pos c]; exact (h t ht).2.2 _ (by omega)
    · rw [if_neg c, if_neg c]; exact (h k hk).2.2 q hq
  · have e1 : w_put tp (some (o, w_shf (tp t) (tp o) i j n)) k = tp k := if_neg e
    rw [e1]
    exact ⟨(h k hk).1, (h k hk).2.1, fun q hq => (if_neg (fun z => by omega)).trans ((h k hk).2.2 q hq)⟩
theorem kT_shf {I : Nat → Nat → Int32} {J : Nat → Nat → Int64} {t o i j n : Nat} (ho : o < 6) : kT I J I (v_cp J (44 + 2 * t) (44 + 2 * o) i j n) := ⟨fun _ _ _ => rfl, fun a b n => if_neg (fun q => by omega)⟩
theorem t_n60 {nn : Int32} (h : ¬ nn ≤ nI 60) : ¬ nn < 0 := by
  rw [Int32.le_iff_toInt_le] at h
  rw [Int32.lt_iff_toInt_lt]
  have h0 : (0 : Int32).toInt = 0 := rfl
  have h1 : (nI 60).toInt = 60 := rfl
  omega
theorem t_ge {nn : Int32} : 0 ≤ nn ↔ ¬ nn < 0 := Int32.not_lt.symm
theorem t_cases2 (ss nn : Int32) : ss = -1 ∨ (∃ s n : Nat, s < 5 ∧ n < 61 ∧ ss = nI s ∧ nn = nI n ∧ x_nat ss 5 = some s ∧ x_nat nn 61 = some n ∧ ss ≠ -1) ∨ (∃ s : Nat, s < 5 ∧ ss = nI s ∧ x_nat ss 5 = some s ∧ ss ≠ -1 ∧ x_nat nn 61 = none ∧ ¬ vp_in nn 61) ∨ (ss ≠ -1 ∧ x_nat ss 5 = none ∧ ¬ vp_in ss 5) := by
  rcases t_cases ss with e | ⟨s, hs, e, e2, en⟩ | ⟨en, e2, e3⟩
  · exact Or.inl e
  · rcases x_sw 61 (by decide) nn with ⟨n, hn, e5, e4⟩ | ⟨e4, q⟩
    · exact Or.inr (Or.inl ⟨s, n, hs, hn, e, e5, e2, e4, en⟩)
    · exact Or.inr (Or.inr (Or.inl ⟨s, hs, e, e2, en, e4, fun z => by obtain ⟨j, hj, -, e6⟩ := x_nat_i z (by decide); rw [e4] at e6; cases e6⟩))
  · exact Or.inr (Or.inr (Or.inr ⟨en, e2, e3⟩))
abbrev rm_X11_tape : Room := { frames := 2, cells := 0, slots := 0, locals := 46 }
set_option maxRecDepth 20000 in
theorem c_X11_tape (G : v_G) (l : Launch) {K : Nat × v_TY} {I : Nat → Nat → Int32} {J : Nat → Nat → Int64} {R : Nat → Nat → Option Nat} (hL : Lay K R) {tt ss nn : Int32} {tp : Nat → TP} (h : CTp I J tp) (hv : TV tp) : v_M G l yX11_tape cX11_tape 4 (some .int) rm_X11_tape [.ref 0, .int tt, .int ss, .int nn] (K, I, J, R) (v_Qi G (fun (x : Int32) (M' : v_MM) => x = (w_tape tt ss nn).1 ∧ ∃ I' J', M' = (K, I', J', R) ∧ CTp I' J' (w_put tp (w_tape tt ss nn).2) ∧ kT I J I' J')) := by
  refine v_of [some (.ref 0), some (.int tt), some (.int ss), some (.int nn)] (by decide) (Nat.le_of_ble_eq_true rfl) (Nat.le_of_ble_eq_true rfl) rfl ?_
  refine v_iload_n (pc := 0) dX11_tape_0 rfl rfl ?_
  refine v_ci (pc := 1) (v_rS (c_X11_isTape G l) rfl kS_X11_243 ⟨Nat.le_of_ble_eq_true rfl, Nat.le_of_ble_eq_true rfl⟩ ⟨Nat.le_of_ble_eq_true rfl, Nat.le_of_ble_eq_true rfl⟩ dX11_tape_1 (Nat.le_of_ble_eq_true rfl)) (fun x1 M1 h1 => ?_)
  obtain ⟨rfl, rfl⟩ := h1
  refine v_if_neP (pc := 4) (tgt := 9) dX11_tape_4 (by decide) (fun c4 => ?_) (fun c4 => ?_)
  · obtain ⟨t, ht, rfl, e1⟩ := x_nat_i c4 (by decide)
    have hT := TA_of hL ht
    rcases t_cases2 ss nn with rfl | ⟨s, n, hs, hn, rfl, rfl, e2, e3, en⟩ | ⟨s, hs, rfl, e2, en, e3, q3⟩ | ⟨en, e2, e3⟩
    · refine v_iload_n (pc := 9) dX11_tape_9 rfl rfl ?_
      refine v_iconst (pc := 10) (v := -1) dX11_tape_10 (by decide) ?_
      refine v_icmp_ne (pc := 11) (tgt := 27) dX11_tape_11 (by decide) (fun c11 => ?_) (fun c11 => ?_)
      · exact absurd rfl c11
      · refine v_aload_n (pc := 14) dX11_tape_14 rfl rfl ?_
        refine v_getH (pc := 15) fg_X11_37_11 dX11_tape_15 (li_0 hL) (lr_0_8 hL) ?_
        refine v_iload_n (pc := 18) dX11_tape_18 rfl rfl ?_
        refine v_aaloadNH (pc := 19) dX11_tape_19 (li_38 hL) (Or.inr rfl) ⟨by omega, by omega⟩ hT.1 ?_
        refine v_iload_n (pc := 20) dX11_tape_20 rfl rfl ?_
        refine v_iconst (pc := 21) (v := nI 0) dX11_tape_21 (by decide) ?_
        refine v_cv (pc := 22) (v_rV (c_X5_hold G l hT) rfl kV_X11_283 (v_rcO hT.2.1 rfl (by decide)) ⟨Nat.le_of_ble_eq_true rfl, Nat.le_of_ble_eq_true rfl⟩ ⟨Nat.le_of_ble_eq_true rfl, Nat.le_of_ble_eq_true rfl⟩ dX11_tape_22 (Nat.le_of_ble_eq_true rfl)) (fun M22 h22 => ?_)
        subst h22
        refine v_iconst (pc := 25) (v := nI 1) dX11_tape_25 (by decide) ?_
        exact v_iret (pc := 26) dX11_tape_26 rfl rfl (Nat.le_of_ble_eq_true rfl) (Nat.le_of_ble_eq_true rfl) ⟨by simp only [w_tape, e1]; rw [if_pos trivial]; rfl, _, _, rfl, by simp only [w_tape, e1]; rw [if_pos trivial]; exact CTp_put h (T := (none, 0, fun _ => 0)) (fun _ => rfl), kT_put ht⟩
    · have eW : w_tape (nI t) (nI s) (nI n) = (1, some (t, some s, n, fun _ => 0)) := by simp only [w_tape, e1, e2, e3]; rw [if_neg en]
      refine v_iload_n (pc := 9) dX11_tape_9 rfl rfl ?_
      refine v_iconst (pc := 10) (v := -1) dX11_tape_10 (by decide) ?_
      refine v_icmp_ne (pc := 11) (tgt := 27) dX11_tape_11 (by decide) (fun c11 => ?_) (fun c11 => ?_)
      · refine v_iload_n (pc := 27) dX11_tape_27 rfl rfl ?_
        refine v_if_ltN (pc := 28) (tgt := 42) (by omega) dX11_tape_28 (by decide) ?_
        refine v_iload_n (pc := 31) dX11_tape_31 rfl rfl ?_
        refine v_iconst (pc := 32) (v := nI 4) dX11_tape_32 (by decide) ?_
        refine v_icmp_gtN (pc := 33) (tgt := 42) ⟨by omega, by omega⟩ dX11_tape_33 (by decide) (fun c33 => ?_) (fun c33 => ?_)
        · exact absurd c33 (by omega)
        · refine v_iload_n (pc := 36) dX11_tape_36 rfl rfl ?_
          refine v_bipush (pc := 37) (v := nI 60) dX11_tape_37 (by decide) ?_
          refine v_icmp_leN (pc := 39) (tgt := 45) ⟨by omega, by omega⟩ dX11_tape_39 (by decide) (fun c39 => ?_) (fun c39 => ?_)
          · refine v_iload_n (pc := 45) dX11_tape_45 rfl rfl ?_
            refine v_if_geN (pc := 46) (tgt := 52) (by omega) dX11_tape_46 (by decide) ?_
            refine v_aload_n (pc := 52) dX11_tape_52 rfl rfl ?_
            refine v_getH (pc := 53) fg_X11_37_11 dX11_tape_53 (li_0 hL) (lr_0_8 hL) ?_
            refine v_iload_n (pc := 56) dX11_tape_56 rfl rfl ?_
            refine v_aaloadNH (pc := 57) dX11_tape_57 (li_38 hL) (Or.inr rfl) ⟨by omega, by omega⟩ hT.1 ?_
            refine v_iload_n (pc := 58) dX11_tape_58 rfl rfl ?_
            refine v_iload_n (pc := 59) dX11_tape_59 rfl rfl ?_
            refine v_cv (pc := 60) (v_rV (c_X5_hold G l hT) rfl kV_X11_283 (v_rcO hT.2.1 rfl (by decide)) ⟨Nat.le_of_ble_eq_true rfl, Nat.le_of_ble_eq_true rfl⟩ ⟨Nat.le_of_ble_eq_true rfl, Nat.le_of_ble_eq_true rfl⟩ dX11_tape_60 (Nat.le_of_ble_eq_true rfl)) (fun M60 h60 => ?_)
            subst h60
            refine v_iconst (pc := 63) (v := nI 1) dX11_tape_63 (by decide) ?_
            exact v_iret (pc := 64) dX11_tape_64 rfl rfl (Nat.le_of_ble_eq_true rfl) (Nat.le_of_ble_eq_true rfl) ⟨by rw [eW]; rfl, _, _, rfl, by rw [eW]; exact CTp_put h (T := (some s, n, fun _ => 0)) (fun _ => rfl), kT_put ht⟩
          · exact absurd c39 (by omega)
      · exact absurd c11 en
    · refine v_iload_n (pc := 9) dX11_tape_9 rfl rfl ?_
      refine v_iconst (pc := 10) (v := -1) dX11_tape_10 (by decide) ?_
      refine v_icmp_ne (pc := 11) (tgt := 27) dX11_tape_11 (by decide) (fun c11 => ?_) (fun c11 => ?_)
      · refine v_iload_n (pc := 27) dX11_tape_27 rfl rfl ?_
        refine v_if_ltN (pc := 28) (tgt := 42) (by omega) dX11_tape_28 (by decide) ?_
        refine v_iload_n (pc := 31) dX11_tape_31 rfl rfl ?_
        refine v_iconst (pc := 32) (v := nI 4) dX11_tape_32 (by decide) ?_
        refine v_icmp_gtN (pc := 33) (tgt := 42) ⟨by omega, by omega⟩ dX11_tape_33 (by decide) (fun c33 => ?_) (fun c33 => ?_)
        · exact absurd c33 (by omega)
        · refine v_iload_n (pc := 36) dX11_tape_36 rfl rfl ?_
          refine v_bipush (pc := 37) (v := nI 60) dX11_tape_37 (by decide) ?_
          refine v_icmp_le (pc := 39) (tgt := 45) dX11_tape_39 (by decide) (fun c39 => ?_) (fun c39 => ?_)
          · refine v_iload_n (pc := 45) dX11_tape_45 rfl rfl ?_
            refine v_if_ge (pc := 46) (tgt := 52) dX11_tape_46 (by decide) (fun c46 => ?_) (fun c46 => ?_)
            · exact absurd ((x_lim (n := 60) (by decide)).mp ⟨t_ge.mp c46, c39⟩) q3
            · have eW : w_tape (nI t) (nI s) nn = (-14, none) := by simp only [w_tape, e1, e2, e3]; rw [if_neg en, if_pos (Classical.not_not.mp (fun q => c46 (t_ge.mpr q)))]
              refine v_bipush (pc := 49) (v := -14) dX11_tape_49 (by decide) ?_
              exact v_iret (pc := 51) dX11_tape_51 rfl rfl (Nat.le_of_ble_eq_true rfl) (Nat.le_of_ble_eq_true rfl) ⟨by rw [eW], I, J, rfl, by rw [eW]; exact h, kT_rf⟩
          · have eW : w_tape (nI t) (nI s) nn = (-2, none) := by simp only [w_tape, e1, e2, e3]; rw [if_neg en, if_neg (t_n60 c39)]
            refine v_bipush (pc := 42) (v := -2) dX11_tape_42 (by decide) ?_
            exact v_iret (pc := 44) dX11_tape_44 rfl rfl (Nat.le_of_ble_eq_true rfl) (Nat.le_of_ble_eq_true rfl) ⟨by rw [eW], I, J, rfl, by rw [eW]; exact h, kT_rf⟩
      · exact absurd c11 en
    · have eW : w_tape (nI t) ss nn = (-2, none) := by simp only [w_tape, e1, e2]; rw [if_neg en]
      refine v_iload_n (pc := 9) dX11_tape_9 rfl rfl ?_
      refine v_iconst (pc := 10) (v := -1) dX11_tape_10 (by decide) ?_
      refine v_icmp_ne (pc := 11) (tgt := 27) dX11_tape_11 (by decide) (fun c11 => ?_) (fun c11 => ?_)
      · refine v_iload_n (pc := 27) dX11_tape_27 rfl rfl ?_
        refine v_if_lt (pc := 28) (tgt := 42) dX11_tape_28 (by decide) (fun c28 => ?_) (fun c28 => ?_)
        · refine v_bipush (pc := 42) (v := -2) dX11_tape_42 (by decide) ?_
          exact v_iret (pc := 44) dX11_tape_44 rfl rfl (Nat.le_of_ble_eq_true rfl) (Nat.le_of_ble_eq_true rfl) ⟨by rw [eW], I, J, rfl, by rw [eW]; exact h, kT_rf⟩
        · refine v_iload_n (pc := 31) dX11_tape_31 rfl rfl ?_
          refine v_iconst (pc := 32) (v := nI 4) dX11_tape_32 (by decide) ?_
          refine v_icmp_gt (pc := 33) (tgt := 42) dX11_tape_33 (by decide) (fun c33 => ?_) (fun c33 => ?_)
          · refine v_bipush (pc := 42) (v := -2) dX11_tape_42 (by decide) ?_
            exact v_iret (pc := 44) dX11_tape_44 rfl rfl (Nat.le_of_ble_eq_true rfl) (Nat.le_of_ble_eq_true rfl) ⟨by rw [eW], I, J, rfl, by rw [eW]; exact h, kT_rf⟩
          · exact absurd ((x_lim (n := 4) (by decide)).mp ⟨c28, Int32.not_lt.mp c33⟩) e3
      · exact absurd c11 en
  · have e1 := x_nat_n c4
    refine v_iconst (pc := 7) (v := -1) dX11_tape_7 (by decide) ?_
    exact v_iret (pc := 8) dX11_tape_8 rfl rfl (Nat.le_of_ble_eq_true rfl) (Nat.le_of_ble_eq_true rfl) ⟨by simp only [w_tape, e1], I, J, rfl, by simp only [w_tape, e1]; exact h, kT_rf⟩
abbrev rm_X11_item : Room := { frames := 1, cells := 0, slots := 0, locals := 22 }
set_option maxRecDepth 20000 in
theorem c_X11_item (G : v_G) (l : Launch) {K : Nat × v_TY} {I : Nat → Nat → Int32} {J : Nat → Nat → Int64} {R : Nat → Nat → Option Nat} (hL : Lay K R) {tt ii : Int32} {z : Int64} {tp : Nat → TP} (h : CTp I J tp) (hv : TV tp) : v_M G l yX11_item cX11_item 6 (some .int) rm_X11_item [.ref 0, .int tt, .int ii, .long z] (K, I, J, R) (v_Qi G (fun (x : Int32) (M' : v_MM) => x = (w_item tp tt ii z).1 ∧ ∃ I' J', M' = (K, I', J', R) ∧ CTp I' J' (w_put tp (w_item tp tt ii z).2) ∧ kT I J I' J')) := by
  refine v_of [some (.ref 0), some (.int tt), some (.int ii), some (.long z), none, none] (by decide) (Nat.le_of_ble_eq_true rfl) (Nat.le_of_ble_eq_true rfl) rfl ?_
  refine v_iload_n (pc := 0) dX11_item_0 rfl rfl ?_
  refine v_ci (pc := 1) (v_rS (c_X11_isTape G l) rfl kS_X11_243 ⟨Nat.le_of_ble_eq_true rfl, Nat.le_of_ble_eq_true rfl⟩ ⟨Nat.le_of_ble_eq_true rfl, Nat.le_of_ble_eq_true rfl⟩ dX11_item_1 (Nat.le_of_ble_eq_true rfl)) (fun x1 M1 h1 => ?_)
  obtain ⟨rfl, rfl⟩ := h1
  refine v_if_neP (pc := 4) (tgt := 9) dX11_item_4 (by decide) (fun c4 => ?_) (fun c4 => ?_)
  · obtain ⟨t, ht, rfl, e1⟩ := x_nat_i c4 (by decide)
    have hT := TA_of hL ht
    have hh := h t ht
    obtain ⟨hv60, hv5, hv0, -⟩ := hv t ht
    rcases eo : (tp t).1 with - | s <;> rw [eo] at hh hv5 hv0
    · refine v_aload_n (pc := 9) dX11_item_9 rfl rfl ?_
      refine v_getH (pc := 10) fg_X11_37_11 dX11_item_10 (li_0 hL) (lr_0_8 hL) ?_
      refine v_iload_n (pc := 13) dX11_item_13 rfl rfl ?_
      refine v_aaloadNH (pc := 14) dX11_item_14 (li_38 hL) (Or.inr rfl) ⟨by omega, by omega⟩ hT.1 ?_
      refine v_astore (pc := 15) dX11_item_15 (by decide) rfl ?_
      refine v_aload (pc := 17) dX11_item_17 rfl ?_
      refine v_ci (pc := 19) (v_rV (c_X5_isThere G l hT (o := none) hh.1 hv5) rfl kV_X11_246 (v_rcO hT.2.1 rfl (by decide)) ⟨Nat.le_of_ble_eq_true rfl, Nat.le_of_ble_eq_true rfl⟩ ⟨Nat.le_of_ble_eq_true rfl, Nat.le_of_ble_eq_true rfl⟩ dX11_item_19 (Nat.le_of_ble_eq_true rfl)) (fun x19 M19 h19 => ?_)
      obtain ⟨rfl, rfl⟩ := h19
      refine v_if_neP (pc := 22) (tgt := 28) dX11_item_22 (by decide) (fun c22 => ?_) (fun c22 => ?_)
      · exact absurd c22 (by simp)
      · refine v_bipush (pc := 25) (v := -11) dX11_item_25 (by decide) ?_
        exact v_iret (pc := 27) dX11_item_27 rfl rfl (Nat.le_of_ble_eq_true rfl) (Nat.le_of_ble_eq_true rfl) ⟨by simp only [w_item, e1, eo], I, J, rfl, by simp only [w_item, e1, eo]; exact h, kT_rf⟩
    · have hs5 := hv5 s rfl
      have hs : I (43 + 2 * t) 0 = nI s := hh.1
      refine v_aload_n (pc := 9) dX11_item_9 rfl rfl ?_
      refine v_getH (pc := 10) fg_X11_37_11 dX11_item_10 (li_0 hL) (lr_0_8 hL) ?_
      refine v_iload_n (pc := 13) dX11_item_13 rfl rfl ?_
      refine v_aaloadNH (pc := 14) dX11_item_14 (li_38 hL) (Or.inr rfl) ⟨by omega, by omega⟩ hT.1 ?_
      refine v_astore (pc := 15) dX11_item_15 (by decide) rfl ?_
      refine v_aload (pc := 17) dX11_item_17 rfl ?_
      refine v_ci (pc := 19) (v_rV (c_X5_isThere G l hT (o := some s) hh.1 hv5) rfl kV_X11_246 (v_rcO hT.2.1 rfl (by decide)) ⟨Nat.le_of_ble_eq_true rfl, Nat.le_of_ble_eq_true rfl⟩ ⟨Nat.le_of_ble_eq_true rfl, Nat.le_of_ble_eq_true rfl⟩ dX11_item_19 (Nat.le_of_ble_eq_true rfl)) (fun x19 M19 h19 => ?_)
      obtain ⟨rfl, rfl⟩ := h19
      refine v_if_neP (pc := 22) (tgt := 28) dX11_item_22 (by decide) (fun c22 => ?_) (fun c22 => ?_)
      · refine v_aload (pc := 28) dX11_item_28 rfl ?_
        refine v_iload_n (pc := 30) dX11_item_30 rfl rfl ?_
        refine v_ci (pc := 31) (v_rV (c_X5_hasPlace G l hT hh.2.1 hv60) rfl kV_X11_286 (v_rcO hT.2.1 rfl (by decide)) ⟨Nat.le_of_ble_eq_true rfl, Nat.le_of_ble_eq_true rfl⟩ ⟨Nat.le_of_ble_eq_true rfl, Nat.le_of_ble_eq_true rfl⟩ dX11_item_31 (Nat.le_of_ble_eq_true rfl)) (fun x31 M31 h31 => ?_)
        obtain ⟨rfl, rfl⟩ := h31
        refine v_if_neP (pc := 34) (tgt := 40) dX11_item_34 (by decide) (fun c34 => ?_) (fun c34 => ?_)
        · obtain ⟨j, hj, rfl, e3⟩ := x_nat_i c34 (by omega)
          refine v_aload (pc := 40) dX11_item_40 rfl ?_
          refine v_getH (pc := 42) fg_X11_255_5 dX11_item_42 hT.2.1 hT.2.2.2 ?_
          refine v_iload_n (pc := 45) dX11_item_45 rfl rfl ?_
          refine v_aload (pc := 46) dX11_item_46 rfl ?_
          refine v_lload_n (pc := 48) dX11_item_48 rfl rfl ?_
          refine v_cl (pc := 49) (v_rV (c_X5_asItem G l hT (z := z) hs hs5) rfl kV_X11_289 (v_rcO hT.2.1 rfl (by decide)) ⟨Nat.le_of_ble_eq_true rfl, Nat.le_of_ble_eq_true rfl⟩ ⟨Nat.le_of_ble_eq_true rfl, Nat.le_of_ble_eq_true rfl⟩ dX11_item_49 (Nat.le_of_ble_eq_true rfl)) (fun x49 M49 h49 => ?_)
          obtain ⟨rfl, rfl⟩ := h49
          refine v_lastoreN (pc := 52) dX11_item_52 hT.2.2.1 ⟨by omega, by omega⟩ ?_
          refine v_iconst (pc := 53) (v := nI 1) dX11_item_53 (by decide) ?_
          exact v_iret (pc := 54) dX11_item_54 rfl rfl (Nat.le_of_ble_eq_true rfl) (Nat.le_of_ble_eq_true rfl) (by first | exact ⟨by simp only [w_item, e1, eo, e3], I, J, rfl, by simp only [w_item, e1, eo, e3]; exact h, kT_rf⟩ | exact ⟨by simp only [w_item, e1, eo, e3]; rfl, _, _, rfl, by simp only [w_item, e1, eo, e3]; exact CTp_one h ht eo hj hv60, ⟨fun _ _ _ => rfl, fun a c n => v_u_h (by omega)⟩⟩)
        · have e3 := x_nat_n c34
          refine v_bipush (pc := 37) (v := -13) dX11_item_37 (by decide) ?_
          exact v_iret (pc := 39) dX11_item_39 rfl rfl (Nat.le_of_ble_eq_true rfl) (Nat.le_of_ble_eq_true rfl) (by first | exact ⟨by simp only [w_item, e1, eo, e3], I, J, rfl, by simp only [w_item, e1, eo, e3]; exact h, kT_rf⟩ | exact ⟨by simp only [w_item, e1, eo, e3]; rfl, _, _, rfl, by simp only [w_item, e1, eo, e3]; exact CTp_one h ht eo hj hv60, ⟨fun _ _ _ => rfl, fun a c n => v_u_h (by omega)⟩⟩)
      · exact absurd rfl c22
  · have e1 := x_nat_n c4
    refine v_iconst (pc := 7) (v := -1) dX11_item_7 (by decide) ?_
    exact v_iret (pc := 8) dX11_item_8 rfl rfl (Nat.le_of_ble_eq_true rfl) (Nat.le_of_ble_eq_true rfl) ⟨by simp only [w_item, e1], I, J, rfl, by simp only [w_item, e1]; exact h, kT_rf⟩
abbrev rm_X11_read : Room := { frames := 1, cells := 0, slots := 0, locals := 21 }
set_option maxRecDepth 20000 in
theorem c_X11_read (G : v_G) (l : Launch) {K : Nat × v_TY} {I : Nat → Nat → Int32} {J : Nat → Nat → Int64} {R : Nat → Nat → Option Nat} (hL : Lay K R) {tt ii : Int32} {tp : Nat → TP} (h : CTp I J tp) (hv : TV tp) : v_M G l yX11_read cX11_read 3 (some .long) rm_X11_read [.ref 0, .int tt, .int ii] (K, I, J, R) (v_Ql G (fun (x : Int64) (M' : v_MM) => x = s_read tp tt ii ∧ M' = (K, I, J, R))) := by
  refine v_of [some (.ref 0), some (.int tt), some (.int ii)] (by decide) (Nat.le_of_ble_eq_true rfl) (Nat.le_of_ble_eq_true rfl) rfl ?_
  refine v_iload_n (pc := 0) dX11_read_0 rfl rfl ?_
  refine v_ci (pc := 1) (v_rS (c_X11_isTape G l) rfl kS_X11_243 ⟨Nat.le_of_ble_eq_true rfl, Nat.le_of_ble_eq_true rfl⟩ ⟨Nat.le_of_ble_eq_true rfl, Nat.le_of_ble_eq_true rfl⟩ dX11_read_1 (Nat.le_of_ble_eq_true rfl)) (fun x1 M1 h1 => ?_)
  obtain ⟨rfl, rfl⟩ := h1
  refine v_if_eqP (pc := 4) (tgt := 20) dX11_read_4 (by decide) (fun c4 => ?_) (fun c4 => ?_)
  · have e1 := x_nat_n c4
    refine v_ldc2 (pc := 20) ld_X11_293 dX11_read_20 ?_
    exact v_lret (pc := 23) dX11_read_23 rfl (Nat.le_of_ble_eq_true rfl) (Nat.le_of_ble_eq_true rfl) ⟨by first | (simp only [s_read, e1]; rfl) | (simp only [s_read, e1, e3, eo]; done) | (simp only [s_read, e1, e3]; rcases (tp t).1 with - | s <;> rfl), rfl⟩
  · obtain ⟨t, ht, rfl, e1⟩ := x_nat_i c4 (by decide)
    have hT := TA_of hL ht
    have hh := h t ht
    obtain ⟨hv60, hv5, hv0, -⟩ := hv t ht
    refine v_aload_n (pc := 7) dX11_read_7 rfl rfl ?_
    refine v_getH (pc := 8) fg_X11_37_11 dX11_read_8 (li_0 hL) (lr_0_8 hL) ?_
    refine v_iload_n (pc := 11) dX11_read_11 rfl rfl ?_
    refine v_aaloadNH (pc := 12) dX11_read_12 (li_38 hL) (Or.inr rfl) ⟨by omega, by omega⟩ hT.1 ?_
    refine v_iload_n (pc := 13) dX11_read_13 rfl rfl ?_
    refine v_ci (pc := 14) (v_rV (c_X5_hasPlace G l hT hh.2.1 hv60) rfl kV_X11_286 (v_rcO hT.2.1 rfl (by decide)) ⟨Nat.le_of_ble_eq_true rfl, Nat.le_of_ble_eq_true rfl⟩ ⟨Nat.le_of_ble_eq_true rfl, Nat.le_of_ble_eq_true rfl⟩ dX11_read_14 (Nat.le_of_ble_eq_true rfl)) (fun x14 M14 h14 => ?_)
    obtain ⟨rfl, rfl⟩ := h14
    refine v_if_neP (pc := 17) (tgt := 24) dX11_read_17 (by decide) (fun c17 => ?_) (fun c17 => ?_)
    · obtain ⟨j, hj, rfl, e3⟩ := x_nat_i c17 (by omega)
      obtain ⟨s, eo⟩ : ∃ s, (tp t).1 = some s := by
          rcases eo : (tp t).1 with - | s
          · have := hv0 eo; omega
          · exact ⟨s, rfl⟩
      refine v_aload_n (pc := 24) dX11_read_24 rfl rfl ?_
      refine v_getH (pc := 25) fg_X11_37_11 dX11_read_25 (li_0 hL) (lr_0_8 hL) ?_
      refine v_iload_n (pc := 28) dX11_read_28 rfl rfl ?_
      refine v_aaloadNH (pc := 29) dX11_read_29 (li_38 hL) (Or.inr rfl) ⟨by omega, by omega⟩ hT.1 ?_
      refine v_getH (pc := 30) fg_X11_255_5 dX11_read_30 hT.2.1 hT.2.2.2 ?_
      refine v_iload_n (pc := 33) dX11_read_33 rfl rfl ?_
      refine v_laloadN (pc := 34) dX11_read_34 hT.2.2.1 ⟨by omega, by omega⟩ (hh.2.2 j (by omega)) ?_
      exact v_lret (pc := 35) dX11_read_35 rfl (Nat.le_of_ble_eq_true rfl) (Nat.le_of_ble_eq_true rfl) ⟨by first | (simp only [s_read, e1]; rfl) | (simp only [s_read, e1, e3, eo]; done) | (simp only [s_read, e1, e3]; rcases (tp t).1 with - | s <;> rfl), rfl⟩
    · have e3 := x_nat_n c17
      refine v_ldc2 (pc := 20) ld_X11_293 dX11_read_20 ?_
      exact v_lret (pc := 23) dX11_read_23 rfl (Nat.le_of_ble_eq_true rfl) (Nat.le_of_ble_eq_true rfl) ⟨by first | (simp only [s_read, e1]; rfl) | (simp only [s_read, e1, e3, eo]; done) | (simp only [s_read, e1, e3]; rcases (tp t).1 with - | s <;> rfl), rfl⟩
theorem isn {o : Option Nat} (h : ¬ o.isSome = true) : o = none := by
  cases o with
  | none => rfl
  | some s => exact absurd rfl h
theorem t_nn {n : Nat} (h : n < 2 ^ 31) : ¬ nI n < 0 := by
  rw [Int32.lt_iff_toInt_lt, nI_toInt h]
  have e : (0 : Int32).toInt = 0 := rfl
  rw [e]; omega
abbrev rm_X11_shift : Room := { frames := 1, cells := 0, slots := 0, locals := 60 }
set_option maxRecDepth 20000 in
theorem c_X11_shift (G : v_G) (l : Launch) {K : Nat × v_TY} {I : Nat → Nat → Int32} {J : Nat → Nat → Int64} {R : Nat → Nat → Option Nat} (hL : Lay K R) {tt ii oo jj nn : Int32} {tp : Nat → TP} (h : CTp I J tp) (hv : TV tp) : v_M G l yX11_shift cX11_shift 8 (some .int) rm_X11_shift [.ref 0, .int tt, .int ii, .int oo, .int jj, .int nn] (K, I, J, R) (v_Qi G (fun (x : Int32) (M' : v_MM) => x = (w_shift tp tt ii oo jj nn).1 ∧ ∃ I' J', M' = (K, I', J', R) ∧ CTp I' J' (w_put tp (w_shift tp tt ii oo jj nn).2) ∧ kT I J I' J')) := by
  refine v_of [some (.ref 0), some (.int tt), some (.int ii), some (.int oo), some (.int jj), some (.int nn), none, none] (by decide) (Nat.le_of_ble_eq_true rfl) (Nat.le_of_ble_eq_true rfl) rfl ?_
  refine v_iload_n (pc := 0) dX11_shift_0 rfl rfl ?_
  refine v_ci (pc := 1) (v_rS (c_X11_isTape G l) rfl kS_X11_243 ⟨Nat.le_of_ble_eq_true rfl, Nat.le_of_ble_eq_true rfl⟩ ⟨Nat.le_of_ble_eq_true rfl, Nat.le_of_ble_eq_true rfl⟩ dX11_shift_1 (Nat.le_of_ble_eq_true rfl)) (fun x1 M1 h1 => ?_)
  obtain ⟨rfl, rfl⟩ := h1
  refine v_if_eqP (pc := 4) (tgt := 14) dX11_shift_4 (by decide) (fun c4 => ?_) (fun c4 => ?_)
  · have e1 := x_nat_n c4
    refine v_iconst (pc := 14) (v := -1) dX11_shift_14 (by decide) ?_
    exact v_iret (pc := 15) dX11_shift_15 rfl rfl (Nat.le_of_ble_eq_true rfl) (Nat.le_of_ble_eq_true rfl) (by first | exact ⟨by simp only [w_shift, e1], I, J, rfl, by simp only [w_shift, e1]; exact h, kT_rf⟩ | exact ⟨by simp only [w_shift, e1, e2], I, J, rfl, by simp only [w_shift, e1, e2]; exact h, kT_rf⟩)
  · obtain ⟨t, htt, et, e1⟩ := x_nat_i c4 (by decide)
    refine v_iload_n (pc := 7) dX11_shift_7 rfl rfl ?_
    refine v_ci (pc := 8) (v_rS (c_X11_isTape G l) rfl kS_X11_243 ⟨Nat.le_of_ble_eq_true rfl, Nat.le_of_ble_eq_true rfl⟩ ⟨Nat.le_of_ble_eq_true rfl, Nat.le_of_ble_eq_true rfl⟩ dX11_shift_8 (Nat.le_of_ble_eq_true rfl)) (fun x8 M8 h8 => ?_)
    obtain ⟨rfl, rfl⟩ := h8
    refine v_if_neP (pc := 11) (tgt := 16) dX11_shift_11 (by decide) (fun c11 => ?_) (fun c11 => ?_)
    · obtain ⟨o, hoo, eo, e2⟩ := x_nat_i c11 (by decide)
      subst et; subst eo
      have hT := TA_of hL htt
      have hO := TA_of hL hoo
      have hh := h t htt
      have ho := h o hoo
      obtain ⟨hv60, hv5, hv0, -⟩ := hv t htt
      obtain ⟨hw60, hw5, hw0, -⟩ := hv o hoo
      refine v_aload_n (pc := 16) dX11_shift_16 rfl rfl ?_
      refine v_getH (pc := 17) fg_X11_37_11 dX11_shift_17 (li_0 hL) (lr_0_8 hL) ?_
      refine v_iload_n (pc := 20) dX11_shift_20 rfl rfl ?_
      refine v_aaloadNH (pc := 21) dX11_shift_21 (li_38 hL) (Or.inr rfl) ⟨by omega, by omega⟩ hT.1 ?_
      refine v_astore (pc := 22) dX11_shift_22 (by decide) rfl ?_
      refine v_aload_n (pc := 24) dX11_shift_24 rfl rfl ?_
      refine v_getH (pc := 25) fg_X11_37_11 dX11_shift_25 (li_0 hL) (lr_0_8 hL) ?_
      refine v_iload_n (pc := 28) dX11_shift_28 rfl rfl ?_
      refine v_aaloadNH (pc := 29) dX11_shift_29 (li_38 hL) (Or.inr rfl) ⟨by omega, by omega⟩ hO.1 ?_
      refine v_astore (pc := 30) dX11_shift_30 (by decide) rfl ?_
      refine v_aload (pc := 32) dX11_shift_32 rfl ?_
      refine v_ci (pc := 34) (v_rV (c_X5_isThere G l hT hh.1 hv5) rfl kV_X11_246 (v_rcO hT.2.1 rfl (by decide)) ⟨Nat.le_of_ble_eq_true rfl, Nat.le_of_ble_eq_true rfl⟩ ⟨Nat.le_of_ble_eq_true rfl, Nat.le_of_ble_eq_true rfl⟩ dX11_shift_34 (Nat.le_of_ble_eq_true rfl)) (fun x34 M34 h34 => ?_)
      obtain ⟨rfl, rfl⟩ := h34
      refine v_if_eqP (pc := 37) (tgt := 48) dX11_shift_37 (by decide) (fun c37 => ?_) (fun c37 => ?_)
      · have eA : (tp t).1 = none := isn c37
        refine v_bipush (pc := 48) (v := -11) dX11_shift_48 (by decide) ?_
        exact v_iret (pc := 50) dX11_shift_50 rfl rfl (Nat.le_of_ble_eq_true rfl) (Nat.le_of_ble_eq_true rfl) (by first | exact ⟨by simp only [w_shift, e1, e2, eA], I, J, rfl, by simp only [w_shift, e1, e2, eA]; exact h, kT_rf⟩ | exact ⟨by simp only [w_shift, e1, e2, eA, eB], I, J, rfl, by simp only [w_shift, e1, e2, eA, eB]; exact h, kT_rf⟩ | exact ⟨by simp only [w_shift, e1, e2, eA, eB]; rw [if_neg c61], I, J, rfl, by simp only [w_shift, e1, e2, eA, eB]; rw [if_neg c61]; exact h, kT_rf⟩)
      · obtain ⟨s, eA⟩ := Option.isSome_iff_exists.mp c37
        refine v_aload (pc := 40) dX11_shift_40 rfl ?_
        refine v_ci (pc := 42) (v_rV (c_X5_isThere G l hO ho.1 hw5) rfl kV_X11_246 (v_rcO hO.2.1 rfl (by decide)) ⟨Nat.le_of_ble_eq_true rfl, Nat.le_of_ble_eq_true rfl⟩ ⟨Nat.le_of_ble_eq_true rfl, Nat.le_of_ble_eq_true rfl⟩ dX11_shift_42 (Nat.le_of_ble_eq_true rfl)) (fun x42 M42 h42 => ?_)
        obtain ⟨rfl, rfl⟩ := h42
        refine v_if_neP (pc := 45) (tgt := 51) dX11_shift_45 (by decide) (fun c45 => ?_) (fun c45 => ?_)
        · obtain ⟨s2, eB⟩ := Option.isSome_iff_exists.mp c45
          rw [eA] at hh hv5; rw [eB] at ho hw5
          have hs5 := hv5 s rfl
          have hs6 := hw5 s2 rfl
          have hst : I (43 + 2 * t) 0 = nI s := hh.1
          have hso : I (43 + 2 * o) 0 = nI s2 := ho.1
          refine v_aload (pc := 51) dX11_shift_51 rfl ?_
          refine v_getV (pc := 53) fg_X11_249_5 dX11_shift_53 hT.2.1 hst ?_
          refine v_aload (pc := 56) dX11_shift_56 rfl ?_
          refine v_getV (pc := 58) fg_X11_249_5 dX11_shift_58 hO.2.1 hso ?_
          refine v_icmp_eqN (pc := 61) (tgt := 67) ⟨by omega, by omega⟩ dX11_shift_61 (by decide) (fun c61 => ?_) (fun c61 => ?_)
          · by_cases hq : 0 ≤ nn.toInt ∧ 0 ≤ ii.toInt ∧ 0 ≤ jj.toInt ∧ ii.toInt + nn.toInt ≤ (tp t).2.1 ∧ jj.toInt + nn.toInt ≤ (tp o).2.1
            · have hf := t_fit2 ⟨hv60, hw60⟩ hq
              have eW : w_shift tp (nI t) ii (nI o) jj nn = (nn, some (o, w_shf (tp t) (tp o) ii.toInt.toNat jj.toInt.toNat nn.toInt.toNat)) := by simp only [w_shift, e1, e2, eA, eB]; rw [if_pos c61, if_pos hq]
              obtain ⟨i, j, n, rfl, rfl, rfl, hf1, hf2, q1, q2, q3⟩ := hf
              rw [q1, q2, q3] at eW
              refine v_aload (pc := 67) dX11_shift_67 rfl ?_
              refine v_iload_n (pc := 69) dX11_shift_69 rfl rfl ?_
              refine v_iload (pc := 70) dX11_shift_70 rfl ?_
              refine v_ci (pc := 72) (v_rV (c_X5_hasStretch G l hT hh.2.1 hv60) rfl kV_X11_295 (v_rcO hT.2.1 rfl (by decide)) ⟨Nat.le_of_ble_eq_true rfl, Nat.le_of_ble_eq_true rfl⟩ ⟨Nat.le_of_ble_eq_true rfl, Nat.le_of_ble_eq_true rfl⟩ dX11_shift_72 (Nat.le_of_ble_eq_true rfl)) (fun x72 M72 h72 => ?_)
              obtain ⟨rfl, rfl⟩ := h72
              refine v_if_eqP (pc := 75) (tgt := 90) dX11_shift_75 (by decide) (fun c75 => ?_) (fun c75 => ?_)
              · exact absurd ⟨hq.1, hq.2.1, hq.2.2.2.1⟩ c75
              · refine v_aload (pc := 78) dX11_shift_78 rfl ?_
                refine v_iload (pc := 80) dX11_shift_80 rfl ?_
                refine v_iload (pc := 82) dX11_shift_82 rfl ?_
                refine v_ci (pc := 84) (v_rV (c_X5_hasStretch G l hO ho.2.1 hw60) rfl kV_X11_295 (v_rcO hO.2.1 rfl (by decide)) ⟨Nat.le_of_ble_eq_true rfl, Nat.le_of_ble_eq_true rfl⟩ ⟨Nat.le_of_ble_eq_true rfl, Nat.le_of_ble_eq_true rfl⟩ dX11_shift_84 (Nat.le_of_ble_eq_true rfl)) (fun x84 M84 h84 => ?_)
                obtain ⟨rfl, rfl⟩ := h84
                refine v_if_neP (pc := 87) (tgt := 93) dX11_shift_87 (by decide) (fun c87 => ?_) (fun c87 => ?_)
                · refine v_aload (pc := 93) dX11_shift_93 rfl ?_
                  refine v_getH (pc := 95) fg_X11_255_5 dX11_shift_95 hT.2.1 hT.2.2.2 ?_
                  refine v_iload_n (pc := 98) dX11_shift_98 rfl rfl ?_
                  refine v_aload (pc := 99) dX11_shift_99 rfl ?_
                  refine v_getH (pc := 101) fg_X11_255_5 dX11_shift_101 hO.2.1 hO.2.2.2 ?_
                  refine v_iload (pc := 104) dX11_shift_104 rfl ?_
                  refine v_iload (pc := 106) dX11_shift_106 rfl ?_
                  refine v_copyL (pc := 108) kA_X11_298 hT.2.2.1 hO.2.2.1 (t_nn (by omega)) (t_nn (by omega)) (t_nn (by omega)) (by rw [nI_clamp (by omega), nI_clamp (by omega)]; omega) (by rw [nI_clamp (by omega), nI_clamp (by omega)]; omega) (Nat.le_of_ble_eq_true rfl) (Nat.le_of_ble_eq_true rfl) dX11_shift_108 ?_
                  rw [nI_clamp (show i < 2 ^ 31 by omega), nI_clamp (show j < 2 ^ 31 by omega), nI_clamp (show n < 2 ^ 31 by omega)]
                  refine v_iload (pc := 111) dX11_shift_111 rfl ?_
                  exact v_iret (pc := 113) dX11_shift_113 rfl rfl (Nat.le_of_ble_eq_true rfl) (Nat.le_of_ble_eq_true rfl) ⟨by rw [eW], _, _, rfl, by rw [eW]; exact CTp_shf h htt hoo hf1 hf2 hv60 hw60, kT_shf hoo⟩
                · exact absurd ⟨hq.1, hq.2.2.1, hq.2.2.2.2⟩ c87
            · have eW : w_shift tp (nI t) ii (nI o) jj nn = (-13, none) := by simp only [w_shift, e1, e2, eA, eB]; rw [if_pos c61, if_neg hq]
              refine v_aload (pc := 67) dX11_shift_67 rfl ?_
              refine v_iload_n (pc := 69) dX11_shift_69 rfl rfl ?_
              refine v_iload (pc := 70) dX11_shift_70 rfl ?_
              refine v_ci (pc := 72) (v_rV (c_X5_hasStretch G l hT hh.2.1 hv60) rfl kV_X11_295 (v_rcO hT.2.1 rfl (by decide)) ⟨Nat.le_of_ble_eq_true rfl, Nat.le_of_ble_eq_true rfl⟩ ⟨Nat.le_of_ble_eq_true rfl, Nat.le_of_ble_eq_true rfl⟩ dX11_shift_72 (Nat.le_of_ble_eq_true rfl)) (fun x72 M72 h72 => ?_)
              obtain ⟨rfl, rfl⟩ := h72
              refine v_if_eqP (pc := 75) (tgt := 90) dX11_shift_75 (by decide) (fun c75 => ?_) (fun c75 => ?_)
              · refine v_bipush (pc := 90) (v := -13) dX11_shift_90 (by decide) ?_
                exact v_iret (pc := 92) dX11_shift_92 rfl rfl (Nat.le_of_ble_eq_true rfl) (Nat.le_of_ble_eq_true rfl) ⟨by rw [eW], I, J, rfl, by rw [eW]; exact h, kT_rf⟩
              · refine v_aload (pc := 78) dX11_shift_78 rfl ?_
                refine v_iload (pc := 80) dX11_shift_80 rfl ?_
                refine v_iload (pc := 82) dX11_shift_82 rfl ?_
                refine v_ci (pc := 84) (v_rV (c_X5_hasStretch G l hO ho.2.1 hw60) rfl kV_X11_295 (v_rcO hO.2.1 rfl (by decide)) ⟨Nat.le_of_ble_eq_true rfl, Nat.le_of_ble_eq_true rfl⟩ ⟨Nat.le_of_ble_eq_true rfl, Nat.le_of_ble_eq_true rfl⟩ dX11_shift_84 (Nat.le_of_ble_eq_true rfl)) (fun x84 M84 h84 => ?_)
                obtain ⟨rfl, rfl⟩ := h84
                refine v_if_neP (pc := 87) (tgt := 93) dX11_shift_87 (by decide) (fun c87 => ?_) (fun c87 => ?_)
                · exact absurd ⟨c75.1, c75.2.1, c87.2.1, c75.2.2, c87.2.2⟩ hq
                · refine v_bipush (pc := 90) (v := -13) dX11_shift_90 (by decide) ?_
                  exact v_iret (pc := 92) dX11_shift_92 rfl rfl (Nat.le_of_ble_eq_true rfl) (Nat.le_of_ble_eq_true rfl) ⟨by rw [eW], I, J, rfl, by rw [eW]; exact h, kT_rf⟩
          · refine v_bipush (pc := 64) (v := -12) dX11_shift_64 (by decide) ?_
            exact v_iret (pc := 66) dX11_shift_66 rfl rfl (Nat.le_of_ble_eq_true rfl) (Nat.le_of_ble_eq_true rfl) (by first | exact ⟨by simp only [w_shift, e1, e2, eA], I, J, rfl, by simp only [w_shift, e1, e2, eA]; exact h, kT_rf⟩ | exact ⟨by simp only [w_shift, e1, e2, eA, eB], I, J, rfl, by simp only [w_shift, e1, e2, eA, eB]; exact h, kT_rf⟩ | exact ⟨by simp only [w_shift, e1, e2, eA, eB]; rw [if_neg c61], I, J, rfl, by simp only [w_shift, e1, e2, eA, eB]; rw [if_neg c61]; exact h, kT_rf⟩)
        · have eB : (tp o).1 = none := isn c45
          refine v_bipush (pc := 48) (v := -11) dX11_shift_48 (by decide) ?_
          exact v_iret (pc := 50) dX11_shift_50 rfl rfl (Nat.le_of_ble_eq_true rfl) (Nat.le_of_ble_eq_true rfl) (by first | exact ⟨by simp only [w_shift, e1, e2, eA], I, J, rfl, by simp only [w_shift, e1, e2, eA]; exact h, kT_rf⟩ | exact ⟨by simp only [w_shift, e1, e2, eA, eB], I, J, rfl, by simp only [w_shift, e1, e2, eA, eB]; exact h, kT_rf⟩ | exact ⟨by simp only [w_shift, e1, e2, eA, eB]; rw [if_neg c61], I, J, rfl, by simp only [w_shift, e1, e2, eA, eB]; rw [if_neg c61]; exact h, kT_rf⟩)
    · have e2 := x_nat_n c11
      refine v_iconst (pc := 14) (v := -1) dX11_shift_14 (by decide) ?_
      exact v_iret (pc := 15) dX11_shift_15 rfl rfl (Nat.le_of_ble_eq_true rfl) (Nat.le_of_ble_eq_true rfl) (by first | exact ⟨by simp only [w_shift, e1], I, J, rfl, by simp only [w_shift, e1]; exact h, kT_rf⟩ | exact ⟨by simp only [w_shift, e1, e2], I, J, rfl, by simp only [w_shift, e1, e2]; exact h, kT_rf⟩)
abbrev rm_X11_judge : Room := { frames := 3, cells := 0, slots := 0, locals := 64 }
set_option maxRecDepth 20000 in
theorem c_X11_judge (G : v_G) (l : Launch) {K : Nat × v_TY} {I : Nat → Nat → Int32} {J : Nat → Nat → Int64} {R : Nat → Nat → Option Nat} (hL : Lay K R) {tt ii : Int32} {b : BS} {hm : Nat} (hC : CB0 I 1 b hm) (hB : VB b) {tp : Nat → TP} (h : CTp I J tp) (hv : TV tp) : v_M G l yX11_judge cX11_judge 5 (some .int) rm_X11_judge [.ref 0, .int tt, .int ii] (K, I, J, R) (v_Qi G (fun (x : Int32) (M' : v_MM) => x = s_judge b tp tt ii ∧ M' = (K, I, J, R))) := by
  refine v_of [some (.ref 0), some (.int tt), some (.int ii), none, none] (by decide) (Nat.le_of_ble_eq_true rfl) (Nat.le_of_ble_eq_true rfl) rfl ?_
  have hn := hB.1
  have h15 := pr15 hn
  refine v_iload_n (pc := 0) dX11_judge_0 rfl rfl ?_
  refine v_ci (pc := 1) (v_rS (c_X11_isTape G l) rfl kS_X11_243 ⟨Nat.le_of_ble_eq_true rfl, Nat.le_of_ble_eq_true rfl⟩ ⟨Nat.le_of_ble_eq_true rfl, Nat.le_of_ble_eq_true rfl⟩ dX11_judge_1 (Nat.le_of_ble_eq_true rfl)) (fun x1 M1 h1 => ?_)
  obtain ⟨rfl, rfl⟩ := h1
  refine v_if_neP (pc := 4) (tgt := 9) dX11_judge_4 (by decide) (fun c4 => ?_) (fun c4 => ?_)
  · obtain ⟨t, htt, et, e1⟩ := x_nat_i c4 (by decide)
    subst et
    have hT := TA_of hL htt
    have hh := h t htt
    obtain ⟨hv60, hv5, hv0, hv4⟩ := hv t htt
    have key : s_judge b tp (nI t) ii = (w_ff (w_jd b (tp t) ii) (w_pr (b_n b))).getD (-5) → (∀ j, j < (tp t).2.1 → (tp t).2.2 j = 0 ∨ (tp t).2.2 j = 1) → ∀ i, i ≤ w_pr (b_n b) → w_ff (w_jd b (tp t) ii) i = none → v_V G l yX11_judge cX11_judge 5 (some .int) rm_X11_judge (v_Qi G (fun (x : Int32) (M' : v_MM) => x = s_judge b tp (nI t) ii ∧ M' = (K, I, J, R))) 0 0 37 [some (.ref 0), some (.int (nI t)), some (.int ii), some (.ref (43 + 2 * t)), some (.int (nI i))] [] (K, I, J, R) := by
      intro es h01
      refine v_down (w_pr (b_n b)) (fun i hi ih => ?_)
      intro hf
      refine v_iload (pc := 37) dX11_judge_37 rfl ?_
      refine v_aload_n (pc := 39) dX11_judge_39 rfl rfl ?_
      refine v_getH (pc := 40) fg_X11_12_11 dX11_judge_40 (li_0 hL) (lr_0_0 hL) ?_
      refine v_ci (pc := 43) (v_rV (c_X9_pairCount G l hL (Or.inl rfl) hC.1 (by omega)) rfl kV_X11_162 (v_rcO (li_1 hL) rfl (by decide)) ⟨Nat.le_of_ble_eq_true rfl, Nat.le_of_ble_eq_true rfl⟩ ⟨Nat.le_of_ble_eq_true rfl, Nat.le_of_ble_eq_true rfl⟩ dX11_judge_43 (Nat.le_of_ble_eq_true rfl)) (fun x43 M43 h43 => ?_)
      obtain ⟨rfl, rfl⟩ := h43
      refine v_icmp_geN (pc := 46) (tgt := 110) ⟨by omega, by omega⟩ dX11_judge_46 (by decide) (fun c46 => ?_) (fun c46 => ?_)
      · refine v_bipush (pc := 110) (v := -5) dX11_judge_110 (by decide) ?_
        exact v_iret (pc := 112) dX11_judge_112 rfl rfl (Nat.le_of_ble_eq_true rfl) (Nat.le_of_ble_eq_true rfl) ⟨by first | (rw [es, w_ff_s hf hjd (by omega)]; rfl) | (rw [es, w_ff_s hf hjd2 (by omega)]; rfl) | (rw [es, show w_pr (b_n b) = i by omega, hf]; rfl), rfl⟩
      · have hg := w_g_in i (by omega)
        have hjd : (w_jd b (tp t) ii) i = match x_nat ii ((tp t).2.1 - i) with | none => some (nI (100 + i)) | some j => if (tp t).2.2 (j + i) = (nI (if (b_m b (w_l i)).testBit (w_g i) = true then 1 else 0)).toInt64 then none else some (nI i) := rfl
        refine v_iload_n (pc := 49) dX11_judge_49 rfl rfl ?_
        refine v_if_lt (pc := 50) (tgt := 64) dX11_judge_50 (by decide) (fun c50 => ?_) (fun c50 => ?_)
        · have e3 : x_nat ii ((tp t).2.1 - i) = none := if_pos (Or.inl c50)
          rw [e3] at hjd
          refine v_bipush (pc := 64) (v := nI 100) dX11_judge_64 (by decide) ?_
          refine v_iload (pc := 66) dX11_judge_66 rfl ?_
          refine v_iaddN (pc := 68) dX11_judge_68 ?_
          exact v_iret (pc := 69) dX11_judge_69 rfl rfl (Nat.le_of_ble_eq_true rfl) (Nat.le_of_ble_eq_true rfl) ⟨by first | (rw [es, w_ff_s hf hjd (by omega)]; rfl) | (rw [es, w_ff_s hf hjd2 (by omega)]; rfl) | (rw [es, show w_pr (b_n b) = i by omega, hf]; rfl), rfl⟩
        · refine v_iload_n (pc := 53) dX11_judge_53 rfl rfl ?_
          refine v_aload_n (pc := 54) dX11_judge_54 rfl rfl ?_
          refine v_getV (pc := 55) fg_X11_252_5 dX11_judge_55 hT.2.1 hh.2.1 ?_
          refine v_iload (pc := 58) dX11_judge_58 rfl ?_
          refine v_isub (pc := 60) dX11_judge_60 ?_
          refine v_icmp_lt (pc := 61) (tgt := 70) dX11_judge_61 (by decide) (fun c61 => ?_) (fun c61 => ?_)
          · obtain ⟨j, hj, rfl, e3⟩ := x_nat_i ((t_lt hv60 (by omega) c50).mp c61) (by omega)
            rw [e3] at hjd
            have hz := h01 (j + i) (by omega)
            refine v_aload_n (pc := 70) dX11_judge_70 rfl rfl ?_
            refine v_getH (pc := 71) fg_X11_255_5 dX11_judge_71 hT.2.1 hT.2.2.2 ?_
            refine v_iload_n (pc := 74) dX11_judge_74 rfl rfl ?_
            refine v_iload (pc := 75) dX11_judge_75 rfl ?_
            refine v_iaddN (pc := 77) dX11_judge_77 ?_
            refine v_laloadN (pc := 78) dX11_judge_78 hT.2.2.1 ⟨by omega, by omega⟩ (hh.2.2 (j + i) (by omega)) ?_
            refine v_lconst (pc := 79) (v := 0) dX11_judge_79 (by decide) ?_
            refine v_lcmp (pc := 80) dX11_judge_80 ?_
            refine v_if_eq (pc := 81) (tgt := 88) dX11_judge_81 (by decide) (fun c81 => ?_) (fun c81 => ?_)
            · have ez := t_j1 (a := (b_m b (w_l i)).testBit (w_g i)) hz
              rw [if_pos (x_cmp0.mp c81)] at ez
              refine v_iconst (pc := 88) (v := nI 0) dX11_judge_88 (by decide) ?_
              refine v_aload_n (pc := 89) dX11_judge_89 rfl rfl ?_
              refine v_getH (pc := 90) fg_X11_12_11 dX11_judge_90 (li_0 hL) (lr_0_0 hL) ?_
              refine v_iload (pc := 93) dX11_judge_93 rfl ?_
              refine v_ci (pc := 95) (v_rV (c_X9_areFriends G l hL (Or.inl rfl) hC.2.2.2.1 (by omega)) rfl kV_X11_121 (v_rcO (li_1 hL) rfl (by decide)) ⟨Nat.le_of_ble_eq_true rfl, Nat.le_of_ble_eq_true rfl⟩ ⟨Nat.le_of_ble_eq_true rfl, Nat.le_of_ble_eq_true rfl⟩ dX11_judge_95 (Nat.le_of_ble_eq_true rfl)) (fun x95 M95 h95 => ?_)
              obtain ⟨rfl, rfl⟩ := h95
              refine v_icmp_eq (pc := 98) (tgt := 104) dX11_judge_98 (by decide) (fun c98 => ?_) (fun c98 => ?_)
              · have hjd2 := hjd.trans (if_pos (ez.mp c98))
                refine v_iincN (pc := 104) (b := 1) dX11_judge_104 rfl (by decide) (by decide) rfl ?_
                refine v_goto (pc := 107) (tgt := 37) dX11_judge_107 (by decide) ?_
                exact ih (i + 1) (by omega) (by omega) (w_ff_n hf hjd2)
              · have hjd2 := hjd.trans (if_neg (fun q => c98 (ez.mpr q)))
                refine v_iload (pc := 101) dX11_judge_101 rfl ?_
                exact v_iret (pc := 103) dX11_judge_103 rfl rfl (Nat.le_of_ble_eq_true rfl) (Nat.le_of_ble_eq_true rfl) ⟨by first | (rw [es, w_ff_s hf hjd (by omega)]; rfl) | (rw [es, w_ff_s hf hjd2 (by omega)]; rfl) | (rw [es, show w_pr (b_n b) = i by omega, hf]; rfl), rfl⟩
            · have ez := t_j1 (a := (b_m b (w_l i)).testBit (w_g i)) hz
              rw [if_neg (fun q => c81 (x_cmp0.mpr q))] at ez
              refine v_iconst (pc := 84) (v := nI 1) dX11_judge_84 (by decide) ?_
              refine v_goto (pc := 85) (tgt := 89) dX11_judge_85 (by decide) ?_
              refine v_aload_n (pc := 89) dX11_judge_89 rfl rfl ?_
              refine v_getH (pc := 90) fg_X11_12_11 dX11_judge_90 (li_0 hL) (lr_0_0 hL) ?_
              refine v_iload (pc := 93) dX11_judge_93 rfl ?_
              refine v_ci (pc := 95) (v_rV (c_X9_areFriends G l hL (Or.inl rfl) hC.2.2.2.1 (by omega)) rfl kV_X11_121 (v_rcO (li_1 hL) rfl (by decide)) ⟨Nat.le_of_ble_eq_true rfl, Nat.le_of_ble_eq_true rfl⟩ ⟨Nat.le_of_ble_eq_true rfl, Nat.le_of_ble_eq_true rfl⟩ dX11_judge_95 (Nat.le_of_ble_eq_true rfl)) (fun x95 M95 h95 => ?_)
              obtain ⟨rfl, rfl⟩ := h95
              refine v_icmp_eq (pc := 98) (tgt := 104) dX11_judge_98 (by decide) (fun c98 => ?_) (fun c98 => ?_)
              · have hjd2 := hjd.trans (if_pos (ez.mp c98))
                refine v_iincN (pc := 104) (b := 1) dX11_judge_104 rfl (by decide) (by decide) rfl ?_
                refine v_goto (pc := 107) (tgt := 37) dX11_judge_107 (by decide) ?_
                exact ih (i + 1) (by omega) (by omega) (w_ff_n hf hjd2)
              · have hjd2 := hjd.trans (if_neg (fun q => c98 (ez.mpr q)))
                refine v_iload (pc := 101) dX11_judge_101 rfl ?_
                exact v_iret (pc := 103) dX11_judge_103 rfl rfl (Nat.le_of_ble_eq_true rfl) (Nat.le_of_ble_eq_true rfl) ⟨by first | (rw [es, w_ff_s hf hjd (by omega)]; rfl) | (rw [es, w_ff_s hf hjd2 (by omega)]; rfl) | (rw [es, show w_pr (b_n b) = i by omega, hf]; rfl), rfl⟩
          · have e3 : x_nat ii ((tp t).2.1 - i) = none := x_nat_n (fun q => c61 ((t_lt hv60 (by omega) c50).mpr q))
            rw [e3] at hjd
            refine v_bipush (pc := 64) (v := nI 100) dX11_judge_64 (by decide) ?_
            refine v_iload (pc := 66) dX11_judge_66 rfl ?_
            refine v_iaddN (pc := 68) dX11_judge_68 ?_
            exact v_iret (pc := 69) dX11_judge_69 rfl rfl (Nat.le_of_ble_eq_true rfl) (Nat.le_of_ble_eq_true rfl) ⟨by first | (rw [es, w_ff_s hf hjd (by omega)]; rfl) | (rw [es, w_ff_s hf hjd2 (by omega)]; rfl) | (rw [es, show w_pr (b_n b) = i by omega, hf]; rfl), rfl⟩
    rcases eo : (tp t).1 with - | s <;> rw [eo] at hh hv5 hv0 hv4
    · have hl0 := hv0 rfl
      refine v_aload_n (pc := 9) dX11_judge_9 rfl rfl ?_
      refine v_getH (pc := 10) fg_X11_37_11 dX11_judge_10 (li_0 hL) (lr_0_8 hL) ?_
      refine v_iload_n (pc := 13) dX11_judge_13 rfl rfl ?_
      refine v_aaloadNH (pc := 14) dX11_judge_14 (li_38 hL) (Or.inr rfl) ⟨by omega, by omega⟩ hT.1 ?_
      refine v_astore_n (pc := 15) dX11_judge_15 rfl (by decide) rfl ?_
      refine v_aload_n (pc := 16) dX11_judge_16 rfl rfl ?_
      refine v_ci (pc := 17) (v_rV (c_X5_isThere G l hT (o := none) hh.1 hv5) rfl kV_X11_246 (v_rcO hT.2.1 rfl (by decide)) ⟨Nat.le_of_ble_eq_true rfl, Nat.le_of_ble_eq_true rfl⟩ ⟨Nat.le_of_ble_eq_true rfl, Nat.le_of_ble_eq_true rfl⟩ dX11_judge_17 (Nat.le_of_ble_eq_true rfl)) (fun x17 M17 h17 => ?_)
      obtain ⟨rfl, rfl⟩ := h17
      refine v_if_eqP (pc := 20) (tgt := 34) dX11_judge_20 (by decide) (fun c20 => ?_) (fun c20 => ?_)
      · refine v_iconst (pc := 34) (v := nI 0) dX11_judge_34 (by decide) ?_
        refine v_istore (pc := 35) dX11_judge_35 (by decide) rfl ?_
        exact key (by simp only [s_judge, e1, eo]) (fun j hj => by omega) 0 (Nat.zero_le _) rfl
      · exact absurd c20 (by simp)
    · have hs5 := hv5 s rfl
      have hs : I (43 + 2 * t) 0 = nI s := hh.1
      refine v_aload_n (pc := 9) dX11_judge_9 rfl rfl ?_
      refine v_getH (pc := 10) fg_X11_37_11 dX11_judge_10 (li_0 hL) (lr_0_8 hL) ?_
      refine v_iload_n (pc := 13) dX11_judge_13 rfl rfl ?_
      refine v_aaloadNH (pc := 14) dX11_judge_14 (li_38 hL) (Or.inr rfl) ⟨by omega, by omega⟩ hT.1 ?_
      refine v_astore_n (pc := 15) dX11_judge_15 rfl (by decide) rfl ?_
      refine v_aload_n (pc := 16) dX11_judge_16 rfl rfl ?_
      refine v_ci (pc := 17) (v_rV (c_X5_isThere G l hT (o := some s) hh.1 hv5) rfl kV_X11_246 (v_rcO hT.2.1 rfl (by decide)) ⟨Nat.le_of_ble_eq_true rfl, Nat.le_of_ble_eq_true rfl⟩ ⟨Nat.le_of_ble_eq_true rfl, Nat.le_of_ble_eq_true rfl⟩ dX11_judge_17 (Nat.le_of_ble_eq_true rfl)) (fun x17 M17 h17 => ?_)
      obtain ⟨rfl, rfl⟩ := h17
      refine v_if_eqP (pc := 20) (tgt := 34) dX11_judge_20 (by decide) (fun c20 => ?_) (fun c20 => ?_)
      · exact absurd rfl c20
      · refine v_aload_n (pc := 23) dX11_judge_23 rfl rfl ?_
        refine v_getV (pc := 24) fg_X11_249_5 dX11_judge_24 hT.2.1 hs ?_
        refine v_iconst (pc := 27) (v := nI 4) dX11_judge_27 (by decide) ?_
        refine v_icmp_eqN (pc := 28) (tgt := 34) ⟨by omega, by omega⟩ dX11_judge_28 (by decide) (fun c28 => ?_) (fun c28 => ?_)
        · refine v_iconst (pc := 34) (v := nI 0) dX11_judge_34 (by decide) ?_
          refine v_istore (pc := 35) dX11_judge_35 (by decide) rfl ?_
          exact key (by simp only [s_judge, e1, eo]; rw [if_pos c28]) (fun j hj => hv4 (by rw [c28]) j) 0 (Nat.zero_le _) rfl
        · refine v_bipush (pc := 31) (v := -12) dX11_judge_31 (by decide) ?_
          exact v_iret (pc := 33) dX11_judge_33 rfl rfl (Nat.le_of_ble_eq_true rfl) (Nat.le_of_ble_eq_true rfl) ⟨by simp only [s_judge, e1, eo]; rw [if_neg c28], rfl⟩
  · have e1 := x_nat_n c4
    refine v_iconst (pc := 7) (v := -1) dX11_judge_7 (by decide) ?_
    exact v_iret (pc := 8) dX11_judge_8 rfl rfl (Nat.le_of_ble_eq_true rfl) (Nat.le_of_ble_eq_true rfl) ⟨by simp only [s_judge, e1], rfl⟩
