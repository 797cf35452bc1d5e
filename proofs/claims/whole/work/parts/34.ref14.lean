/-! THE REFERENCE: judge, shift -/
def w_jd (b : BS) (T : TP) (ii : Int32) (k : Nat) : Option Int32 := match x_nat ii (T.2.1 - k) with
  | none => some (nI (100 + k))
  | some j => if T.2.2 (j + k) = (nI (if (b_m b (w_l k)).testBit (w_g k) = true then 1 else 0)).toInt64 then none else some (nI k)
def s_judge (b : BS) (t : Nat → TP) (tt ii : Int32) : Int32 := match x_nat tt 6 with
  | none => -1
  | some k => match (t k).1 with
    | none => (w_ff (w_jd b (t k) ii) (w_pr (b_n b))).getD (-5)
    | some s => if s = 4 then (w_ff (w_jd b (t k) ii) (w_pr (b_n b))).getD (-5) else -12
theorem t_sub1 : ∀ L, L < 61 → ∀ i, i < 15 → (nI L - nI i - nI 1).toInt = (L : Int) - (i : Int) - 1 := by decide +kernel
theorem t_le {ii : Int32} {L i : Nat} (hL : L ≤ 60) (hi : i < 15) (h : ¬ ii < 0) : ii ≤ nI L - nI i - nI 1 ↔ vp_in ii (L - i) := by
  rw [Int32.le_iff_toInt_le, t_sub1 L (by omega) i hi, vp_in_iff]
  rw [Int32.lt_iff_toInt_lt] at h
  have h0 : (0 : Int32).toInt = 0 := rfl
  constructor
  · intro q; omega
  · intro q; omega
/-- where a stretch fits -/
def w_fit (ii jj nn : Int32) (L L2 : Nat) : Prop := 0 ≤ nn.toInt ∧ 0 ≤ ii.toInt ∧ 0 ≤ jj.toInt ∧ ii.toInt + nn.toInt ≤ L ∧ jj.toInt + nn.toInt ≤ L2
def w_shf (T U : TP) (i j n : Nat) : TP := (U.1, U.2.1, fun q => if j ≤ q ∧ q < j + n then T.2.2 (i + (q - j)) else U.2.2 q)
def w_shift (t : Nat → TP) (tt ii oo jj nn : Int32) : Int32 × Option (Nat × TP) := match x_nat tt 6, x_nat oo 6 with
  | some k, some o => match (t k).1, (t o).1 with
    | some s, some s' => if s = s' then if 0 ≤ nn.toInt ∧ 0 ≤ ii.toInt ∧ 0 ≤ jj.toInt ∧ ii.toInt + nn.toInt ≤ (t k).2.1 ∧ jj.toInt + nn.toInt ≤ (t o).2.1 then (nn, some (o, w_shf (t k) (t o) ii.toInt.toNat jj.toInt.toNat nn.toInt.toNat)) else (-13, none) else (-12, none)
    | _, _ => (-11, none)
  | _, _ => (-1, none)
theorem t_sub {L n : Nat} (hL : L < 2 ^ 30) (hn : n < 2 ^ 31) : (nI L - nI n).toInt = (L : Int) - n := by
  rw [Int32.toInt_sub, nI_toInt (by omega), nI_toInt hn]
  exact Int.bmod_eq_of_le (by omega) (by omega)
theorem t_fit {ii jj nn : Int32} {L L2 : Nat} (h1 : ¬ nn < 0) (h2 : ¬ ii < 0) (h3 : ¬ jj < 0) (hL : L ≤ 60 ∧ L2 ≤ 60) (h4 : ¬ ii > nI L - nn) (h5 : jj ≤ nI L2 - nn) : w_fit ii jj nn L L2 := by
  obtain ⟨n, hn, rfl⟩ := x_pos h1
  obtain ⟨i, hi, rfl⟩ := x_pos h2
  obtain ⟨j, hj, rfl⟩ := x_pos h3
  have e4 := Int32.not_lt.mp h4
  rw [Int32.le_iff_toInt_le, t_sub (by omega) hn, nI_toInt hi] at e4
  rw [Int32.le_iff_toInt_le, t_sub (by omega) hn, nI_toInt hj] at h5
  unfold w_fit
  rw [nI_toInt hn, nI_toInt hi, nI_toInt hj]
  omega
theorem t_fit2 {ii jj nn : Int32} {L L2 : Nat} (hL : L ≤ 60 ∧ L2 ≤ 60) (h : w_fit ii jj nn L L2) : ∃ i j n : Nat, ii = nI i ∧ jj = nI j ∧ nn = nI n ∧ i + n ≤ L ∧ j + n ≤ L2 ∧ ii.toInt.toNat = i ∧ jj.toInt.toNat = j ∧ nn.toInt.toNat = n := by
  obtain ⟨h1, h2, h3, h4, h5⟩ := h
  have z0 : (0 : Int32).toInt = 0 := rfl
  obtain ⟨n, hn, rfl⟩ := x_pos (x := nn) (by rw [Int32.lt_iff_toInt_lt]; omega)
  obtain ⟨i, hi, rfl⟩ := x_pos (x := ii) (by rw [Int32.lt_iff_toInt_lt]; omega)
  obtain ⟨j, hj, rfl⟩ := x_pos (x := jj) (by rw [Int32.lt_iff_toInt_lt]; omega)
  rw [nI_toInt hn, nI_toInt hi] at h4
  rw [nI_toInt hn, nI_toInt hj] at h5
  exact ⟨i, j, n, rfl, rfl, rfl, by omega, by omega, by rw [nI_toInt hi]; rfl, by rw [nI_toInt hj]; rfl, by rw [nI_toInt hn]; rfl⟩
abbrev rm_X12_judge : Room := { frames := 2, cells := 0, slots := 0, locals := 44 }
set_option maxRecDepth 20000 in
theorem c_X12_judge (G : v_G) (l : Launch) {K : Nat × v_TY} {I : Nat → Nat → Int32} {J : Nat → Nat → Int64} {R : Nat → Nat → Option Nat} (hL : Lay K R) {tt ii : Int32} {b : BS} {g : Nat} (h : MV I b g) {tp : Nat → TP} (ht : MTp I J tp) (hv : TV tp) : v_M G l yX12_judge cX12_judge 4 (some .int) rm_X12_judge [.ref 55, .int tt, .int ii] (K, I, J, R) (v_Qi G (fun (x : Int32) (M' : v_MM) => x = s_judge b tp tt ii ∧ M' = (K, I, J, R))) := by
  refine v_of [some (.ref 55), some (.int tt), some (.int ii), none] (by decide) (Nat.le_of_ble_eq_true rfl) (Nat.le_of_ble_eq_true rfl) rfl ?_
  have hn := VBn h
  have h15 := w_pr_lt (b_n b) (by omega)
  refine v_aload_n (pc := 0) dX12_judge_0 rfl rfl ?_
  refine v_iload_n (pc := 1) dX12_judge_1 rfl rfl ?_
  refine v_ci (pc := 2) (v_rV (c_X12_isTape G l hL) rfl kV_X12_353 (v_rcO (li_55 hL) rfl (by decide)) ⟨Nat.le_of_ble_eq_true rfl, Nat.le_of_ble_eq_true rfl⟩ ⟨Nat.le_of_ble_eq_true rfl, Nat.le_of_ble_eq_true rfl⟩ dX12_judge_2 (Nat.le_of_ble_eq_true rfl)) (fun x2 M2 h2 => ?_)
  obtain ⟨rfl, rfl⟩ := h2
  refine v_if_neP (pc := 5) (tgt := 10) dX12_judge_5 (by decide) (fun c5 => ?_) (fun c5 => ?_)
  · obtain ⟨t, htt, et, e1⟩ := x_nat_i c5 (by decide)
    subst et
    have hh := ht t htt
    obtain ⟨hv60, hv5, hv0, -⟩ := hv t htt
    rcases eo : (tp t).1 with - | s <;> rw [eo] at hh hv5 hv0
    · have hl0 := hv0 rfl
      have hst : I 87 t = -1 := hh.1
      refine v_aload_n (pc := 10) dX12_judge_10 rfl rfl ?_
      refine v_getH (pc := 11) fg_X12_184_12 dX12_judge_11 (li_55 hL) (lr_55_57 hL) ?_
      refine v_iload_n (pc := 14) dX12_judge_14 rfl rfl ?_
      refine v_ialoadN (pc := 15) dX12_judge_15 (li_87 hL) ⟨by omega, by omega⟩ hst ?_
      refine v_if_lt (pc := 16) (tgt := 32) dX12_judge_16 (by decide) (fun c16 => ?_) (fun c16 => ?_)
      · refine v_iconst (pc := 32) (v := nI 0) dX12_judge_32 (by decide) ?_
        refine v_istore_n (pc := 33) dX12_judge_33 rfl (by decide) rfl ?_
        refine v_iload_n (pc := 34) dX12_judge_34 rfl rfl ?_
        refine v_aload_n (pc := 35) dX12_judge_35 rfl rfl ?_
        refine v_ci (pc := 36) (v_rV (c_X12_pairs G l hL (MVn h) (by omega)) rfl kV_X12_201 (v_rcO (li_55 hL) rfl (by decide)) ⟨Nat.le_of_ble_eq_true rfl, Nat.le_of_ble_eq_true rfl⟩ ⟨Nat.le_of_ble_eq_true rfl, Nat.le_of_ble_eq_true rfl⟩ dX12_judge_36 (Nat.le_of_ble_eq_true rfl)) (fun x36 M36 h36 => ?_)
        obtain ⟨rfl, rfl⟩ := h36
        refine v_icmp_geN (pc := 39) (tgt := 118) ⟨by omega, by omega⟩ dX12_judge_39 (by decide) (fun c39 => ?_) (fun c39 => ?_)
        · refine v_bipush (pc := 118) (v := -5) dX12_judge_118 (by decide) ?_
          exact v_iret (pc := 120) dX12_judge_120 rfl rfl (Nat.le_of_ble_eq_true rfl) (Nat.le_of_ble_eq_true rfl) ⟨by first | (simp only [s_judge, e1, eo]; rw [show w_pr (b_n b) = 0 by omega]; rfl) | (simp only [s_judge, e1, eo]; rw [w_ff_s (i := 0) (x := nI (100 + 0)) rfl (by rw [w_jd, hl0]; rw [show x_nat ii (0 - 0) = none from x_nat_n (fun q => by have := vp_in_iff.mp q; omega)]) (by omega)]; rfl), rfl⟩
        · refine v_aload_n (pc := 42) dX12_judge_42 rfl rfl ?_
          refine v_getH (pc := 43) fg_X12_184_12 dX12_judge_43 (li_55 hL) (lr_55_57 hL) ?_
          refine v_iload_n (pc := 46) dX12_judge_46 rfl rfl ?_
          refine v_ialoadN (pc := 47) dX12_judge_47 (li_87 hL) ⟨by omega, by omega⟩ hst ?_
          refine v_if_lt (pc := 48) (tgt := 69) dX12_judge_48 (by decide) (fun c48 => ?_) (fun c48 => ?_)
          · refine v_bipush (pc := 69) (v := nI 100) dX12_judge_69 (by decide) ?_
            refine v_iload_n (pc := 71) dX12_judge_71 rfl rfl ?_
            refine v_iaddN (pc := 72) dX12_judge_72 ?_
            exact v_iret (pc := 73) dX12_judge_73 rfl rfl (Nat.le_of_ble_eq_true rfl) (Nat.le_of_ble_eq_true rfl) ⟨by first | (simp only [s_judge, e1, eo]; rw [show w_pr (b_n b) = 0 by omega]; rfl) | (simp only [s_judge, e1, eo]; rw [w_ff_s (i := 0) (x := nI (100 + 0)) rfl (by rw [w_jd, hl0]; rw [show x_nat ii (0 - 0) = none from x_nat_n (fun q => by have := vp_in_iff.mp q; omega)]) (by omega)]; rfl), rfl⟩
          · exact absurd (show (-1 : Int32) < 0 by decide) c48
      · exact absurd (show (-1 : Int32) < 0 by decide) c16
    · have hs5 := hv5 s rfl
      have hs : I 87 t = nI s := hh.1
      refine v_aload_n (pc := 10) dX12_judge_10 rfl rfl ?_
      refine v_getH (pc := 11) fg_X12_184_12 dX12_judge_11 (li_55 hL) (lr_55_57 hL) ?_
      refine v_iload_n (pc := 14) dX12_judge_14 rfl rfl ?_
      refine v_ialoadN (pc := 15) dX12_judge_15 (li_87 hL) ⟨by omega, by omega⟩ hs ?_
      refine v_if_ltN (pc := 16) (tgt := 32) (by omega) dX12_judge_16 (by decide) ?_
      refine v_aload_n (pc := 19) dX12_judge_19 rfl rfl ?_
      refine v_getH (pc := 20) fg_X12_184_12 dX12_judge_20 (li_55 hL) (lr_55_57 hL) ?_
      refine v_iload_n (pc := 23) dX12_judge_23 rfl rfl ?_
      refine v_ialoadN (pc := 24) dX12_judge_24 (li_87 hL) ⟨by omega, by omega⟩ hs ?_
      refine v_iconst (pc := 25) (v := nI 4) dX12_judge_25 (by decide) ?_
      refine v_icmp_eqN (pc := 26) (tgt := 32) ⟨by omega, by omega⟩ dX12_judge_26 (by decide) (fun c26 => ?_) (fun c26 => ?_)
      · refine v_iconst (pc := 32) (v := nI 0) dX12_judge_32 (by decide) ?_
        refine v_istore_n (pc := 33) dX12_judge_33 rfl (by decide) rfl ?_
        refine v_down (w_pr (b_n b)) (P := fun i => w_ff (w_jd b (tp t) ii) i = none → v_V G l yX12_judge cX12_judge 4 (some .int) rm_X12_judge (v_Qi G (fun (x : Int32) (M' : v_MM) => x = s_judge b tp (nI t) ii ∧ M' = (K, I, J, R))) 0 0 34 [some (.ref 55), some (.int (nI t)), some (.int ii), some (.int (nI i))] [] (K, I, J, R)) (fun i hi ih => ?_) 0 (by omega) rfl
        intro hf
        have es : s_judge b tp (nI t) ii = (w_ff (w_jd b (tp t) ii) (w_pr (b_n b))).getD (-5) := by simp only [s_judge, e1, eo]; rw [if_pos c26]
        refine v_iload_n (pc := 34) dX12_judge_34 rfl rfl ?_
        refine v_aload_n (pc := 35) dX12_judge_35 rfl rfl ?_
        refine v_ci (pc := 36) (v_rV (c_X12_pairs G l hL (MVn h) (by omega)) rfl kV_X12_201 (v_rcO (li_55 hL) rfl (by decide)) ⟨Nat.le_of_ble_eq_true rfl, Nat.le_of_ble_eq_true rfl⟩ ⟨Nat.le_of_ble_eq_true rfl, Nat.le_of_ble_eq_true rfl⟩ dX12_judge_36 (Nat.le_of_ble_eq_true rfl)) (fun x36 M36 h36 => ?_)
        obtain ⟨rfl, rfl⟩ := h36
        refine v_icmp_geN (pc := 39) (tgt := 118) ⟨by omega, by omega⟩ dX12_judge_39 (by decide) (fun c39 => ?_) (fun c39 => ?_)
        · refine v_bipush (pc := 118) (v := -5) dX12_judge_118 (by decide) ?_
          exact v_iret (pc := 120) dX12_judge_120 rfl rfl (Nat.le_of_ble_eq_true rfl) (Nat.le_of_ble_eq_true rfl) ⟨by first | (rw [es, w_ff_s hf hjd (by omega)]; rfl) | (rw [es, w_ff_s hf hjd2 (by omega)]; rfl) | (rw [es, show w_pr (b_n b) = i by omega, hf]; rfl), rfl⟩
        · have hg := w_g_in i (by omega)
          have hjd : (w_jd b (tp t) ii) i = match x_nat ii ((tp t).2.1 - i) with | none => some (nI (100 + i)) | some j => if (tp t).2.2 (j + i) = (nI (if (b_m b (w_l i)).testBit (w_g i) = true then 1 else 0)).toInt64 then none else some (nI i) := rfl
          refine v_aload_n (pc := 42) dX12_judge_42 rfl rfl ?_
          refine v_getH (pc := 43) fg_X12_184_12 dX12_judge_43 (li_55 hL) (lr_55_57 hL) ?_
          refine v_iload_n (pc := 46) dX12_judge_46 rfl rfl ?_
          refine v_ialoadN (pc := 47) dX12_judge_47 (li_87 hL) ⟨by omega, by omega⟩ hs ?_
          refine v_if_ltN (pc := 48) (tgt := 69) (by omega) dX12_judge_48 (by decide) ?_
          refine v_iload_n (pc := 51) dX12_judge_51 rfl rfl ?_
          refine v_if_lt (pc := 52) (tgt := 69) dX12_judge_52 (by decide) (fun c52 => ?_) (fun c52 => ?_)
          · have e3 : x_nat ii ((tp t).2.1 - i) = none := if_pos (Or.inl c52)
            rw [e3] at hjd
            refine v_bipush (pc := 69) (v := nI 100) dX12_judge_69 (by decide) ?_
            refine v_iload_n (pc := 71) dX12_judge_71 rfl rfl ?_
            refine v_iaddN (pc := 72) dX12_judge_72 ?_
            exact v_iret (pc := 73) dX12_judge_73 rfl rfl (Nat.le_of_ble_eq_true rfl) (Nat.le_of_ble_eq_true rfl) ⟨by first | (rw [es, w_ff_s hf hjd (by omega)]; rfl) | (rw [es, w_ff_s hf hjd2 (by omega)]; rfl) | (rw [es, show w_pr (b_n b) = i by omega, hf]; rfl), rfl⟩
          · refine v_iload_n (pc := 55) dX12_judge_55 rfl rfl ?_
            refine v_aload_n (pc := 56) dX12_judge_56 rfl rfl ?_
            refine v_getH (pc := 57) fg_X12_187_12 dX12_judge_57 (li_55 hL) (lr_55_58 hL) ?_
            refine v_iload_n (pc := 60) dX12_judge_60 rfl rfl ?_
            refine v_ialoadN (pc := 61) dX12_judge_61 (li_88 hL) ⟨by omega, by omega⟩ hh.2.1 ?_
            refine v_iload_n (pc := 62) dX12_judge_62 rfl rfl ?_
            refine v_isub (pc := 63) dX12_judge_63 ?_
            refine v_iconst (pc := 64) (v := nI 1) dX12_judge_64 (by decide) ?_
            refine v_isub (pc := 65) dX12_judge_65 ?_
            refine v_icmp_le (pc := 66) (tgt := 74) dX12_judge_66 (by decide) (fun c66 => ?_) (fun c66 => ?_)
            · obtain ⟨j, hj, rfl, e3⟩ := x_nat_i ((t_le hv60 (by omega) c52).mp c66) (by omega)
              rw [e3] at hjd
              refine v_aload_n (pc := 74) dX12_judge_74 rfl rfl ?_
              refine v_getH (pc := 75) fg_X12_190_12 dX12_judge_75 (li_55 hL) (lr_55_59 hL) ?_
              refine v_bipush (pc := 78) (v := nI 60) dX12_judge_78 (by decide) ?_
              refine v_iload_n (pc := 80) dX12_judge_80 rfl rfl ?_
              refine v_imulN (pc := 81) dX12_judge_81 ?_
              refine v_iload_n (pc := 82) dX12_judge_82 rfl rfl ?_
              refine v_iaddN (pc := 83) dX12_judge_83 ?_
              refine v_iload_n (pc := 84) dX12_judge_84 rfl rfl ?_
              refine v_iaddN (pc := 85) dX12_judge_85 ?_
              refine v_laloadN (pc := 86) dX12_judge_86 (li_89 hL) ⟨by omega, by omega⟩ (show J 89 (60 * t + j + i) = (tp t).2.2 (j + i) by rw [Nat.add_assoc]; exact hh.2.2 (j + i) (by omega)) ?_
              refine v_aload_n (pc := 87) dX12_judge_87 rfl rfl ?_
              refine v_getH (pc := 88) fg_X12_26_12 dX12_judge_88 (li_55 hL) (lr_55_5 hL) ?_
              refine v_aload_n (pc := 91) dX12_judge_91 rfl rfl ?_
              refine v_iload_n (pc := 92) dX12_judge_92 rfl rfl ?_
              refine v_ci (pc := 93) (v_rV (c_X12_lesserOf G l hL (by omega)) rfl kV_X12_313 (v_rcO (li_55 hL) rfl (by decide)) ⟨Nat.le_of_ble_eq_true rfl, Nat.le_of_ble_eq_true rfl⟩ ⟨Nat.le_of_ble_eq_true rfl, Nat.le_of_ble_eq_true rfl⟩ dX12_judge_93 (Nat.le_of_ble_eq_true rfl)) (fun x93 M93 h93 => ?_)
              obtain ⟨rfl, rfl⟩ := h93
              refine v_ialoadN (pc := 96) dX12_judge_96 (li_58 hL) ⟨by omega, by omega⟩ (MVm h (by omega)) ?_
              refine v_aload_n (pc := 97) dX12_judge_97 rfl rfl ?_
              refine v_iload_n (pc := 98) dX12_judge_98 rfl rfl ?_
              refine v_ci (pc := 99) (v_rV (c_X12_greaterOf G l hL (by omega)) rfl kV_X12_205 (v_rcO (li_55 hL) rfl (by decide)) ⟨Nat.le_of_ble_eq_true rfl, Nat.le_of_ble_eq_true rfl⟩ ⟨Nat.le_of_ble_eq_true rfl, Nat.le_of_ble_eq_true rfl⟩ dX12_judge_99 (Nat.le_of_ble_eq_true rfl)) (fun x99 M99 h99 => ?_)
              obtain ⟨rfl, rfl⟩ := h99
              refine v_ishr (pc := 102) dX12_judge_102 ?_
              refine v_iconst (pc := 103) (v := nI 1) dX12_judge_103 (by decide) ?_
              refine v_iand (pc := 104) dX12_judge_104 ?_
              refine v_top (v_hasV (by omega)) ?_
              refine v_i2l (pc := 105) dX12_judge_105 ?_
              refine v_lcmp (pc := 106) dX12_judge_106 ?_
              refine v_if_eq (pc := 107) (tgt := 112) dX12_judge_107 (by decide) (fun c107 => ?_) (fun c107 => ?_)
              · rw [w_bt (by omega)] at c107
                have hjd2 : (w_jd b (tp t) (nI j)) i = none := hjd.trans (if_pos (x_cmp0.mp c107))
                refine v_iincN (pc := 112) (b := 1) dX12_judge_112 rfl (by decide) (by decide) rfl ?_
                refine v_goto (pc := 115) (tgt := 34) dX12_judge_115 (by decide) ?_
                exact ih (i + 1) (by omega) (by omega) (w_ff_n hf hjd2)
              · rw [w_bt (by omega)] at c107
                have hjd2 : (w_jd b (tp t) (nI j)) i = some (nI i) := hjd.trans (if_neg (fun q => c107 (x_cmp0.mpr q)))
                refine v_iload_n (pc := 110) dX12_judge_110 rfl rfl ?_
                exact v_iret (pc := 111) dX12_judge_111 rfl rfl (Nat.le_of_ble_eq_true rfl) (Nat.le_of_ble_eq_true rfl) ⟨by first | (rw [es, w_ff_s hf hjd (by omega)]; rfl) | (rw [es, w_ff_s hf hjd2 (by omega)]; rfl) | (rw [es, show w_pr (b_n b) = i by omega, hf]; rfl), rfl⟩
            · have e3 : x_nat ii ((tp t).2.1 - i) = none := x_nat_n (fun q => c66 ((t_le hv60 (by omega) c52).mpr q))
              rw [e3] at hjd
              refine v_bipush (pc := 69) (v := nI 100) dX12_judge_69 (by decide) ?_
              refine v_iload_n (pc := 71) dX12_judge_71 rfl rfl ?_
              refine v_iaddN (pc := 72) dX12_judge_72 ?_
              exact v_iret (pc := 73) dX12_judge_73 rfl rfl (Nat.le_of_ble_eq_true rfl) (Nat.le_of_ble_eq_true rfl) ⟨by first | (rw [es, w_ff_s hf hjd (by omega)]; rfl) | (rw [es, w_ff_s hf hjd2 (by omega)]; rfl) | (rw [es, show w_pr (b_n b) = i by omega, hf]; rfl), rfl⟩
      · refine v_bipush (pc := 29) (v := -12) dX12_judge_29 (by decide) ?_
        exact v_iret (pc := 31) dX12_judge_31 rfl rfl (Nat.le_of_ble_eq_true rfl) (Nat.le_of_ble_eq_true rfl) ⟨by simp only [s_judge, e1, eo]; rw [if_neg c26], rfl⟩
  · have e1 := x_nat_n c5
    refine v_iconst (pc := 8) (v := -1) dX12_judge_8 (by decide) ?_
    exact v_iret (pc := 9) dX12_judge_9 rfl rfl (Nat.le_of_ble_eq_true rfl) (Nat.le_of_ble_eq_true rfl) ⟨by simp only [s_judge, e1], rfl⟩
