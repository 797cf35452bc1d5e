/-! THE REFERENCE: judge, shift -/
def w_jd (b : BS) (T : TP) (ii : Int32) (k : Nat) : Option Int32 := match x_nat ii (T.2.1 - k) with
  | none => some (nI (100 + k))
  | some j => if T.2.2 (j + k) = (nI (if (b_m b (w_l k)).testBit (w_g k) = true then 1 else 0)).toInt64 then none else some (nI k)
def s_judge (b : BS) (t : Nat → TP) (tt ii : Int32) : Int32 := match x_nat tt 6 with
  | none => -1
  | some k => match (t k).1 with
    | none => (w_ff (w_jd b (t k) ii) (w_pr (b_n b))).getD (-5)
    | some s => if s = 4 then (w_ff (w_jd b (t k) ii) (w_pr (b_n b))).getD (-5) else -12
theorem t_sub1 : ∀ L, L < 61 → ∀ i, i < 15 → (nI L - nI i - nI 1).toInt = (L : Int) - (i : Int) - 1 := by decide +kernel
theorem t_le {ii : Int32} {L i : Nat} (hL : L ≤ 60) (hi : i < 15) (h : ¬ ii < 0) : ii ≤ nI L - nI i - nI 1 ↔ vp_in ii (L - i) := by
  rw [Int32.le_iff_toInt_le, t_sub1 L (by omega) i hi, vp_in_iff]
  rw [Int32.lt_iff_toInt_lt] at h
  have h0 : (0 : Int32).toInt = 0 := rfl
  constructor
  · intro q; omega
  · intro q; omega
/-- where a stretch fits -/
def w_fit (ii jj nn : Int32) (L L2 : Nat) : Prop := 0 ≤ nn.toInt ∧ 0 ≤ ii.toInt ∧ 0 ≤ jj.toInt ∧ ii.toInt + nn.toInt ≤ L ∧ jj.toInt + nn.toInt ≤ L2
def w_shf (T U : TP) (i j n : Nat) : TP := (U.1, U.2.1, fun q => if j ≤ q ∧ q < j + n then T.2.2 (i + (q - j)) else U.2.2 q)
def w_shift (t : Nat → TP) (tt ii oo jj nn : Int32) : Int32 × Option (Nat × TP) := match x_nat tt 6, x_nat oo 6 with
  | some k, some o => match (t k).1, (t o).1 with
    | some s, some s' => if s = s' then if 0 ≤ nn.toInt ∧ 0 ≤ ii.toInt ∧ 0 ≤ jj.toInt ∧ ii.toInt + nn.toInt ≤ (t k).2.1 ∧ jj.toInt + nn.toInt ≤ (t o).2.1 then (nn, some (o, w_shf (t k) (t o) ii.toInt.toNat jj.toInt.toNat nn.toInt.toNat)) else (-13, none) else (-12, none)
    | _, _ => (-11, none)
  | _, _ => (-1, none)
theorem t_sub {L n : Nat} (hL : L < 2 ^ 30) (hn : n < 2 ^ 31) : (nI L - nI n).toInt = (L : Int) - n := by
  rw [Int32.toInt_sub, nI_toInt (by omega), nI_toInt hn]
  exact Int.bmod_eq_of_le (by omega) (by omega)
theorem t_fit {ii jj nn : Int32} {L L2 : Nat} (h1 : ¬ nn < 0) (h2 : ¬ ii < 0) (h3 : ¬ jj < 0) (hL : L ≤ 60 ∧ L2 ≤ 60) (h4 : ¬ ii > nI L - nn) (h5 : jj ≤ nI L2 - nn) : w_fit ii jj nn L L2 := by
  obtain ⟨n, hn, rfl⟩ := x_pos h1
  obtain ⟨i, hi, rfl⟩ := x_pos h2
  obtain ⟨j, hj, rfl⟩ := x_pos h3
  have e4 := Int32.not_lt.mp h4
  rw [Int32.le_iff_toInt_le, t_sub (by omega) hn, nI_toInt hi] at e4
  rw [Int32.le_iff_toInt_le, t_sub (by omega) hn, nI_toInt hj] at h5
  unfold w_fit
  rw [nI_toInt hn, nI_toInt hi, nI_toInt hj]
  omega
theorem t_fit2 {ii jj nn : Int32} {L L2 : Nat} (hL : L ≤ 60 ∧ L2 ≤ 60) (h : w_fit ii jj nn L L2) : ∃ i j n : Nat, ii = nI i ∧ jj = nI j ∧ nn = nI n ∧ i + n ≤ L ∧ j + n ≤ L2 ∧ ii.toInt.toNat = i ∧ jj.toInt.toNat = j ∧ nn.toInt.toNat = n := by
  obtain ⟨h1, h2, h3, h4, h5⟩ := h
  have z0 : (0 : Int32).toInt = 0 := rfl
  obtain ⟨n, hn, rfl⟩ := x_pos (x := nn) (by rw [Int32.lt_iff_toInt_lt]; omega)
  obtain ⟨i, hi, rfl⟩ := x_pos (x := ii) (by rw [Int32.lt_iff_toInt_lt]; omega)
  obtain ⟨j, hj, rfl⟩ := x_pos (x := jj) (by rw [Int32.lt_iff_toInt_lt]; omega)
  rw [nI_toInt hn, nI_toInt hi] at h4
  rw [nI_toInt hn, nI_toInt hj] at h5
  exact ⟨i, j, n, rfl, rfl, rfl, by omega, by omega, by rw [nI_toInt hi]; rfl, by rw [nI_toInt hj]; rfl, by rw [nI_toInt hn]; rfl⟩
abbrev rm_X12_judge : Room := { frames := 2, cells := 0, slots := 0, locals := 44 }
set_option maxRecDepth 20000 in
theorem c_X12_judge (G : v_G) (l : Launch) {K : Nat × v_TY} {I : Nat → Nat → Int32} {J : Nat → Nat → Int64} {R : Nat → Nat → Option Nat} (hL : Lay K R) {tt ii : Int32} {b : BS} {g : Nat} (h : MV I b g) {tp : Nat → TP} (ht : MTp I J tp) (hv : TV tp) : v_M G l yX12_judge cX12_judge 4 (some .int) rm_X12_judge [.ref 55, .int tt, .int ii] (K, I, J, R) (v_Qi G (fun (x : Int32) (M' : v_MM) => x = s_judge b tp tt ii ∧ M' = (K, I, J, R))) := by
  refine v_of [some (.ref 55), some (.int tt), some (.int ii), none] (by decide) (Nat.le_of_ble_eq_true rfl) (Nat.le_of_ble_eq_true rfl) rfl ?_
  have hn := VBn h
  have h15 := w_pr_lt (b_n b) (by omega)
  refine v_aload_n (pc := 0) dX12_judge_0 rfl rfl ?_
  refine v_iload_n (pc := 1) dX12_judge_1 rfl rfl ?_
  refine v_ci (pc := 2) (v_rV (c_X12_isTape G l hL) rfl kV_X12_353 (v_rcO (li_55 hL) rfl (by decide)) ⟨Nat.le_of_ble_eq_true rfl, Nat.le_of_ble_eq_true rfl⟩ ⟨Nat.le_of_ble_eq_true rfl, Nat.le_of_ble_eq_true rfl⟩ dX12_judge_2 (Nat.le_of_ble_eq_true rfl)) (fun x2 M2 h2 => ?_)
  obtain ⟨rfl, rfl⟩ := h2
  refine v_if_neP (pc := 5) (tgt := 10) dX12_judge_5 (by decide) (fun c5 => ?_) (fun c5 => ?_)
  · obtain ⟨t, htt, et, e1⟩ := x_nat_i c5 (by decide)
    subst et
    have hh := ht t htt
    obtain ⟨hv60, hv5, hv0, -⟩ := hv t htt
    rcases eo : (tp t).1 with - | s <;> rw [eo] at hh hv5 hv0
    · have hl0 := hv0 rfl
      have hst : I 87 t = -1 := hh.1
      refine v_aload_n (pc := 10) dX12_judge_10 rfl rfl ?_
      refine v_getH (pc := 11) fg_X12_184_12 dX12_judge_11 (li_55 hL) (lr_55_57 hL) ?_
      refine v_iload_n (pc := 14) dX12_judge_14 rfl rfl ?_
      refine v_ialoadN (pc := 15) dX12_judge_15 (li_87 hL) ⟨by omega, by omega⟩ hst ?_
      refine v_if_lt (pc := 16) (tgt := 32) dX12_judge_16 (by decide) (fun c16 => ?_) (fun c16 => ?_)
      · refine v_iconst (pc := 32) (v := nI 0) dX12_judge_32 (by decide) ?_
        refine v_istore_n (pc := 33) dX12_judge_33 rfl (by decide) rfl ?_
        refine v_iload_n (pc := 34) dX12_judge_34 rfl rfl ?_
        refine v_aload_n (pc := 35) dX12_judge_35 rfl rfl ?_
        refine v_ci (pc := 36) (v_rV (c_X12_pairs G l hL (MVn h) (by omega)) rfl kV_X12_201 (v_rcO (li_55 hL) rfl (by decide)) ⟨Nat.le_of_ble_eq_true rfl, Nat.le_of_ble_eq_true rfl⟩ ⟨Nat.le_of_ble_eq_true rfl, Nat.le_of_ble_eq_true rfl⟩ dX12_judge_36 (Nat.le_of_ble_eq_true rfl)) (fun x36 M36 h36 => ?_)
        obtain ⟨rfl, rfl⟩ := h36
        refine v_icmp_geN (pc := 39) (tgt := 118) ⟨by omega, by omega⟩ dX12_judge_39 (by decide) (fun c39 => ?_) (fun c39 => ?_)
        · refine v_bipush (pc := 118) (v := -5) dX12_judge_118 (by decide) ?_
          exact v_iret (pc := 120) dX12_judge_120 rfl rfl (Nat.le_of_ble_eq_true rfl) (Nat.le_of_ble_eq_true rfl) ⟨by first | (simp only [s_judge, e1, eo]; rw [show w_pr (b_n b) = 0 by omega]; rfl) | (simp only [s_judge, e1, eo]; rw [w_ff_s (i := 0) (x := nI (100 + 0)) rfl (by rw [w_jd, hl0]; rw [show x_nat ii (0 - 0) = none from x_nat_n (fun q => by have := vp_in_iff.mp q; omega)]) (by omega)]; rfl), rfl⟩
        · refine v_aload_n (pc := 42) dX12_judge_42 rfl rfl ?_
          refine v_getH (pc := 43) fg_X12_184_12 dX12_judge_43 (li_55 hL) (lr_55_57 hL) ?_
          refine v_iload_n (pc := 46) dX12_judge_46 rfl rfl ?_
          refine v_ialoadN (pc := 47) dX12_judge_47 (li_87 hL) ⟨by omega, by omega⟩ hst ?_
          refine v_if_lt (pc := 48) (tgt := 69) dX12_judge_48 (by decide) (fun c48 => ?_) (fun c48 => ?_)
          · refine v_bipush (pc := 69) (v := nI 100) dX12_judge_69 (by decide) ?_
            refine v_iload_n (pc := 71) dX12_judge_71 rfl rfl ?_
            refine v_iaddN (pc := 72) dX12_judge_72 ?_
            exact v_iret (pc := 73) dX12_judge_73 rfl rfl (Nat.le_of_ble_eq_true rfl) (Nat.le_of_ble_eq_true rfl) ⟨by first | (simp only [s_judge, e1, eo]; rw [show w_pr (b_n b) = 0 by omega]; rfl) | (simp only [s_judge, e1, eo]; rw [w_ff_s (i := 0) (x := nI (100 + 0)) rfl (by rw [w_jd, hl0]; rw [show x_nat ii (0 - 0) = none from x_nat_n (fun q => by have := vp_in_iff.mp q; omega)]) (by omega)]; rfl), rfl⟩
          · exact absurd (show (-1 : Int32) < 0 by decide) c48
      · exact absurd (show (-1 : Int32) < 0 by decide) c16
    · have hs5 := hv5 s rfl
      have hs : I 87 t = nI s := hh.1
      refine v_aload_n (pc := 10) dX12_judge_10 rfl rfl ?_
      refine v_getH (pc := 11) fg_X12_184_12 dX12_judge_11 (li_55 hL) (lr_55_57 hL) ?_
      refine v_iload_n (pc := 14) dX12_judge_14 rfl rfl ?_
      refine v_ialoadN (pc := 15) dX12_judge_15 (li_87 hL) ⟨by omega, by omega⟩ hs ?_
      refine v_if_ltN (pc := 16) (tgt := 32) (by omega) dX12_judge_16 (by decide) ?_
      refine v_aload_n (pc := 19) dX12_judge_19 rfl rfl ?_
      refine v_getH (pc := 20) fg_X12_184_12 dX12_judge_20 (li_55 hL) (lr_55_57 hL) ?_
      refine v_iload_n (pc := 23) dX12_judge_23 rfl rfl ?_
      refine v_ialoadN (pc := 24) dX12_judge_24 (li_87 hL) ⟨by omega, by omega⟩ hs ?_
      refine v_iconst (pc := 25) (v := nI 4) dX12_judge_25 (by decide) ?_
      refine v_icmp_eqN (pc := 26) (tgt := 32) ⟨by omega, by omega⟩ dX12_judge_26 (by decide) (fun c26 => ?_) (fun c26 => ?_)
      · refine v_iconst (pc := 32) (v := nI 0) dX12_judge_32 (by decide) ?_
        refine v_istore_n (pc := 33) dX12_judge_33 rfl (by decide) rfl ?_
        refine v_down (w_pr (b_n b)) (P := fun i => w_ff (w_jd b (tp t) ii) i = none → v_V G l yX12_judge cX12_judge 4 (some .int) rm_X12_judge (v_Qi G (fun (x : Int32) (M' : v_MM) => x = s_judge b tp (nI t) ii ∧ M' = (K, I, J, R))) 0 0 34 [some (.ref 55), some (.int (nI t)), some (.int ii), some (.int (nI i))] [] (K, I, J, R)) (fun i hi ih => ?_) 0 (by omega) rfl
        intro hf
        have es : s_judge b tp (nI t) ii = (w_ff (w_jd b (tp t) ii) (w_pr (b_n b))).getD (-5) := by simp only [s_judge, e1, eo]; rw [if_pos c26]
        refine v_iload_n (pc := 34) dX12_judge_34 rfl rfl ?_
        refine v_aload_n (pc := 35) dX12_judge_35 rfl rfl ?_
        refine v_ci (pc := 36) (v_rV (c_X12_pairs G l hL (MVn h) (by omega)) rfl kV_X12_201 (v_rcO (li_55 hL) rfl (by decide)) ⟨Nat.le_of_ble_eq_true rfl, Nat.le_of_ble_eq_true rfl⟩ ⟨Nat.le_of_ble_eq_true rfl, Nat.le_of_ble_eq_true rfl⟩ dX12_judge_36 (Nat.le_of_ble_eq_true rfl)) (fun x36 M36 h36 => ?_)
        obtain ⟨rfl, rfl⟩ := h36
        refine v_icmp_geN (pc := 39) (tgt := 118) ⟨by omega, by omega⟩ dX12_judge_39 (by decide) (fun c39 => ?_) (fun c39 => ?_)
        · refine v_bipush (pc := 118) (v := -5) dX12_judge_118 (by decide) ?_
          exact v_iret (pc := 120) dX12_judge_120 rfl rfl (Nat.le_of_ble_eq_true rfl) (Nat.le_of_ble_eq_true rfl) ⟨by first | (rw [es, w_ff_s hf hjd (by omega)]; rfl) | (rw [es, w_ff_s hf hjd2 (by omega)]; rfl) | (rw [es, show w_pr (b_n b) = i by omega, hf]; rfl), rfl⟩
        · have hg := w_g_in i (by omega)
          have hjd : (w_jd b (tp t) ii) i = match x_nat ii ((tp t).2.1 - i) with | none => some (nI (100 + i)) | some j => if (tp t).2.2 (j + i) = (nI (if (b_m b (w_l i)).testBit (w_g i) = true then 1 else 0)).toInt64 then none else some (nI i) := rfl
          refine v_aload_n (pc := 42) dX12_judge_42 rfl rfl ?_
          refine v_getH (pc := 43) fg_X12_184_12 dX12_judge_43 (li_55 hL) (lr_55_57 hL) ?_
          refine v_iload_n (pc := 46) dX12_judge_46 rfl rfl ?_
          refine v_ialoadN (pc := 47) dX12_judge_47 (li_87 hL) ⟨by omega, by omega⟩ hs ?_
          refine v_if_ltN (pc := 48) (tgt := 69) (by omega) dX12_judge_48 (by decide) ?_
          refine v_iload_n (pc := 51) dX12_judge_51 rfl rfl ?_
          refine v_if_lt (pc := 52) (tgt := 69) dX12_judge_52 (by decide) (fun c52 => ?_) (fun c52 => ?_)
          · have e3 : x_nat ii ((tp t).2.1 - i) = none := if_pos (Or.inl c52)
            rw [e3] at hjd
            refine v_bipush (pc := 69) (v := nI 100) dX12_judge_69 (by decide) ?_
            refine v_iload_n (pc := 71) dX12_judge_71 rfl rfl ?_
            refine v_iaddN (pc := 72) dX12_judge_72 ?_
            exact v_iret (pc := 73) dX12_judge_73 rfl rfl (Nat.le_of_ble_eq_true rfl) (Nat.le_of_ble_eq_true rfl) ⟨by first | (rw [es, w_ff_s hf hjd (by omega)]; rfl) | (rw [es, w_ff_s hf hjd2 (by omega)]; rfl) | (rw [es, show w_pr (b_n b) = i by omega, hf]; rfl), rfl⟩
          · refine v_iload_n (pc := 55) dX12_judge_55 rfl rfl ?_
            refine v_aload_n (pc := 56) dX12_judge_56 rfl rfl ?_
            refine v_getH (pc := 57) fg_X12_187_12 dX12_judge_57 (li_55 hL) (lr_55_58 hL) ?_
            refine v_iload_n (pc := 60) dX12_judge_60 rfl rfl ?_
            refine v_ialoadN (pc := 61) dX12_judge_61 (li_88 hL) ⟨by omega, by omega⟩ hh.2.1 ?_
            refine v_iload_n (pc := 62) dX12_judge_62 rfl rfl ?_
            refine v_isub (pc := 63) dX12_judge_63 ?_
            refine v_iconst (pc := 64) (v := nI 1) dX12_judge_64 (by decide) ?_
            refine v_isub (pc := 65) dX12_judge_65 ?_
            refine v_icmp_le (pc := 66) (tgt := 74) dX12_judge_66 (by decide) (fun c66 => ?_) (fun c66 => ?_)
            · obtain ⟨j, hj, rfl, e3⟩ := x_nat_i ((t_le hv60 (by omega) c52).mp c66) (by omega)
              rw [e3] at hjd
              refine v_aload_n (pc := 74) dX12_judge_74 rfl rfl ?_
              refine v_getH (pc := 75) fg_X12_190_12 dX12_judge_75 (li_55 hL) (lr_55_59 hL) ?_
              refine v_bipush (pc := 78) (v := nI 60) dX12_judge_78 (by decide) ?_
              refine v_iload_n (pc := 80) dX12_judge_80 rfl rfl ?_
              refine v_imulN (pc := 81) dX12_judge_81 ?_
              refine v_iload_n (pc := 82) dX12_judge_82 rfl rfl ?_
              refine v_iaddN (pc := 83) dX12_judge_83 ?_
              refine v_iload_n (pc := 84) dX12_judge_84 rfl rfl ?_
              refine v_iaddN (pc := 85) dX12_judge_85 ?_
              refine v_laloadN (pc := 86) dX12_judge_86 (li_89 hL) ⟨by omega, by omega⟩ (show J 89 (60 * t + j + i) = (tp t).2.2 (j + i) by rw [Nat.add_assoc]; exact hh.2.2 (j + i) (by omega)) ?_
              refine v_aload_n (pc := 87) dX12_judge_87 rfl rfl ?_
              refine v_getH (pc := 88) fg_X12_26_12 dX12_judge_88 (li_55 hL) (lr_55_5 hL) ?_
              refine v_aload_n (pc := 91) dX12_judge_91 rfl rfl ?_
              refine v_iload_n (pc := 92) dX12_judge_92 rfl rfl ?_
              refine v_ci (pc := 93) (v_rV (c_X12_lesserOf G l hL (by omega)) rfl kV_X12_313 (v_rcO (li_55 hL) rfl (by decide)) ⟨Nat.le_of_ble_eq_true rfl, Nat.le_of_ble_eq_true rfl⟩ ⟨Nat.le_of_ble_eq_true rfl, Nat.le_of_ble_eq_true rfl⟩ dX12_judge_93 (Nat.le_of_ble_eq_true rfl)) (fun x93 M93 h93 => ?_)
              obtain ⟨rfl, rfl⟩ := h93
              refine v_ialoadN (pc := 96) dX12_judge_96 (li_58 hL) ⟨by omega, by omega⟩ (MVm h (by omega)) ?_
              refine v_aload_n (pc := 97) dX12_judge_97 rfl rfl ?_
              refine v_iload_n (pc := 98) dX12_judge_98 rfl rfl ?_
              refine v_ci (pc := 99) (v_rV (c_X12_greaterOf G l hL (by omega)) rfl kV_X12_205 (v_rcO (li_55 hL) rfl (by decide)) ⟨Nat.le_of_ble_eq_true rfl, Nat.le_of_ble_eq_true rfl⟩ ⟨Nat.le_of_ble_eq_true rfl, Nat.le_of_ble_eq_true rfl⟩ dX12_judge_99 (Nat.le_of_ble_eq_true rfl)) (fun x99 M99 h99 => ?_)
              obtain ⟨rfl, rfl⟩ := h99
              refine v_ishr (pc := 102) dX12_judge_102 ?_
              refine v_iconst (pc := 103) (v := nI 1) dX12_judge_103 (by decide) ?_
              refine v_iand (pc := 104) dX12_judge_104 ?_
              refine v_top (v_hasV (by omega)) ?_
              refine v_i2l (pc := 105) dX12_judge_105 ?_
              refine v_lcmp (pc := 106) dX12_judge_106 ?_
              refine v_if_eq (pc := 107) (tgt := 112) dX12_judge_107 (by decide) (fun c107 => ?_) (fun c107 => ?_)
              · rw [w_bt (by omega)] at c107
                have hjd2 : (w_jd b (tp t) (nI j)) i = none := hjd.trans (if_pos (x_cmp0.mp c107))
                refine v_iincN (pc := 112) (b := 1) dX12_judge_112 rfl (by decide) (by decide) rfl ?_
                refine v_goto (pc := 115) (tgt := 34) dX12_judge_115 (by decide) ?_
                exact ih (i + 1) (by omega) (by omega) (w_ff_n hf hjd2)
              · rw [w_bt (by omega)] at c107
                have hjd2 : (w_jd b (tp t) (nI j)) i = some (nI i) := hjd.trans (if_neg (fun q => c107 (x_cmp0.mpr q)))
                refine v_iload_n (pc := 110) dX12_judge_110 rfl rfl ?_
                exact v_iret (pc := 111) dX12_judge_111 rfl rfl (Nat.le_of_ble_eq_true rfl) (Nat.le_of_ble_eq_true rfl) ⟨by first | (rw [es, w_ff_s hf hjd (by omega)]; rfl) | (rw [es, w_ff_s hf hjd2 (by omega)]; rfl) | (rw [es, show w_pr (b_n b) = i by omega, hf]; rfl), rfl⟩
            · have e3 : x_nat ii ((tp t).2.1 - i) = none := x_nat_n (fun q => c66 ((t_le hv60 (by omega) c52).mpr q))
              rw [e3] at hjd
              refine v_bipush (pc := 69) (v := nI 100) dX12_judge_69 (by decide) ?_
              refine v_iload_n (pc := 71) dX12_judge_71 rfl rfl ?_
              refine v_iaddN (pc := 72) dX12_judge_72 ?_
              exact v_iret (pc := 73) dX12_judge_73 rfl rfl (Nat.le_of_ble_eq_true rfl) (Nat.le_of_ble_eq_true rfl) ⟨by first | (rw [es, w_ff_s hf hjd (by omega)]; rfl) | (rw [es, w_ff_s hf hjd2 (by omega)]; rfl) | (rw [es, show w_pr (b_n b) = i by omega, hf]; rfl), rfl⟩
      · refine v_bipush (pc := 29) (v := -12) dX12_judge_29 (by decide) ?_
        exact v_iret (pc := 31) dX12_judge_31 rfl rfl (Nat.le_of_ble_eq_true rfl) (Nat.le_of_ble_eq_true rfl) ⟨by simp only [s_judge, e1, eo]; rw [if_neg c26], rfl⟩
  · have e1 := x_nat_n c5
    refine v_iconst (pc := 8) (v := -1) dX12_judge_8 (by decide) ?_
    exact v_iret (pc := 9) dX12_judge_9 rfl rfl (Nat.le_of_ble_eq_true rfl) (Nat.le_of_ble_eq_true rfl) ⟨by simp only [s_judge, e1], rfl⟩
theorem MTp_shf {I : Nat → Nat → Int32} {J : Nat → Nat → Int64} {tp : Nat → TP} (h : MTp I J tp) {t o i j n : Nat} (ht : t < 6) (ho : o < 6) (h1 : i + n ≤ (tp t).2.1) (h2 : j + n ≤ (tp o).2.1) (h3 : (tp t).2.1 ≤ 60) (h4 : (tp o).2.1 ≤ 60) :
    MTp I (fun a z => if a = 89 ∧ 60 * o + j ≤ z ∧ z < 60 * o + j + n then (tp t).2.2 (i + (z - (60 * o + j))) else (fun a z => if a = 90 ∧ z < n then (tp t).2.2 (i + z) else J a z) a z) (w_put tp (some (o, w_shf (tp t) (tp o) i j n))) := by
  intro k hk
  by_cases e : k = o
  · subst e
    have e1 : w_put tp (some (k, w_shf (tp t) (tp k) i j n)) k = w_shf (tp t) (tp k) i j n := if_pos rfl
    rw [e1]
    refine ⟨(h k hk).1, (h k hk).2.1, fun q hq => ?_⟩
    show (if 89 = 89 ∧ 60 * k + j ≤ 60 * k + q ∧ 60 * k + q < 60 * k + j + n then (tp t).2.2 (i + (60 * k + q - (60 * k + j))) else if 89 = 90 ∧ 60 * k + q < n then (tp t).2.2 (i + (60 * k + q)) else J 89 (60 * k + q)) = if j ≤ q ∧ q < j + n then (tp t).2.2 (i + (q - j)) else (tp k).2.2 q
    by_cases c : j ≤ q ∧ q < j + n
    · rw [if_pos c, if_pos ⟨rfl, by omega, by omega⟩, show 60 * k + q - (60 * k + j) = q - j by omega]
    · rw [if_neg c, if_neg (fun z => c ⟨by omega, by omega⟩), if_neg (fun z => absurd z.1 (by decide))]
      exact (h k hk).2.2 q hq
  · have e1 : w_put tp (some (o, w_shf (tp t) (tp o) i j n)) k = tp k := if_neg e
    rw [e1]
    exact ⟨(h k hk).1, (h k hk).2.1, fun q hq => (if_neg (fun z => by omega)).trans ((if_neg (fun z => absurd z.1 (by decide))).trans ((h k hk).2.2 q hq))⟩
abbrev rm_X12_shift : Room := { frames := 2, cells := 0, slots := 0, locals := 44 }
set_option maxRecDepth 20000 in
theorem c_X12_shift (G : v_G) (l : Launch) {K : Nat × v_TY} {I : Nat → Nat → Int32} {J : Nat → Nat → Int64} {R : Nat → Nat → Option Nat} (hL : Lay K R) {tt ii oo jj nn : Int32} {tp : Nat → TP} (ht : MTp I J tp) (hv : TV tp) : v_M G l yX12_shift cX12_shift 7 (some .int) rm_X12_shift [.ref 55, .int tt, .int ii, .int oo, .int jj, .int nn] (K, I, J, R) (v_Qi G (fun (x : Int32) (M' : v_MM) => x = (w_shift tp tt ii oo jj nn).1 ∧ ∃ I' J', M' = (K, I', J', R) ∧ MTp I' J' (w_put tp (w_shift tp tt ii oo jj nn).2) ∧ mT I J I' J')) := by
  refine v_of [some (.ref 55), some (.int tt), some (.int ii), some (.int oo), some (.int jj), some (.int nn), none] (by decide) (Nat.le_of_ble_eq_true rfl) (Nat.le_of_ble_eq_true rfl) rfl ?_
  refine v_aload_n (pc := 0) dX12_shift_0 rfl rfl ?_
  refine v_iload_n (pc := 1) dX12_shift_1 rfl rfl ?_
  refine v_ci (pc := 2) (v_rV (c_X12_isTape G l hL) rfl kV_X12_353 (v_rcO (li_55 hL) rfl (by decide)) ⟨Nat.le_of_ble_eq_true rfl, Nat.le_of_ble_eq_true rfl⟩ ⟨Nat.le_of_ble_eq_true rfl, Nat.le_of_ble_eq_true rfl⟩ dX12_shift_2 (Nat.le_of_ble_eq_true rfl)) (fun x2 M2 h2 => ?_)
  obtain ⟨rfl, rfl⟩ := h2
  refine v_if_eqP (pc := 5) (tgt := 16) dX12_shift_5 (by decide) (fun c5 => ?_) (fun c5 => ?_)
  · have e1 := x_nat_n c5
    refine v_iconst (pc := 16) (v := -1) dX12_shift_16 (by decide) ?_
    exact v_iret (pc := 17) dX12_shift_17 rfl rfl (Nat.le_of_ble_eq_true rfl) (Nat.le_of_ble_eq_true rfl) (by first | exact ⟨by simp only [w_shift, e1], I, J, rfl, by simp only [w_shift, e1]; exact ht, mT_rf⟩ | exact ⟨by simp only [w_shift, e1, e2], I, J, rfl, by simp only [w_shift, e1, e2]; exact ht, mT_rf⟩)
  · obtain ⟨t, htt, et, e1⟩ := x_nat_i c5 (by decide)
    refine v_aload_n (pc := 8) dX12_shift_8 rfl rfl ?_
    refine v_iload_n (pc := 9) dX12_shift_9 rfl rfl ?_
    refine v_ci (pc := 10) (v_rV (c_X12_isTape G l hL) rfl kV_X12_353 (v_rcO (li_55 hL) rfl (by decide)) ⟨Nat.le_of_ble_eq_true rfl, Nat.le_of_ble_eq_true rfl⟩ ⟨Nat.le_of_ble_eq_true rfl, Nat.le_of_ble_eq_true rfl⟩ dX12_shift_10 (Nat.le_of_ble_eq_true rfl)) (fun x10 M10 h10 => ?_)
    obtain ⟨rfl, rfl⟩ := h10
    refine v_if_neP (pc := 13) (tgt := 18) dX12_shift_13 (by decide) (fun c13 => ?_) (fun c13 => ?_)
    · obtain ⟨o, hoo, eo, e2⟩ := x_nat_i c13 (by decide)
      subst et; subst eo
      have hh := ht t htt
      have ho := ht o hoo
      obtain ⟨hv60, hv5, hv0, -⟩ := hv t htt
      obtain ⟨hw60, hw5, hw0, -⟩ := hv o hoo
      rcases eA : (tp t).1 with - | s <;> rw [eA] at hh hv5
      · have hst : I 87 t = -1 := hh.1
        refine v_aload_n (pc := 18) dX12_shift_18 rfl rfl ?_
        refine v_getH (pc := 19) fg_X12_184_12 dX12_shift_19 (li_55 hL) (lr_55_57 hL) ?_
        refine v_iload_n (pc := 22) dX12_shift_22 rfl rfl ?_
        refine v_ialoadN (pc := 23) dX12_shift_23 (li_87 hL) ⟨by omega, by omega⟩ hst ?_
        refine v_if_lt (pc := 24) (tgt := 36) dX12_shift_24 (by decide) (fun c24 => ?_) (fun c24 => ?_)
        · refine v_bipush (pc := 36) (v := -11) dX12_shift_36 (by decide) ?_
          exact v_iret (pc := 38) dX12_shift_38 rfl rfl (Nat.le_of_ble_eq_true rfl) (Nat.le_of_ble_eq_true rfl) ⟨by simp only [w_shift, e1, e2, eA], I, J, rfl, by simp only [w_shift, e1, e2, eA]; exact ht, mT_rf⟩
        · exact absurd (show (-1 : Int32) < 0 by decide) c24
      · have hs5 := hv5 s rfl
        have hst : I 87 t = nI s := hh.1
        refine v_aload_n (pc := 18) dX12_shift_18 rfl rfl ?_
        refine v_getH (pc := 19) fg_X12_184_12 dX12_shift_19 (li_55 hL) (lr_55_57 hL) ?_
        refine v_iload_n (pc := 22) dX12_shift_22 rfl rfl ?_
        refine v_ialoadN (pc := 23) dX12_shift_23 (li_87 hL) ⟨by omega, by omega⟩ hst ?_
        refine v_if_ltN (pc := 24) (tgt := 36) (by omega) dX12_shift_24 (by decide) ?_
        rcases eB : (tp o).1 with - | s2 <;> rw [eB] at ho hw5
        · have hso : I 87 o = -1 := ho.1
          refine v_aload_n (pc := 27) dX12_shift_27 rfl rfl ?_
          refine v_getH (pc := 28) fg_X12_184_12 dX12_shift_28 (li_55 hL) (lr_55_57 hL) ?_
          refine v_iload_n (pc := 31) dX12_shift_31 rfl rfl ?_
          refine v_ialoadN (pc := 32) dX12_shift_32 (li_87 hL) ⟨by omega, by omega⟩ hso ?_
          refine v_if_ge (pc := 33) (tgt := 39) dX12_shift_33 (by decide) (fun c33 => ?_) (fun c33 => ?_)
          · exact absurd c33 (show ¬ (0 : Int32) ≤ -1 by decide)
          · refine v_bipush (pc := 36) (v := -11) dX12_shift_36 (by decide) ?_
            exact v_iret (pc := 38) dX12_shift_38 rfl rfl (Nat.le_of_ble_eq_true rfl) (Nat.le_of_ble_eq_true rfl) ⟨by simp only [w_shift, e1, e2, eA, eB], I, J, rfl, by simp only [w_shift, e1, e2, eA, eB]; exact ht, mT_rf⟩
        · have hs6 := hw5 s2 rfl
          have hso : I 87 o = nI s2 := ho.1
          refine v_aload_n (pc := 27) dX12_shift_27 rfl rfl ?_
          refine v_getH (pc := 28) fg_X12_184_12 dX12_shift_28 (li_55 hL) (lr_55_57 hL) ?_
          refine v_iload_n (pc := 31) dX12_shift_31 rfl rfl ?_
          refine v_ialoadN (pc := 32) dX12_shift_32 (li_87 hL) ⟨by omega, by omega⟩ hso ?_
          refine v_if_geN (pc := 33) (tgt := 39) (by omega) dX12_shift_33 (by decide) ?_
          refine v_aload_n (pc := 39) dX12_shift_39 rfl rfl ?_
          refine v_getH (pc := 40) fg_X12_184_12 dX12_shift_40 (li_55 hL) (lr_55_57 hL) ?_
          refine v_iload_n (pc := 43) dX12_shift_43 rfl rfl ?_
          refine v_ialoadN (pc := 44) dX12_shift_44 (li_87 hL) ⟨by omega, by omega⟩ hst ?_
          refine v_aload_n (pc := 45) dX12_shift_45 rfl rfl ?_
          refine v_getH (pc := 46) fg_X12_184_12 dX12_shift_46 (li_55 hL) (lr_55_57 hL) ?_
          refine v_iload_n (pc := 49) dX12_shift_49 rfl rfl ?_
          refine v_ialoadN (pc := 50) dX12_shift_50 (li_87 hL) ⟨by omega, by omega⟩ hso ?_
          refine v_icmp_eqN (pc := 51) (tgt := 57) ⟨by omega, by omega⟩ dX12_shift_51 (by decide) (fun c51 => ?_) (fun c51 => ?_)
          · by_cases hq : 0 ≤ nn.toInt ∧ 0 ≤ ii.toInt ∧ 0 ≤ jj.toInt ∧ ii.toInt + nn.toInt ≤ (tp t).2.1 ∧ jj.toInt + nn.toInt ≤ (tp o).2.1
            · have hf := t_fit2 ⟨hv60, hw60⟩ hq
              have eW : (w_shift tp (nI t) ii (nI o) jj nn) = (nn, some (o, w_shf (tp t) (tp o) ii.toInt.toNat jj.toInt.toNat nn.toInt.toNat)) := by simp only [w_shift, e1, e2, eA, eB]; rw [if_pos c51, if_pos hq]
              obtain ⟨i, j, n, rfl, rfl, rfl, hf1, hf2, q1, q2, q3⟩ := hf
              rw [q1, q2, q3] at eW
              have lp2 : ∀ k, k ≤ n → v_V G l yX12_shift cX12_shift 7 (some .int) rm_X12_shift (v_Qi G (fun (x : Int32) (M' : v_MM) => x = (w_shift tp (nI t) (nI i) (nI o) (nI j) (nI n)).1 ∧ ∃ I' J', M' = (K, I', J', R) ∧ MTp I' J' (w_put tp (w_shift tp (nI t) (nI i) (nI o) (nI j) (nI n)).2) ∧ mT I J I' J')) 0 0 141 [some (.ref 55), some (.int (nI t)), some (.int (nI i)), some (.int (nI o)), some (.int (nI j)), some (.int (nI n)), some (.int (nI k))] [] (K, I, (fun a z => if a = 89 ∧ 60 * o + j ≤ z ∧ z < 60 * o + j + k then (tp t).2.2 (i + (z - (60 * o + j))) else (fun a z => if a = 90 ∧ z < n then (tp t).2.2 (i + z) else J a z) a z), R) := by
                refine v_down n (fun k hk ih => ?_)
                refine v_iload (pc := 141) dX12_shift_141 rfl ?_
                refine v_iload (pc := 143) dX12_shift_143 rfl ?_
                refine v_icmp_geN (pc := 145) (tgt := 176) ⟨by omega, by omega⟩ dX12_shift_145 (by decide) (fun c145 => ?_) (fun c145 => ?_)
                · refine v_iload (pc := 176) dX12_shift_176 rfl ?_
                  exact v_iret (pc := 178) dX12_shift_178 rfl rfl (Nat.le_of_ble_eq_true rfl) (Nat.le_of_ble_eq_true rfl) (by
        have ek : k = n := by omega
        subst ek
        rw [eW]
        refine ⟨rfl, _, _, rfl, ?_, ⟨fun _ _ _ _ => rfl, fun a z n1 n2 => (if_neg (fun q => n1 q.1)).trans (if_neg (fun q => n2 q.1))⟩⟩
        exact MTp_shf ht htt hoo hf1 hf2 hv60 hw60)
                · refine v_aload_n (pc := 148) dX12_shift_148 rfl rfl ?_
                  refine v_getH (pc := 149) fg_X12_190_12 dX12_shift_149 (li_55 hL) (lr_55_59 hL) ?_
                  refine v_bipush (pc := 152) (v := nI 60) dX12_shift_152 (by decide) ?_
                  refine v_iload_n (pc := 154) dX12_shift_154 rfl rfl ?_
                  refine v_imulN (pc := 155) dX12_shift_155 ?_
                  refine v_iload (pc := 156) dX12_shift_156 rfl ?_
                  refine v_iaddN (pc := 158) dX12_shift_158 ?_
                  refine v_iload (pc := 159) dX12_shift_159 rfl ?_
                  refine v_iaddN (pc := 161) dX12_shift_161 ?_
                  refine v_aload_n (pc := 162) dX12_shift_162 rfl rfl ?_
                  refine v_getH (pc := 163) fg_X12_194_12 dX12_shift_163 (li_55 hL) (lr_55_60 hL) ?_
                  refine v_iload (pc := 166) dX12_shift_166 rfl ?_
                  refine v_laloadN (pc := 168) dX12_shift_168 (li_90 hL) ⟨by omega, by omega⟩ (show (fun a z => if a = 89 ∧ 60 * o + j ≤ z ∧ z < 60 * o + j + k then (tp t).2.2 (i + (z - (60 * o + j))) else (fun a z => if a = 90 ∧ z < n then (tp t).2.2 (i + z) else J a z) a z) 90 k = (tp t).2.2 (i + k) from (if_neg (fun q => absurd q.1 (by decide))).trans (if_pos ⟨rfl, by omega⟩)) ?_
                  refine v_lastoreN (pc := 169) dX12_shift_169 (li_89 hL) ⟨by omega, by omega⟩ ?_
                  refine v_iincN (pc := 170) (b := 1) dX12_shift_170 rfl (by decide) (by decide) rfl ?_
                  refine v_goto (pc := 173) (tgt := 141) dX12_shift_173 (by decide) ?_
                  refine v_mem ?_ (ih (k + 1) (by omega) (by omega))
                  congr 2
                  refine Prod.ext ?_ rfl
                  funext a z
                  simp only [v_u]
                  by_cases h1 : a = 89
                  · by_cases h2 : z = 60 * o + j + k
                    · subst h2; have h4 : 60 * o + j + k - (60 * o + j) = k := by omega
                      simp [h1, h4]
                    · have h3 : (z < 60 * o + j + (k + 1)) = (z < 60 * o + j + k) := propext ⟨fun q => by omega, fun q => by omega⟩
                      simp [h1, h2, h3]
                  · simp [h1]
              have lp1 : ∀ k, k ≤ n → v_V G l yX12_shift cX12_shift 7 (some .int) rm_X12_shift (v_Qi G (fun (x : Int32) (M' : v_MM) => x = (w_shift tp (nI t) (nI i) (nI o) (nI j) (nI n)).1 ∧ ∃ I' J', M' = (K, I', J', R) ∧ MTp I' J' (w_put tp (w_shift tp (nI t) (nI i) (nI o) (nI j) (nI n)).2) ∧ mT I J I' J')) 0 0 104 [some (.ref 55), some (.int (nI t)), some (.int (nI i)), some (.int (nI o)), some (.int (nI j)), some (.int (nI n)), some (.int (nI k))] [] (K, I, (fun a z => if a = 90 ∧ z < k then (tp t).2.2 (i + z) else J a z), R) := by
                refine v_down n (fun k hk ih => ?_)
                refine v_iload (pc := 104) dX12_shift_104 rfl ?_
                refine v_iload (pc := 106) dX12_shift_106 rfl ?_
                refine v_icmp_geN (pc := 108) (tgt := 138) ⟨by omega, by omega⟩ dX12_shift_108 (by decide) (fun c108 => ?_) (fun c108 => ?_)
                · refine v_iconst (pc := 138) (v := nI 0) dX12_shift_138 (by decide) ?_
                  refine v_istore (pc := 139) dX12_shift_139 (by decide) rfl ?_
                  have ek : k = n := by omega
                  subst ek
                  refine v_mem ?_ (lp2 0 (by omega))
                  congr 2
                  refine Prod.ext ?_ rfl
                  funext a z
                  exact (if_neg (fun q => by omega)).symm
                · refine v_aload_n (pc := 111) dX12_shift_111 rfl rfl ?_
                  refine v_getH (pc := 112) fg_X12_194_12 dX12_shift_112 (li_55 hL) (lr_55_60 hL) ?_
                  refine v_iload (pc := 115) dX12_shift_115 rfl ?_
                  refine v_aload_n (pc := 117) dX12_shift_117 rfl rfl ?_
                  refine v_getH (pc := 118) fg_X12_190_12 dX12_shift_118 (li_55 hL) (lr_55_59 hL) ?_
                  refine v_bipush (pc := 121) (v := nI 60) dX12_shift_121 (by decide) ?_
                  refine v_iload_n (pc := 123) dX12_shift_123 rfl rfl ?_
                  refine v_imulN (pc := 124) dX12_shift_124 ?_
                  refine v_iload_n (pc := 125) dX12_shift_125 rfl rfl ?_
                  refine v_iaddN (pc := 126) dX12_shift_126 ?_
                  refine v_iload (pc := 127) dX12_shift_127 rfl ?_
                  refine v_iaddN (pc := 129) dX12_shift_129 ?_
                  refine v_laloadN (pc := 130) dX12_shift_130 (li_89 hL) ⟨by omega, by omega⟩ (show (fun a z => if a = 90 ∧ z < k then (tp t).2.2 (i + z) else J a z) 89 (60 * t + i + k) = (tp t).2.2 (i + k) from (if_neg (fun q => absurd q.1 (by decide))).trans (by rw [Nat.add_assoc]; exact hh.2.2 (i + k) (by omega))) ?_
                  refine v_lastoreN (pc := 131) dX12_shift_131 (li_90 hL) ⟨by omega, by omega⟩ ?_
                  refine v_iincN (pc := 132) (b := 1) dX12_shift_132 rfl (by decide) (by decide) rfl ?_
                  refine v_goto (pc := 135) (tgt := 104) dX12_shift_135 (by decide) ?_
                  refine v_mem ?_ (ih (k + 1) (by omega) (by omega))
                  congr 2
                  refine Prod.ext ?_ rfl
                  funext a z
                  simp only [v_u]
                  by_cases h1 : a = 90
                  · by_cases h2 : z = k
                    · subst h2; simp [h1]
                    · have h3 : (z < k + 1) = (z < k) := propext ⟨fun q => by omega, fun q => by omega⟩
                      simp [h1, h2, h3]
                  · simp [h1]
              refine v_iload (pc := 57) dX12_shift_57 rfl ?_
              refine v_if_ltN (pc := 59) (tgt := 98) (by omega) dX12_shift_59 (by decide) ?_
              refine v_iload_n (pc := 62) dX12_shift_62 rfl rfl ?_
              refine v_if_ltN (pc := 63) (tgt := 98) (by omega) dX12_shift_63 (by decide) ?_
              refine v_iload (pc := 66) dX12_shift_66 rfl ?_
              refine v_if_ltN (pc := 68) (tgt := 98) (by omega) dX12_shift_68 (by decide) ?_
              refine v_iload_n (pc := 71) dX12_shift_71 rfl rfl ?_
              refine v_aload_n (pc := 72) dX12_shift_72 rfl rfl ?_
              refine v_getH (pc := 73) fg_X12_187_12 dX12_shift_73 (li_55 hL) (lr_55_58 hL) ?_
              refine v_iload_n (pc := 76) dX12_shift_76 rfl rfl ?_
              refine v_ialoadN (pc := 77) dX12_shift_77 (li_88 hL) ⟨by omega, by omega⟩ hh.2.1 ?_
              refine v_iload (pc := 78) dX12_shift_78 rfl ?_
              refine v_isubN (pc := 80) (by omega) dX12_shift_80 ?_
              refine v_icmp_gtN (pc := 81) (tgt := 98) ⟨by omega, by omega⟩ dX12_shift_81 (by decide) (fun c81 => ?_) (fun c81 => ?_)
              · exact absurd c81 (by omega)
              · refine v_iload (pc := 84) dX12_shift_84 rfl ?_
                refine v_aload_n (pc := 86) dX12_shift_86 rfl rfl ?_
                refine v_getH (pc := 87) fg_X12_187_12 dX12_shift_87 (li_55 hL) (lr_55_58 hL) ?_
                refine v_iload_n (pc := 90) dX12_shift_90 rfl rfl ?_
                refine v_ialoadN (pc := 91) dX12_shift_91 (li_88 hL) ⟨by omega, by omega⟩ ho.2.1 ?_
                refine v_iload (pc := 92) dX12_shift_92 rfl ?_
                refine v_isubN (pc := 94) (by omega) dX12_shift_94 ?_
                refine v_icmp_leN (pc := 95) (tgt := 101) ⟨by omega, by omega⟩ dX12_shift_95 (by decide) (fun c95 => ?_) (fun c95 => ?_)
                · refine v_iconst (pc := 101) (v := nI 0) dX12_shift_101 (by decide) ?_
                  refine v_istore (pc := 102) dX12_shift_102 (by decide) rfl ?_
                  refine v_mem ?_ (lp1 0 (by omega))
                  congr 2
                  refine Prod.ext ?_ rfl
                  funext a z
                  exact (if_neg (fun q => by omega)).symm
                · exact absurd c95 (by omega)
            · have eW : (w_shift tp (nI t) ii (nI o) jj nn) = (-13, none) := by simp only [w_shift, e1, e2, eA, eB]; rw [if_pos c51, if_neg hq]
              refine v_iload (pc := 57) dX12_shift_57 rfl ?_
              refine v_if_lt (pc := 59) (tgt := 98) dX12_shift_59 (by decide) (fun c59 => ?_) (fun c59 => ?_)
              · refine v_bipush (pc := 98) (v := -13) dX12_shift_98 (by decide) ?_
                exact v_iret (pc := 100) dX12_shift_100 rfl rfl (Nat.le_of_ble_eq_true rfl) (Nat.le_of_ble_eq_true rfl) ⟨by rw [eW], I, J, rfl, by rw [eW]; exact ht, mT_rf⟩
              · refine v_iload_n (pc := 62) dX12_shift_62 rfl rfl ?_
                refine v_if_lt (pc := 63) (tgt := 98) dX12_shift_63 (by decide) (fun c63 => ?_) (fun c63 => ?_)
                · refine v_bipush (pc := 98) (v := -13) dX12_shift_98 (by decide) ?_
                  exact v_iret (pc := 100) dX12_shift_100 rfl rfl (Nat.le_of_ble_eq_true rfl) (Nat.le_of_ble_eq_true rfl) ⟨by rw [eW], I, J, rfl, by rw [eW]; exact ht, mT_rf⟩
                · refine v_iload (pc := 66) dX12_shift_66 rfl ?_
                  refine v_if_lt (pc := 68) (tgt := 98) dX12_shift_68 (by decide) (fun c68 => ?_) (fun c68 => ?_)
                  · refine v_bipush (pc := 98) (v := -13) dX12_shift_98 (by decide) ?_
                    exact v_iret (pc := 100) dX12_shift_100 rfl rfl (Nat.le_of_ble_eq_true rfl) (Nat.le_of_ble_eq_true rfl) ⟨by rw [eW], I, J, rfl, by rw [eW]; exact ht, mT_rf⟩
                  · refine v_iload_n (pc := 71) dX12_shift_71 rfl rfl ?_
                    refine v_aload_n (pc := 72) dX12_shift_72 rfl rfl ?_
                    refine v_getH (pc := 73) fg_X12_187_12 dX12_shift_73 (li_55 hL) (lr_55_58 hL) ?_
                    refine v_iload_n (pc := 76) dX12_shift_76 rfl rfl ?_
                    refine v_ialoadN (pc := 77) dX12_shift_77 (li_88 hL) ⟨by omega, by omega⟩ hh.2.1 ?_
                    refine v_iload (pc := 78) dX12_shift_78 rfl ?_
                    refine v_isub (pc := 80) dX12_shift_80 ?_
                    refine v_icmp_gt (pc := 81) (tgt := 98) dX12_shift_81 (by decide) (fun c81 => ?_) (fun c81 => ?_)
                    · refine v_bipush (pc := 98) (v := -13) dX12_shift_98 (by decide) ?_
                      exact v_iret (pc := 100) dX12_shift_100 rfl rfl (Nat.le_of_ble_eq_true rfl) (Nat.le_of_ble_eq_true rfl) ⟨by rw [eW], I, J, rfl, by rw [eW]; exact ht, mT_rf⟩
                    · refine v_iload (pc := 84) dX12_shift_84 rfl ?_
                      refine v_aload_n (pc := 86) dX12_shift_86 rfl rfl ?_
                      refine v_getH (pc := 87) fg_X12_187_12 dX12_shift_87 (li_55 hL) (lr_55_58 hL) ?_
                      refine v_iload_n (pc := 90) dX12_shift_90 rfl rfl ?_
                      refine v_ialoadN (pc := 91) dX12_shift_91 (li_88 hL) ⟨by omega, by omega⟩ ho.2.1 ?_
                      refine v_iload (pc := 92) dX12_shift_92 rfl ?_
                      refine v_isub (pc := 94) dX12_shift_94 ?_
                      refine v_icmp_le (pc := 95) (tgt := 101) dX12_shift_95 (by decide) (fun c95 => ?_) (fun c95 => ?_)
                      · exact absurd (t_fit c59 c63 c68 ⟨hv60, hw60⟩ c81 c95) hq
                      · refine v_bipush (pc := 98) (v := -13) dX12_shift_98 (by decide) ?_
                        exact v_iret (pc := 100) dX12_shift_100 rfl rfl (Nat.le_of_ble_eq_true rfl) (Nat.le_of_ble_eq_true rfl) ⟨by rw [eW], I, J, rfl, by rw [eW]; exact ht, mT_rf⟩
          · refine v_bipush (pc := 54) (v := -12) dX12_shift_54 (by decide) ?_
            exact v_iret (pc := 56) dX12_shift_56 rfl rfl (Nat.le_of_ble_eq_true rfl) (Nat.le_of_ble_eq_true rfl) ⟨by simp only [w_shift, e1, e2, eA, eB]; rw [if_neg c51], I, J, rfl, by simp only [w_shift, e1, e2, eA, eB]; rw [if_neg c51]; exact ht, mT_rf⟩
    · have e2 := x_nat_n c13
      refine v_iconst (pc := 16) (v := -1) dX12_shift_16 (by decide) ?_
      exact v_iret (pc := 17) dX12_shift_17 rfl rfl (Nat.le_of_ble_eq_true rfl) (Nat.le_of_ble_eq_true rfl) (by first | exact ⟨by simp only [w_shift, e1], I, J, rfl, by simp only [w_shift, e1]; exact ht, mT_rf⟩ | exact ⟨by simp only [w_shift, e1, e2], I, J, rfl, by simp only [w_shift, e1, e2]; exact ht, mT_rf⟩)
