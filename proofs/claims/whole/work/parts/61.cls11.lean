abbrev rm_X11_made : Room := { frames := 13, cells := 0, slots := 0, locals := 614 }
set_option maxRecDepth 20000 in
theorem c_X11_made (G : v_G) (l : Launch) {K : Nat × v_TY} {I : Nat → Nat → Int32} {J : Nat → Nat → Int64} {R : Nat → Nat → Option Nat} (hL : Lay K R) {b : BS} {hm : Nat} {p : CLS} (hv : CV K I R 1 b hm p) (hf : HF b hm) (hA : CPA K R 1) {cm : Nat → Nat} (hcm : ∀ i, i < 6 → I 5 i = nI (cm i) ∧ cm i < 100) : v_M G l yX11_made cX11_made 2 (some .int) rm_X11_made [.ref 0] (K, I, J, R) (v_Qi G (fun (x : Int32) (M' : v_MM) => x = s_made b p cm ∧ ∃ I' R', M' = (K, I', J, R') ∧ Lay K R' ∧ cR I I' ∧ cRR R R')) := by
  refine v_of [some (.ref 0), none] (by decide) (Nat.le_of_ble_eq_true rfl) (Nat.le_of_ble_eq_true rfl) rfl ?_
  have hB := hv.2.1
  have hn6 := hB.1
  have h15 := pr15 hn6
  have he := ve_now (p := p) hB hf
  refine v_aload_n (pc := 0) dX11_made_0 rfl rfl ?_
  refine v_getH (pc := 1) fg_X11_12_11 dX11_made_1 (li_0 hL) (lr_0_0 hL) ?_
  refine v_ci (pc := 4) (v_rV (c_X9_isAsComplained G l hL (Or.inl rfl) hv (cm := cm) hcm) rfl kV_X11_204 (v_rcO (li_1 hL) rfl (by decide)) ⟨Nat.le_of_ble_eq_true rfl, Nat.le_of_ble_eq_true rfl⟩ ⟨Nat.le_of_ble_eq_true rfl, Nat.le_of_ble_eq_true rfl⟩ dX11_made_4 (Nat.le_of_ble_eq_true rfl)) (fun x4 M4 h4 => ?_)
  obtain ⟨rfl, I0, rfl, f0⟩ := h4
  have hv0 := CV_F hv (Or.inl rfl) f0
  have etd : w_told (c_vw b hm p) cm (b_n b) = w_told (vw b 9 p) cm (b_n b) := ve_told he cm
  refine v_if_eqP (pc := 7) (tgt := 13) dX11_made_7 (by decide) (fun c7 => ?_) (fun c7 => ?_)
  · rw [etd] at c7
    refine v_aload_n (pc := 13) dX11_made_13 rfl rfl ?_
    refine v_getH (pc := 14) fg_X11_21_11 dX11_made_14 (li_0 hL) (lr_0_2 hL) ?_
    refine v_aload_n (pc := 17) dX11_made_17 rfl rfl ?_
    refine v_getH (pc := 18) fg_X11_12_11 dX11_made_18 (li_0 hL) (lr_0_0 hL) ?_
    refine v_cv (pc := 21) (v_rV (c_X9_become G l hL (Or.inr (Or.inr rfl)) (Or.inl rfl) (by decide) hA) rfl kV_X11_177 (v_rcO (li_21 hL) rfl (by decide)) ⟨Nat.le_of_ble_eq_true rfl, Nat.le_of_ble_eq_true rfl⟩ ⟨Nat.le_of_ble_eq_true rfl, Nat.le_of_ble_eq_true rfl⟩ dX11_made_21 (Nat.le_of_ble_eq_true rfl)) (fun M21 h21 => ?_)
    subst h21
    have hBE := BE_of (I := I0) (R := R) (h := 21) (g := 1) (Or.inr (Or.inr rfl)) (Or.inl rfl) (by decide)
    have hLb := Lay_be (g := 1) hL (Or.inr (Or.inr rfl))
    have hvb := CV_BE hv0 hBE (Or.inr (Or.inr rfl))
    obtain ⟨jb, jb2⟩ := cR_BE hBE
    generalize beA I0 21 1 = I1 at hBE hvb jb ⊢
    generalize beR R 21 1 = R1 at hBE hvb jb2 hLb ⊢
    have hL := hLb
    have hcb : ∀ i, i < 6 → I1 (21 + 4) i = nI (cm i) ∧ cm i < 100 := fun i hi => ⟨(hBE.2.1.2.2.1 i hi).trans ((f0 _ _ (by decide)).trans (hcm i hi).1), (hcm i hi).2⟩
    have j1 := cR_tr (cR_F f0) jb
    refine v_iconst (pc := 24) (v := nI 0) dX11_made_24 (by decide) ?_
    refine v_istore_n (pc := 25) dX11_made_25 rfl (by decide) rfl ?_
    have key : ∀ i, i ≤ w_pr (b_n b) → ∀ Ii : Nat → Nat → Int32, cR I Ii → CV K Ii R1 21 b hm p → (∀ i, i < 6 → Ii (21 + 4) i = nI (cm i) ∧ cm i < 100) → (w_ff (w_mk b p cm) i) = none → v_V G l yX11_made cX11_made 2 (some .int) rm_X11_made (v_Qi G (fun (x : Int32) (M' : v_MM) => x = s_made b p cm ∧ ∃ I' R', M' = (K, I', J, R') ∧ Lay K R' ∧ cR I I' ∧ cRR R R')) 0 0 26 [some (.ref 0), some (.int (nI i))] [] (K, Ii, J, R1) := by
      refine v_down (w_pr (b_n b)) (fun i hi ih => ?_)
      intro Ii hI hvi hci hno
      refine v_iload_n (pc := 26) dX11_made_26 rfl rfl ?_
      refine v_aload_n (pc := 27) dX11_made_27 rfl rfl ?_
      refine v_getH (pc := 28) fg_X11_21_11 dX11_made_28 (li_0 hL) (lr_0_2 hL) ?_
      refine v_ci (pc := 31) (v_rV (c_X9_pairCount G l hLb (Or.inr (Or.inr rfl)) hvi.1.1 (by omega)) rfl kV_X11_162 (v_rcO (li_21 hL) rfl (by decide)) ⟨Nat.le_of_ble_eq_true rfl, Nat.le_of_ble_eq_true rfl⟩ ⟨Nat.le_of_ble_eq_true rfl, Nat.le_of_ble_eq_true rfl⟩ dX11_made_31 (Nat.le_of_ble_eq_true rfl)) (fun x31 M31 h31 => ?_)
      obtain ⟨rfl, rfl⟩ := h31
      refine v_icmp_geN (pc := 34) (tgt := 71) ⟨by omega, by omega⟩ dX11_made_34 (by decide) (fun c34 => ?_) (fun c34 => ?_)
      · refine v_bipush (pc := 71) (v := -5) dX11_made_71 (by decide) ?_
        exact v_iret (pc := 73) dX11_made_73 rfl rfl (Nat.le_of_ble_eq_true rfl) (Nat.le_of_ble_eq_true rfl) ⟨by rw [s_made, if_neg c7]; first | (rw [w_ff_s hno ef (by omega)]; rfl) | (rw [show w_pr (b_n b) = i by omega, hno]; rfl), _, R1, rfl, hLb, by first | exact hI | exact cR_tr hI (cR_tr (cR_K k5) (cR_F2 f6)), jb2⟩
      · have hBf := VB_fp hB (show i < w_pr (b_n b) by omega)
        have hef := ve_now (p := p) hBf (HF_n hf rfl)
        refine v_aload_n (pc := 37) dX11_made_37 rfl rfl ?_
        refine v_getH (pc := 38) fg_X11_21_11 dX11_made_38 (li_0 hL) (lr_0_2 hL) ?_
        refine v_iload_n (pc := 41) dX11_made_41 rfl rfl ?_
        refine v_cv (pc := 42) (v_rV (c_X9_change G l hLb (Or.inr (Or.inr rfl)) (k := i) hvi.1.2.2.2.1 hB (by omega)) rfl kV_X11_181 (v_rcO (li_21 hL) rfl (by decide)) ⟨Nat.le_of_ble_eq_true rfl, Nat.le_of_ble_eq_true rfl⟩ ⟨Nat.le_of_ble_eq_true rfl, Nat.le_of_ble_eq_true rfl⟩ dX11_made_42 (Nat.le_of_ble_eq_true rfl)) (fun M42 h42 => ?_)
        obtain ⟨I5, rfl, k5⟩ := h42
        have hv5 : CV K I5 R1 21 (b_fp b i) hm p := CV_K hvi (Or.inr (Or.inr rfl)) k5 ⟨rfl, rfl, rfl, rfl, rfl⟩ hBf
        have hc5 : ∀ i, i < 6 → I5 (21 + 4) i = nI (cm i) ∧ cm i < 100 := fun q hq => ⟨(k5.1 _ _ (by decide)).trans (hci q hq).1, (hci q hq).2⟩
        refine v_aload_n (pc := 45) dX11_made_45 rfl rfl ?_
        refine v_getH (pc := 46) fg_X11_21_11 dX11_made_46 (li_0 hL) (lr_0_2 hL) ?_
        refine v_ci (pc := 49) (v_rV (c_X9_isAsComplained G l hLb (Or.inr (Or.inr rfl)) hv5 (cm := cm) hc5) rfl kV_X11_204 (v_rcO (li_21 hL) rfl (by decide)) ⟨Nat.le_of_ble_eq_true rfl, Nat.le_of_ble_eq_true rfl⟩ ⟨Nat.le_of_ble_eq_true rfl, Nat.le_of_ble_eq_true rfl⟩ dX11_made_49 (Nat.le_of_ble_eq_true rfl)) (fun x49 M49 h49 => ?_)
        obtain ⟨rfl, I6, rfl, f6⟩ := h49
        have hv6 := CV_F hv5 (Or.inr (Or.inr rfl)) f6
        have et : w_told (c_vw (b_fp b i) hm p) cm (b_n (b_fp b i)) = w_told (vw (b_fp b i) 9 p) cm (b_n b) := ve_told hef cm
        refine v_if_eqP (pc := 52) (tgt := 57) dX11_made_52 (by decide) (fun c52 => ?_) (fun c52 => ?_)
        · rw [et] at c52
          have ef : w_mk b p cm i = none := if_neg c52
          refine v_aload_n (pc := 57) dX11_made_57 rfl rfl ?_
          refine v_getH (pc := 58) fg_X11_21_11 dX11_made_58 (li_0 hL) (lr_0_2 hL) ?_
          refine v_iload_n (pc := 61) dX11_made_61 rfl rfl ?_
          refine v_cv (pc := 62) (v_rV (c_X9_change G l hLb (Or.inr (Or.inr rfl)) (k := i) hv6.1.2.2.2.1 hBf (by omega)) rfl kV_X11_181 (v_rcO (li_21 hL) rfl (by decide)) ⟨Nat.le_of_ble_eq_true rfl, Nat.le_of_ble_eq_true rfl⟩ ⟨Nat.le_of_ble_eq_true rfl, Nat.le_of_ble_eq_true rfl⟩ dX11_made_62 (Nat.le_of_ble_eq_true rfl)) (fun M62 h62 => ?_)
          obtain ⟨I7, rfl, k7⟩ := h62
          have k7b := cK_eq k7 (b_fp2 b (show i < 15 by omega))
          have hv7 : CV K I7 R1 21 b hm p := CV_K hv6 (Or.inr (Or.inr rfl)) k7b ⟨rfl, rfl, rfl, rfl, rfl⟩ hB
          have hI7 := cR_tr hI (cR_tr (cR_K k5) (cR_tr (cR_F2 f6) (cR_K k7)))
          have hc7 : ∀ i, i < 6 → I7 (21 + 4) i = nI (cm i) ∧ cm i < 100 := fun q hq => ⟨(k7.1 _ _ (by decide)).trans ((f6 _ _ (by decide)).trans (hc5 q hq).1), (hcm q hq).2⟩
          refine v_iincN (pc := 65) (b := 1) dX11_made_65 rfl (by decide) (by decide) rfl ?_
          refine v_goto (pc := 68) (tgt := 26) dX11_made_68 (by decide) ?_
          exact ih (i + 1) (by omega) (by omega) I7 hI7 hv7 hc7 (w_ff_n hno ef)
        · rw [et] at c52
          have ef : w_mk b p cm i = some (nI i) := if_pos c52
          refine v_iload_n (pc := 55) dX11_made_55 rfl rfl ?_
          exact v_iret (pc := 56) dX11_made_56 rfl rfl (Nat.le_of_ble_eq_true rfl) (Nat.le_of_ble_eq_true rfl) ⟨by rw [s_made, if_neg c7]; first | (rw [w_ff_s hno ef (by omega)]; rfl) | (rw [show w_pr (b_n b) = i by omega, hno]; rfl), _, R1, rfl, hLb, by first | exact hI | exact cR_tr hI (cR_tr (cR_K k5) (cR_F2 f6)), jb2⟩
    exact key 0 (Nat.zero_le _) I1 j1 hvb hcb rfl
  · rw [etd] at c7
    have er : s_made b p cm = 100 := if_pos c7
    refine v_bipush (pc := 10) (v := nI 100) dX11_made_10 (by decide) ?_
    exact v_iret (pc := 12) dX11_made_12 rfl rfl (Nat.le_of_ble_eq_true rfl) (Nat.le_of_ble_eq_true rfl) ⟨er.symm, I0, R, rfl, hL, cR_F f0, cRR_rf⟩
abbrev rm_X11_odds : Room := { frames := 12, cells := 0, slots := 0, locals := 591 }
set_option maxRecDepth 20000 in
theorem c_X11_odds (G : v_G) (l : Launch) {K : Nat × v_TY} {I : Nat → Nat → Int32} {J : Nat → Nat → Int64} {R : Nat → Nat → Option Nat} (hL : Lay K R) {ww : Int32} {b : BS} {hm : Nat} {p : CLS} (hv : CV K I R 1 b hm p) (hf : HF b hm) (hA : CPA K R 1) : v_M G l yX11_odds cX11_odds 4 (some .long) rm_X11_odds [.ref 0, .int ww] (K, I, J, R) (v_Ql G (fun (x : Int64) (M' : v_MM) => x = s_odds b p ww ∧ ∃ I' R', M' = (K, I', J, R') ∧ Lay K R' ∧ cR I I' ∧ cRR R R')) := by
  refine v_of [some (.ref 0), some (.int ww), none, none] (by decide) (Nat.le_of_ble_eq_true rfl) (Nat.le_of_ble_eq_true rfl) rfl ?_
  have hB := hv.2.1
  have hn6 := hB.1
  have h15 := pr15 hn6
  have he := ve_now (p := p) hB hf
  refine v_iconst (pc := 0) (v := nI 0) dX11_odds_0 (by decide) ?_
  refine v_istore_n (pc := 1) dX11_odds_1 rfl (by decide) rfl ?_
  refine v_aload_n (pc := 2) dX11_odds_2 rfl rfl ?_
  refine v_getH (pc := 3) fg_X11_21_11 dX11_odds_3 (li_0 hL) (lr_0_2 hL) ?_
  refine v_aload_n (pc := 6) dX11_odds_6 rfl rfl ?_
  refine v_getH (pc := 7) fg_X11_12_11 dX11_odds_7 (li_0 hL) (lr_0_0 hL) ?_
  refine v_cv (pc := 10) (v_rV (c_X9_become G l hL (Or.inr (Or.inr rfl)) (Or.inl rfl) (by decide) hA) rfl kV_X11_177 (v_rcO (li_21 hL) rfl (by decide)) ⟨Nat.le_of_ble_eq_true rfl, Nat.le_of_ble_eq_true rfl⟩ ⟨Nat.le_of_ble_eq_true rfl, Nat.le_of_ble_eq_true rfl⟩ dX11_odds_10 (Nat.le_of_ble_eq_true rfl)) (fun M10 h10 => ?_)
  subst h10
  have hBE := BE_of (I := I) (R := R) (h := 21) (g := 1) (Or.inr (Or.inr rfl)) (Or.inl rfl) (by decide)
  have hLb := Lay_be (g := 1) hL (Or.inr (Or.inr rfl))
  have hvb := CV_BE hv hBE (Or.inr (Or.inr rfl))
  obtain ⟨jb, jb2⟩ := cR_BE hBE
  generalize beA I 21 1 = I1 at hBE hvb jb ⊢
  generalize beR R 21 1 = R1 at hBE hvb jb2 hLb ⊢
  have hL := hLb
  refine v_iconst (pc := 13) (v := nI 0) dX11_odds_13 (by decide) ?_
  refine v_istore_n (pc := 14) dX11_odds_14 rfl (by decide) rfl ?_
  have key : ∀ i, i ≤ w_pr (b_n b) → ∀ Ii : Nat → Nat → Int32, cR I Ii → CV K Ii R1 21 b hm p → v_V G l yX11_odds cX11_odds 4 (some .long) rm_X11_odds (v_Ql G (fun (x : Int64) (M' : v_MM) => x = s_odds b p ww ∧ ∃ I' R', M' = (K, I', J, R') ∧ Lay K R' ∧ cR I I' ∧ cRR R R')) 0 0 15 [some (.ref 0), some (.int ww), some (.int (nI (cnt (fun k => w_a (vw b 9 p) (w_l k) (w_g k) && decide (w_tr b p k = 0)) i))), some (.int (nI i))] [] (K, Ii, J, R1) := by
    refine v_down (w_pr (b_n b)) (fun i hi ih => ?_)
    intro Ii hI hvi
    refine v_iload_n (pc := 15) dX11_odds_15 rfl rfl ?_
    refine v_aload_n (pc := 16) dX11_odds_16 rfl rfl ?_
    refine v_getH (pc := 17) fg_X11_21_11 dX11_odds_17 (li_0 hL) (lr_0_2 hL) ?_
    refine v_ci (pc := 20) (v_rV (c_X9_pairCount G l hLb (Or.inr (Or.inr rfl)) hvi.1.1 (by omega)) rfl kV_X11_162 (v_rcO (li_21 hL) rfl (by decide)) ⟨Nat.le_of_ble_eq_true rfl, Nat.le_of_ble_eq_true rfl⟩ ⟨Nat.le_of_ble_eq_true rfl, Nat.le_of_ble_eq_true rfl⟩ dX11_odds_20 (Nat.le_of_ble_eq_true rfl)) (fun x20 M20 h20 => ?_)
    obtain ⟨rfl, rfl⟩ := h20
    refine v_icmp_geN (pc := 23) (tgt := 72) ⟨by omega, by omega⟩ dX11_odds_23 (by decide) (fun c23 => ?_) (fun c23 => ?_)
    · have ei : i = w_pr (b_n b) := by omega
      have hvn : CV K Ii R1 1 b hm p := CV_R hv (Or.inl rfl) hI jb2
      have hgl := cnt_le (fun k => w_a (vw b 9 p) (w_l k) (w_g k) && decide (w_tr b p k = 0)) i
      have hfl := cnt_le (fun k => (b_m b (w_l k)).testBit (w_g k)) (w_pr (b_n b))
      refine v_iload_n (pc := 72) dX11_odds_72 rfl rfl ?_
      refine v_aload_n (pc := 73) dX11_odds_73 rfl rfl ?_
      refine v_getH (pc := 74) fg_X11_12_11 dX11_odds_74 (li_0 hL) (lr_0_0 hL) ?_
      refine v_ci (pc := 77) (v_rV (c_X9_friendships G l hLb (Or.inl rfl) hvn.1 hB) rfl kV_X11_165 (v_rcO (li_1 hL) rfl (by decide)) ⟨Nat.le_of_ble_eq_true rfl, Nat.le_of_ble_eq_true rfl⟩ ⟨Nat.le_of_ble_eq_true rfl, Nat.le_of_ble_eq_true rfl⟩ dX11_odds_77 (Nat.le_of_ble_eq_true rfl)) (fun x77 M77 h77 => ?_)
      obtain ⟨rfl, rfl⟩ := h77
      refine v_iload_n (pc := 80) dX11_odds_80 rfl rfl ?_
      refine v_cl (pc := 81) (v_rS (c_X11_lowest G l ⟨by omega, by omega⟩) rfl kS_X11_221 ⟨Nat.le_of_ble_eq_true rfl, Nat.le_of_ble_eq_true rfl⟩ ⟨Nat.le_of_ble_eq_true rfl, Nat.le_of_ble_eq_true rfl⟩ dX11_odds_81 (Nat.le_of_ble_eq_true rfl)) (fun x81 M81 h81 => ?_)
      obtain ⟨rfl, rfl⟩ := h81
      exact v_lret (pc := 84) dX11_odds_84 rfl (Nat.le_of_ble_eq_true rfl) (Nat.le_of_ble_eq_true rfl) ⟨by rw [← c_frs hB, ei, s_odds]; show (if _ then _ else _) = _; by_cases c1 : x_nat ww 2 = none; (rw [if_pos (Or.inr c1), c1]); (obtain ⟨z, hz⟩ := Option.ne_none_iff_exists'.mp c1; rw [hz]; by_cases c2 : w_frs b = 0; (rw [if_pos (Or.inl c2)]; exact (if_pos c2).symm); (rw [if_neg (fun q => q.elim c2 (fun q => by cases q))]; exact (if_neg c2).symm)), Ii, R1, rfl, hLb, hI, jb2⟩
    · have hBf := VB_fp hB (show i < w_pr (b_n b) by omega)
      have hef := ve_now (p := p) hBf (HF_n hf rfl)
      have hg := w_g_in i (by omega)
      have eg : (cnt (fun k => w_a (vw b 9 p) (w_l k) (w_g k) && decide (w_tr b p k = 0)) (i + 1)) = (cnt (fun k => w_a (vw b 9 p) (w_l k) (w_g k) && decide (w_tr b p k = 0)) i) + (if (w_a (vw b 9 p) (w_l i) (w_g i) && decide (w_tr b p i = 0)) = true then 1 else 0) := rfl
      have hbit := w_bit9 b p (k := i) ⟨by omega, by omega⟩
      refine v_aload_n (pc := 26) dX11_odds_26 rfl rfl ?_
      refine v_getH (pc := 27) fg_X11_21_11 dX11_odds_27 (li_0 hL) (lr_0_2 hL) ?_
      refine v_iload_n (pc := 30) dX11_odds_30 rfl rfl ?_
      refine v_ci (pc := 31) (v_rV (c_X9_areFriends G l hLb (Or.inr (Or.inr rfl)) hvi.1.2.2.2.1 (by omega)) rfl kV_X11_121 (v_rcO (li_21 hL) rfl (by decide)) ⟨Nat.le_of_ble_eq_true rfl, Nat.le_of_ble_eq_true rfl⟩ ⟨Nat.le_of_ble_eq_true rfl, Nat.le_of_ble_eq_true rfl⟩ dX11_odds_31 (Nat.le_of_ble_eq_true rfl)) (fun x31 M31 h31 => ?_)
      obtain ⟨rfl, rfl⟩ := h31
      refine v_if_eqP (pc := 34) (tgt := 66) dX11_odds_34 (by decide) (fun c34 => ?_) (fun c34 => ?_)
      · refine v_iincN (pc := 66) (b := 1) dX11_odds_66 rfl (by decide) (by decide) rfl ?_
        refine v_goto (pc := 69) (tgt := 15) dX11_odds_69 (by decide) ?_
        first
          | (have goon := ih (i + 1) (by omega) (by omega) Ii hI hvi; rw [eg, if_neg (fun z => by simp only [Bool.and_eq_true] at z; exact c34 (hbit.trans z.1)), Nat.add_zero] at goon; exact goon)
          | (rw [if_pos (by rw [Bool.and_eq_true]; exact ⟨hbit.symm.trans c34, decide_eq_true c52⟩)] at goon; exact goon)
          | (rw [if_neg (fun z => by simp only [Bool.and_eq_true, decide_eq_true_eq] at z; exact c52 z.2), Nat.add_zero] at goon; exact goon)
      · refine v_aload_n (pc := 37) dX11_odds_37 rfl rfl ?_
        refine v_getH (pc := 38) fg_X11_21_11 dX11_odds_38 (li_0 hL) (lr_0_2 hL) ?_
        refine v_iload_n (pc := 41) dX11_odds_41 rfl rfl ?_
        refine v_cv (pc := 42) (v_rV (c_X9_change G l hLb (Or.inr (Or.inr rfl)) (k := i) hvi.1.2.2.2.1 hB (by omega)) rfl kV_X11_181 (v_rcO (li_21 hL) rfl (by decide)) ⟨Nat.le_of_ble_eq_true rfl, Nat.le_of_ble_eq_true rfl⟩ ⟨Nat.le_of_ble_eq_true rfl, Nat.le_of_ble_eq_true rfl⟩ dX11_odds_42 (Nat.le_of_ble_eq_true rfl)) (fun M42 h42 => ?_)
        obtain ⟨I5, rfl, k5⟩ := h42
        have hv5 : CV K I5 R1 21 (b_fp b i) hm p := CV_K hvi (Or.inr (Or.inr rfl)) k5 ⟨rfl, rfl, rfl, rfl, rfl⟩ hBf
        refine v_aload_n (pc := 45) dX11_odds_45 rfl rfl ?_
        refine v_getH (pc := 46) fg_X11_21_11 dX11_odds_46 (li_0 hL) (lr_0_2 hL) ?_
        refine v_ci (pc := 49) (v_rV (c_X9_isAllRight G l hLb (Or.inr (Or.inr rfl)) hv5) rfl kV_X11_218 (v_rcO (li_21 hL) rfl (by decide)) ⟨Nat.le_of_ble_eq_true rfl, Nat.le_of_ble_eq_true rfl⟩ ⟨Nat.le_of_ble_eq_true rfl, Nat.le_of_ble_eq_true rfl⟩ dX11_odds_49 (Nat.le_of_ble_eq_true rfl)) (fun x49 M49 h49 => ?_)
        obtain ⟨rfl, I6, rfl, f6⟩ := h49
        have hv6 := CV_F hv5 (Or.inr (Or.inr rfl)) f6
        rw [ve_many hef]
        refine v_if_eqP (pc := 52) (tgt := 58) dX11_odds_52 (by decide) (fun c52 => ?_) (fun c52 => ?_)
        · refine v_aload_n (pc := 58) dX11_odds_58 rfl rfl ?_
          refine v_getH (pc := 59) fg_X11_21_11 dX11_odds_59 (li_0 hL) (lr_0_2 hL) ?_
          refine v_iload_n (pc := 62) dX11_odds_62 rfl rfl ?_
          refine v_cv (pc := 63) (v_rV (c_X9_change G l hLb (Or.inr (Or.inr rfl)) (k := i) hv6.1.2.2.2.1 hBf (by omega)) rfl kV_X11_181 (v_rcO (li_21 hL) rfl (by decide)) ⟨Nat.le_of_ble_eq_true rfl, Nat.le_of_ble_eq_true rfl⟩ ⟨Nat.le_of_ble_eq_true rfl, Nat.le_of_ble_eq_true rfl⟩ dX11_odds_63 (Nat.le_of_ble_eq_true rfl)) (fun M63 h63 => ?_)
          obtain ⟨I7, rfl, k7⟩ := h63
          have k7b := cK_eq k7 (b_fp2 b (show i < 15 by omega))
          have hv7 : CV K I7 R1 21 b hm p := CV_K hv6 (Or.inr (Or.inr rfl)) k7b ⟨rfl, rfl, rfl, rfl, rfl⟩ hB
          have hI7 := cR_tr hI (cR_tr (cR_K k5) (cR_tr (cR_F2 f6) (cR_K k7)))
          have goon := ih (i + 1) (by omega) (by omega) I7 hI7 hv7
          rw [eg] at goon
          refine v_iincN (pc := 66) (b := 1) dX11_odds_66 rfl (by decide) (by decide) rfl ?_
          refine v_goto (pc := 69) (tgt := 15) dX11_odds_69 (by decide) ?_
          first
            | (have goon := ih (i + 1) (by omega) (by omega) Ii hI hvi; rw [eg, if_neg (fun z => by simp only [Bool.and_eq_true] at z; exact c34 (hbit.trans z.1)), Nat.add_zero] at goon; exact goon)
            | (rw [if_pos (by rw [Bool.and_eq_true]; exact ⟨hbit.symm.trans c34, decide_eq_true c52⟩)] at goon; exact goon)
            | (rw [if_neg (fun z => by simp only [Bool.and_eq_true, decide_eq_true_eq] at z; exact c52 z.2), Nat.add_zero] at goon; exact goon)
        · refine v_iincN (pc := 55) (b := 1) dX11_odds_55 rfl (by decide) (by decide) rfl ?_
          refine v_aload_n (pc := 58) dX11_odds_58 rfl rfl ?_
          refine v_getH (pc := 59) fg_X11_21_11 dX11_odds_59 (li_0 hL) (lr_0_2 hL) ?_
          refine v_iload_n (pc := 62) dX11_odds_62 rfl rfl ?_
          refine v_cv (pc := 63) (v_rV (c_X9_change G l hLb (Or.inr (Or.inr rfl)) (k := i) hv6.1.2.2.2.1 hBf (by omega)) rfl kV_X11_181 (v_rcO (li_21 hL) rfl (by decide)) ⟨Nat.le_of_ble_eq_true rfl, Nat.le_of_ble_eq_true rfl⟩ ⟨Nat.le_of_ble_eq_true rfl, Nat.le_of_ble_eq_true rfl⟩ dX11_odds_63 (Nat.le_of_ble_eq_true rfl)) (fun M63 h63 => ?_)
          obtain ⟨I7, rfl, k7⟩ := h63
          have k7b := cK_eq k7 (b_fp2 b (show i < 15 by omega))
          have hv7 : CV K I7 R1 21 b hm p := CV_K hv6 (Or.inr (Or.inr rfl)) k7b ⟨rfl, rfl, rfl, rfl, rfl⟩ hB
          have hI7 := cR_tr hI (cR_tr (cR_K k5) (cR_tr (cR_F2 f6) (cR_K k7)))
          have goon := ih (i + 1) (by omega) (by omega) I7 hI7 hv7
          rw [eg] at goon
          refine v_iincN (pc := 66) (b := 1) dX11_odds_66 rfl (by decide) (by decide) rfl ?_
          refine v_goto (pc := 69) (tgt := 15) dX11_odds_69 (by decide) ?_
          first
            | (have goon := ih (i + 1) (by omega) (by omega) Ii hI hvi; rw [eg, if_neg (fun z => by simp only [Bool.and_eq_true] at z; exact c34 (hbit.trans z.1)), Nat.add_zero] at goon; exact goon)
            | (rw [if_pos (by rw [Bool.and_eq_true]; exact ⟨hbit.symm.trans c34, decide_eq_true c52⟩)] at goon; exact goon)
            | (rw [if_neg (fun z => by simp only [Bool.and_eq_true, decide_eq_true_eq] at z; exact c52 z.2), Nat.add_zero] at goon; exact goon)
  exact key 0 (Nat.zero_le _) I1 jb hvb
theorem x_n61 {z : Int32} : (¬ z < 0 ∧ z ≤ nI 60) ↔ vp_in z 61 := by
  rw [vp_in_iff, Int32.lt_iff_toInt_lt, Int32.le_iff_toInt_le, nI_toInt (by omega)]
  have e : (0 : Int32).toInt = 0 := rfl
  rw [e]; omega
theorem CV_y {K : Nat × v_TY} {I : Nat → Nat → Int32} {R : Nat → Nat → Option Nat} {h hm y : Nat} {b : BS} {p : CLS} (hv : CV K I R h b hm p) (hh : v_3 h) (hy : y < 2000) : CV K (v_u I h 2 (nI y)) R h (b_yr b y) hm p := by
  have hl : h ≤ 21 := by rcases hh with rfl | rfl | rfl <;> omega
  refine ⟨⟨(v_u_k (by decide)).trans hv.1.1, (v_u_k (by decide)).trans hv.1.2.1, v_u_same, fun i hi => (v_u_h (by omega)).trans (hv.1.2.2.2.1 i hi), fun j hj => (v_u_h (by omega)).trans (hv.1.2.2.2.2 j hj)⟩, ⟨hv.2.1.1, hy, hv.2.1.2.2⟩, hv.2.2.1, fun i hi => ?_, ?_⟩
  · obtain ⟨a, g1, g2⟩ := hv.2.2.2.1 i hi
    exact ⟨a, g1, PS_o g2 (fun z => v_u_h (by have := g2.1; omega))⟩
  · exact TN_o hv.2.2.2.2 (fun a z l1 _ => v_u_h (by omega)) (fun a z l => rfl)
theorem cR_t {I I' : Nat → Nat → Int32} {k : Nat} {x : Int32} (h : cR I I') : cR I (v_u I' 21 k x) := fun a z n => (v_u_h (fun e => n (Or.inr (Or.inl (by omega))))).trans (h a z n)
abbrev rm_X11_next : Room := { frames := 13, cells := 0, slots := 0, locals := 612 }
set_option maxRecDepth 20000 in
theorem c_X11_next (G : v_G) (l : Launch) {K : Nat × v_TY} {I : Nat → Nat → Int32} {J : Nat → Nat → Int64} {R : Nat → Nat → Option Nat} (hL : Lay K R) {nn ww : Int32} {b : BS} {hm : Nat} {p : CLS} (hv : CV K I R 1 b hm p) (hf : HF b hm) (hA : CPA K R 1) (hy : b_y b ≤ 999) : v_M G l yX11_next cX11_next 7 (some .int) rm_X11_next [.ref 0, .int nn, .int ww] (K, I, J, R) (v_Qi G (fun (x : Int32) (M' : v_MM) => x = s_next b p nn ww ∧ ∃ I' R', M' = (K, I', J, R') ∧ Lay K R' ∧ cR I I' ∧ cRR R R')) := by
  refine v_of [some (.ref 0), some (.int nn), some (.int ww), none, none, none, none] (by decide) (Nat.le_of_ble_eq_true rfl) (Nat.le_of_ble_eq_true rfl) rfl ?_
  have hB := hv.2.1
  have hn6 := hB.1
  have h15 := pr15 hn6
  have he := ve_now (p := p) hB hf
  refine v_iload_n (pc := 0) dX11_next_0 rfl rfl ?_
  refine v_if_lt (pc := 1) (tgt := 9) dX11_next_1 (by decide) (fun c1 => ?_) (fun c1 => ?_)
  · have e2 := x_n2 (Or.inl c1)
    refine v_iconst (pc := 9) (v := -1) dX11_next_9 (by decide) ?_
    exact v_iret (pc := 10) dX11_next_10 rfl rfl (Nat.le_of_ble_eq_true rfl) (Nat.le_of_ble_eq_true rfl) ⟨by first | (simp only [s_next, e2]; done) | (simp only [s_next, e3]; split <;> first | rfl | (exfalso; apply e2; assumption) | simp_all), I, R, rfl, hL, cR_rf, cRR_rf⟩
  · refine v_iload_n (pc := 4) dX11_next_4 rfl rfl ?_
    refine v_iconst (pc := 5) (v := nI 1) dX11_next_5 (by decide) ?_
    refine v_icmp_le (pc := 6) (tgt := 11) dX11_next_6 (by decide) (fun c6 => ?_) (fun c6 => ?_)
    · have hw2 := x_hw c1 c6
      refine v_iload_n (pc := 11) dX11_next_11 rfl rfl ?_
      refine v_if_lt (pc := 12) (tgt := 21) dX11_next_12 (by decide) (fun c12 => ?_) (fun c12 => ?_)
      · have e3 : x_nat nn 61 = none := x_nat_n (fun z => (x_n61.mpr z).1 c12)
        have e2 : x_nat ww 2 ≠ none := by rcases hw2 with rfl | rfl <;> decide
        refine v_bipush (pc := 21) (v := -2) dX11_next_21 (by decide) ?_
        exact v_iret (pc := 23) dX11_next_23 rfl rfl (Nat.le_of_ble_eq_true rfl) (Nat.le_of_ble_eq_true rfl) ⟨by first | (simp only [s_next, e2]; done) | (simp only [s_next, e3]; split <;> first | rfl | (exfalso; apply e2; assumption) | simp_all), I, R, rfl, hL, cR_rf, cRR_rf⟩
      · refine v_iload_n (pc := 15) dX11_next_15 rfl rfl ?_
        refine v_bipush (pc := 16) (v := nI 60) dX11_next_16 (by decide) ?_
        refine v_icmp_le (pc := 18) (tgt := 24) dX11_next_18 (by decide) (fun c18 => ?_) (fun c18 => ?_)
        · obtain ⟨n, hn, rfl, e3⟩ := x_nat_i (x_n61.mp ⟨c12, c18⟩) (by decide)
          refine v_aload_n (pc := 24) dX11_next_24 rfl rfl ?_
          refine v_getH (pc := 25) fg_X11_21_11 dX11_next_25 (li_0 hL) (lr_0_2 hL) ?_
          refine v_aload_n (pc := 28) dX11_next_28 rfl rfl ?_
          refine v_getH (pc := 29) fg_X11_12_11 dX11_next_29 (li_0 hL) (lr_0_0 hL) ?_
          refine v_cv (pc := 32) (v_rV (c_X9_become G l hL (Or.inr (Or.inr rfl)) (Or.inl rfl) (by decide) hA) rfl kV_X11_177 (v_rcO (li_21 hL) rfl (by decide)) ⟨Nat.le_of_ble_eq_true rfl, Nat.le_of_ble_eq_true rfl⟩ ⟨Nat.le_of_ble_eq_true rfl, Nat.le_of_ble_eq_true rfl⟩ dX11_next_32 (Nat.le_of_ble_eq_true rfl)) (fun M32 h32 => ?_)
          subst h32
          have hBE := BE_of (I := I) (R := R) (h := 21) (g := 1) (Or.inr (Or.inr rfl)) (Or.inl rfl) (by decide)
          have hLb := Lay_be (g := 1) hL (Or.inr (Or.inr rfl))
          have hvb := CV_BE hv hBE (Or.inr (Or.inr rfl))
          obtain ⟨jb, jb2⟩ := cR_BE hBE
          generalize beA I 21 1 = I1 at hBE hvb jb ⊢
          generalize beR R 21 1 = R1 at hBE hvb jb2 hLb ⊢
          have hL := hLb
          refine v_iconst (pc := 35) (v := nI 0) dX11_next_35 (by decide) ?_
          refine v_istore_n (pc := 36) dX11_next_36 rfl (by decide) rfl ?_
          refine v_aload_n (pc := 37) dX11_next_37 rfl rfl ?_
          refine v_getH (pc := 38) fg_X11_21_11 dX11_next_38 (li_0 hL) (lr_0_2 hL) ?_
          refine v_ci (pc := 41) (v_rV (c_X9_howManyAmiss G l hLb (Or.inr (Or.inr rfl)) hvb) rfl kV_X11_168 (v_rcO (li_21 hL) rfl (by decide)) ⟨Nat.le_of_ble_eq_true rfl, Nat.le_of_ble_eq_true rfl⟩ ⟨Nat.le_of_ble_eq_true rfl, Nat.le_of_ble_eq_true rfl⟩ dX11_next_41 (Nat.le_of_ble_eq_true rfl)) (fun x41 M41 h41 => ?_)
          obtain ⟨rfl, I2, rfl, f2⟩ := h41
          have hv2 := CV_F hvb (Or.inr (Or.inr rfl)) f2
          have j2 := cR_tr jb (cR_F2 f2)
          rw [ve_many he]
          refine v_istore (pc := 44) dX11_next_44 (by decide) rfl ?_
          refine v_iconst (pc := 46) (v := nI 1) dX11_next_46 (by decide) ?_
          refine v_istore (pc := 47) dX11_next_47 (by decide) rfl ?_
          have key : ∀ i, i ≤ n + 1 → 1 ≤ i → ∀ (Ii : Nat → Nat → Int32) (z6 : Option Value) (y : Nat), cR I Ii → y < 2000 → CV K Ii R1 21 (b_yr b y) hm p → v_V G l yX11_next cX11_next 7 (some .int) rm_X11_next (v_Qi G (fun (x : Int32) (M' : v_MM) => x = s_next b p (nI n) ww ∧ ∃ I' R', M' = (K, I', J, R') ∧ Lay K R' ∧ cR I I' ∧ cRR R R')) 0 0 49 [some (.ref 0), some (.int (nI n)), some (.int ww), some (.int (nI ((w_fst (fun d => w_many (vw (b_yr b (b_y b + d)) 9 p)) (some 0, w_many (vw b 9 p)) i).1.getD 0))), some (.int (nI (w_fst (fun d => w_many (vw (b_yr b (b_y b + d)) 9 p)) (some 0, w_many (vw b 9 p)) i).2)), some (.int (nI i)), z6] [] (K, Ii, J, R1) := by
            refine v_down (n + 1) (fun i hi ih => ?_)
            intro hi1 Ii z6 y hI hyy hvi
            refine v_iload (pc := 49) dX11_next_49 rfl ?_
            refine v_iload_n (pc := 51) dX11_next_51 rfl rfl ?_
            refine v_icmp_gtN (pc := 52) (tgt := 101) ⟨by omega, by omega⟩ dX11_next_52 (by decide) (fun c52 => ?_) (fun c52 => ?_)
            · have e : i = n + 1 := by omega
              subst e
              have hs := w_fst_s (fun d => w_many (vw (b_yr b (b_y b + d)) 9 p)) (some 0, w_many (vw b 9 p)) rfl (n + 1)
              have e5 : s_next b p (nI n) ww = s_best (w_fst (fun d => w_many (vw (b_yr b (b_y b + d)) 9 p)) (some 0, w_many (vw b 9 p)) (n + 1)) ww := by rcases hw2 with rfl | rfl <;> simp only [s_next, e3, show x_nat (nI 0) 2 = some 0 from rfl, show x_nat (nI 1) 2 = some 1 from rfl]
              rw [e5]
              generalize (w_fst (fun d => w_many (vw (b_yr b (b_y b + d)) 9 p)) (some 0, w_many (vw b 9 p)) (n + 1)) = z at hs ⊢
              obtain ⟨o, z⟩ := z
              obtain ⟨k, rfl⟩ := Option.isSome_iff_exists.mp hs
              rcases hw2 with rfl | rfl
              · refine v_iload_n (pc := 101) dX11_next_101 rfl rfl ?_
                refine v_if_neN (pc := 102) (tgt := 109) (by omega) dX11_next_102 (by decide) (fun c102 => ?_) (fun c102 => ?_)
                · refine v_iload (pc := 109) dX11_next_109 rfl ?_
                  exact v_iret (pc := 111) dX11_next_111 rfl rfl (Nat.le_of_ble_eq_true rfl) (Nat.le_of_ble_eq_true rfl) ⟨by first | omega | rfl, Ii, R1, rfl, hLb, hI, jb2⟩
                · refine v_iload_n (pc := 105) dX11_next_105 rfl rfl ?_
                  refine v_goto (pc := 106) (tgt := 111) dX11_next_106 (by decide) ?_
                  exact v_iret (pc := 111) dX11_next_111 rfl rfl (Nat.le_of_ble_eq_true rfl) (Nat.le_of_ble_eq_true rfl) ⟨by first | omega | rfl, Ii, R1, rfl, hLb, hI, jb2⟩
              · refine v_iload_n (pc := 101) dX11_next_101 rfl rfl ?_
                refine v_if_neN (pc := 102) (tgt := 109) (by omega) dX11_next_102 (by decide) (fun c102 => ?_) (fun c102 => ?_)
                · refine v_iload (pc := 109) dX11_next_109 rfl ?_
                  exact v_iret (pc := 111) dX11_next_111 rfl rfl (Nat.le_of_ble_eq_true rfl) (Nat.le_of_ble_eq_true rfl) ⟨by first | omega | rfl, Ii, R1, rfl, hLb, hI, jb2⟩
                · refine v_iload_n (pc := 105) dX11_next_105 rfl rfl ?_
                  refine v_goto (pc := 106) (tgt := 111) dX11_next_106 (by decide) ?_
                  exact v_iret (pc := 111) dX11_next_111 rfl rfl (Nat.le_of_ble_eq_true rfl) (Nat.le_of_ble_eq_true rfl) ⟨by first | omega | rfl, Ii, R1, rfl, hLb, hI, jb2⟩
            · refine v_aload_n (pc := 55) dX11_next_55 rfl rfl ?_
              refine v_getH (pc := 56) fg_X11_21_11 dX11_next_56 (li_0 hL) (lr_0_2 hL) ?_
              refine v_aload_n (pc := 59) dX11_next_59 rfl rfl ?_
              refine v_getH (pc := 60) fg_X11_12_11 dX11_next_60 (li_0 hL) (lr_0_0 hL) ?_
              refine v_getV (pc := 63) fg_X11_159_9 dX11_next_63 (li_1 hL) ((hI 1 2 (by unfold m_cr; omega)).trans hv.1.2.2.1) ?_
              refine v_iload (pc := 66) dX11_next_66 rfl ?_
              refine v_iaddN (pc := 68) dX11_next_68 ?_
              refine v_putI (pc := 69) pg_X11_159_9 (fun h => by cases h) dX11_next_69 (li_21 hL) rfl rfl ?_
              have hv5 : CV K (v_u Ii 21 2 (nI (b_y b + i))) R1 21 (b_yr b (b_y b + i)) hm p := CV_y (b := b_yr b y) (y := b_y b + i) hvi (Or.inr (Or.inr rfl)) (by omega)
              have hBy := hv5.2.1
              refine v_aload_n (pc := 72) dX11_next_72 rfl rfl ?_
              refine v_getH (pc := 73) fg_X11_21_11 dX11_next_73 (li_0 hL) (lr_0_2 hL) ?_
              refine v_ci (pc := 76) (v_rV (c_X9_howManyAmiss G l hLb (Or.inr (Or.inr rfl)) hv5) rfl kV_X11_168 (v_rcO (li_21 hL) rfl (by decide)) ⟨Nat.le_of_ble_eq_true rfl, Nat.le_of_ble_eq_true rfl⟩ ⟨Nat.le_of_ble_eq_true rfl, Nat.le_of_ble_eq_true rfl⟩ dX11_next_76 (Nat.le_of_ble_eq_true rfl)) (fun x76 M76 h76 => ?_)
              obtain ⟨rfl, I6, rfl, f6⟩ := h76
              have hv6 := CV_F hv5 (Or.inr (Or.inr rfl)) f6
              rw [ve_many (ve_now hBy (HF_n hf rfl))]
              have hI6 := cR_tr (cR_t hI) (cR_F2 f6)
              have hmt := w_many_lt hBy 9 p
              have hlt := w_fst_lt (fun d => w_many (vw (b_yr b (b_y b + d)) 9 p)) (some 0, w_many (vw b 9 p)) 100 (by have := w_many_lt hB 9 p; show w_many _ < 100; omega) i (fun k hk => by have := w_many_lt (b := b_yr b (b_y b + k)) ⟨hB.1, by show b_y b + k < 2000; omega, hB.2.2⟩ 9 p; show w_many _ < 100; omega)
              have ee : (w_fst (fun d => w_many (vw (b_yr b (b_y b + d)) 9 p)) (some 0, w_many (vw b 9 p)) (i + 1)) = if w_many (vw (b_yr b (b_y b + i)) 9 p) < (w_fst (fun d => w_many (vw (b_yr b (b_y b + d)) 9 p)) (some 0, w_many (vw b 9 p)) i).2 then (some i, w_many (vw (b_yr b (b_y b + i)) 9 p)) else (w_fst (fun d => w_many (vw (b_yr b (b_y b + d)) 9 p)) (some 0, w_many (vw b 9 p)) i) := rfl
              have goon := fun z => ih (i + 1) (by omega) (by omega) (by omega) I6 z (b_y b + i) hI6 (by omega) hv6
              rw [ee] at goon
              refine v_istore (pc := 79) dX11_next_79 (by decide) rfl ?_
              refine v_iload (pc := 81) dX11_next_81 rfl ?_
              refine v_iload (pc := 83) dX11_next_83 rfl ?_
              refine v_icmp_geN (pc := 85) (tgt := 95) ⟨by omega, by omega⟩ dX11_next_85 (by decide) (fun c85 => ?_) (fun c85 => ?_)
              · refine v_iincN (pc := 95) (b := 1) dX11_next_95 rfl (by decide) (by decide) rfl ?_
                refine v_goto (pc := 98) (tgt := 49) dX11_next_98 (by decide) ?_
                first
                  | (rw [if_pos (show w_many (vw (b_yr b (b_y b + i)) 9 p) < (w_fst (fun d => w_many (vw (b_yr b (b_y b + d)) 9 p)) (some 0, w_many (vw b 9 p)) i).2 by omega)] at goon; exact goon _)
                  | (rw [if_neg (show ¬ w_many (vw (b_yr b (b_y b + i)) 9 p) < (w_fst (fun d => w_many (vw (b_yr b (b_y b + d)) 9 p)) (some 0, w_many (vw b 9 p)) i).2 by omega)] at goon; exact goon _)
              · refine v_iload (pc := 88) dX11_next_88 rfl ?_
                refine v_istore_n (pc := 90) dX11_next_90 rfl (by decide) rfl ?_
                refine v_iload (pc := 91) dX11_next_91 rfl ?_
                refine v_istore (pc := 93) dX11_next_93 (by decide) rfl ?_
                refine v_iincN (pc := 95) (b := 1) dX11_next_95 rfl (by decide) (by decide) rfl ?_
                refine v_goto (pc := 98) (tgt := 49) dX11_next_98 (by decide) ?_
                first
                  | (rw [if_pos (show w_many (vw (b_yr b (b_y b + i)) 9 p) < (w_fst (fun d => w_many (vw (b_yr b (b_y b + d)) 9 p)) (some 0, w_many (vw b 9 p)) i).2 by omega)] at goon; exact goon _)
                  | (rw [if_neg (show ¬ w_many (vw (b_yr b (b_y b + i)) 9 p) < (w_fst (fun d => w_many (vw (b_yr b (b_y b + d)) 9 p)) (some 0, w_many (vw b 9 p)) i).2 by omega)] at goon; exact goon _)
          have e1 : (w_fst (fun d => w_many (vw (b_yr b (b_y b + d)) 9 p)) (some 0, w_many (vw b 9 p)) 1) = (some 0, w_many (vw b 9 p)) := if_neg (Nat.lt_irrefl _)
          have kk := key 1 (by omega) (by omega) I2 none (b_y b) j2 (by omega) hv2
          rw [e1] at kk
          exact kk
        · have e3 : x_nat nn 61 = none := x_nat_n (fun z => c18 (x_n61.mpr z).2)
          have e2 : x_nat ww 2 ≠ none := by rcases hw2 with rfl | rfl <;> decide
          refine v_bipush (pc := 21) (v := -2) dX11_next_21 (by decide) ?_
          exact v_iret (pc := 23) dX11_next_23 rfl rfl (Nat.le_of_ble_eq_true rfl) (Nat.le_of_ble_eq_true rfl) ⟨by first | (simp only [s_next, e2]; done) | (simp only [s_next, e3]; split <;> first | rfl | (exfalso; apply e2; assumption) | simp_all), I, R, rfl, hL, cR_rf, cRR_rf⟩
    · have e2 := x_n2 (Or.inr c6)
      refine v_iconst (pc := 9) (v := -1) dX11_next_9 (by decide) ?_
      exact v_iret (pc := 10) dX11_next_10 rfl rfl (Nat.le_of_ble_eq_true rfl) (Nat.le_of_ble_eq_true rfl) ⟨by first | (simp only [s_next, e2]; done) | (simp only [s_next, e3]; split <;> first | rfl | (exfalso; apply e2; assumption) | simp_all), I, R, rfl, hL, cR_rf, cRR_rf⟩
