/-! THE REFERENCE: the cheapest set, laid -/
abbrev rm_X12_layCheapest : Room := { frames := 8, cells := 0, slots := 0, locals := 190 }
set_option maxRecDepth 20000 in
theorem c_X12_layCheapest (G : v_G) (l : Launch) {K : Nat × v_TY} {I : Nat → Nat → Int32} {J : Nat → Nat → Int64} {R : Nat → Nat → Option Nat} (hL : Lay K R) {b : BS} {p : List (Nat × Nat × List Nat)} (h : MW I b 9 p) : v_M G l yX12_layCheapest cX12_layCheapest 4 none rm_X12_layCheapest [.ref 55] (K, I, J, R) (v_Qv G (fun (M' : v_MM) => ∃ I', M' = (K, I', J, R) ∧ MW I' b 9 p ∧ MCh I' (w_c3 b p (w_pr (b_n b)) (w_pr (b_n b))) ∧ mS I I')) := by
  have hn := VBn h.1
  have h15 := w_pr_lt (b_n b) (by omega)
  have hok := MP_ok h.2
  refine v_of [some (.ref 55), none, none, none] (by decide) (Nat.le_of_ble_eq_true rfl) (Nat.le_of_ble_eq_true rfl) rfl ?_
  have lp2 : ∀ i, i ≤ w_pr (b_n b) → ∀ (Ii : Nat → Nat → Int32) (z2 z3 : Option Value), MW Ii b 9 p → MCh Ii (w_c3 b p (w_pr (b_n b)) i) → mS I Ii → v_V G l yX12_layCheapest cX12_layCheapest 4 none rm_X12_layCheapest (v_Qv G (fun (M' : v_MM) => ∃ I', M' = (K, I', J, R) ∧ MW I' b 9 p ∧ MCh I' (w_c3 b p (w_pr (b_n b)) (w_pr (b_n b))) ∧ mS I I')) 0 0 63 [some (.ref 55), some (.int (nI i)), z2, z3] [] (K, Ii, J, R) := by
    refine v_down (w_pr (b_n b)) (fun i hi ih => ?_)
    intro Ii z2 z3 hw hc hs
    refine v_iload_n (pc := 63) dX12_layCheapest_63 rfl rfl ?_
    refine v_aload_n (pc := 64) dX12_layCheapest_64 rfl rfl ?_
    refine v_ci (pc := 65) (v_rV (c_X12_pairs G l hL (MVn hw.1) (by omega)) rfl kV_X12_201 (v_rcO (li_55 hL) rfl (by decide)) ⟨Nat.le_of_ble_eq_true rfl, Nat.le_of_ble_eq_true rfl⟩ ⟨Nat.le_of_ble_eq_true rfl, Nat.le_of_ble_eq_true rfl⟩ dX12_layCheapest_65 (Nat.le_of_ble_eq_true rfl)) (fun x65 M65 h65 => ?_)
    obtain ⟨rfl, rfl⟩ := h65
    refine v_icmp_geN (pc := 68) (tgt := 133) ⟨by omega, by omega⟩ dX12_layCheapest_68 (by decide) (fun c68 => ?_) (fun c68 => ?_)
    · have e : i = w_pr (b_n b) := by omega
      subst e
      exact v_vret (pc := 133) dX12_layCheapest_133 rfl (Nat.le_of_ble_eq_true rfl) (Nat.le_of_ble_eq_true rfl) ⟨Ii, rfl, hw, hc, hs⟩
    · refine v_iload_n (pc := 71) dX12_layCheapest_71 rfl rfl ?_
      refine v_iconst (pc := 72) (v := nI 1) dX12_layCheapest_72 (by decide) ?_
      refine v_iaddN (pc := 73) dX12_layCheapest_73 ?_
      refine v_istore_n (pc := 74) dX12_layCheapest_74 rfl (by decide) rfl ?_
      have inr : ∀ o, o ≤ w_pr (b_n b) → ∀ (Ij : Nat → Nat → Int32) (z3 : Option Value), i + 1 ≤ o → MW Ij b 9 p → MCh Ij (w_c2 b p i (w_c3 b p (w_pr (b_n b)) i) o) → mS I Ij → v_V G l yX12_layCheapest cX12_layCheapest 4 none rm_X12_layCheapest (v_Qv G (fun (M' : v_MM) => ∃ I', M' = (K, I', J, R) ∧ MW I' b 9 p ∧ MCh I' (w_c3 b p (w_pr (b_n b)) (w_pr (b_n b))) ∧ mS I I')) 0 0 75 [some (.ref 55), some (.int (nI i)), some (.int (nI o)), z3] [] (K, Ij, J, R) := by
        refine v_down (w_pr (b_n b)) (fun o ho ih2 => ?_)
        intro Ij z3 hio hw hc hs
        refine v_iload_n (pc := 75) dX12_layCheapest_75 rfl rfl ?_
        refine v_aload_n (pc := 76) dX12_layCheapest_76 rfl rfl ?_
        refine v_ci (pc := 77) (v_rV (c_X12_pairs G l hL (MVn hw.1) (by omega)) rfl kV_X12_201 (v_rcO (li_55 hL) rfl (by decide)) ⟨Nat.le_of_ble_eq_true rfl, Nat.le_of_ble_eq_true rfl⟩ ⟨Nat.le_of_ble_eq_true rfl, Nat.le_of_ble_eq_true rfl⟩ dX12_layCheapest_77 (Nat.le_of_ble_eq_true rfl)) (fun x77 M77 h77 => ?_)
        obtain ⟨rfl, rfl⟩ := h77
        refine v_icmp_geN (pc := 80) (tgt := 127) ⟨by omega, by omega⟩ dX12_layCheapest_80 (by decide) (fun c80 => ?_) (fun c80 => ?_)
        · refine v_iincN (pc := 127) (b := 1) dX12_layCheapest_127 rfl (by decide) (by decide) rfl ?_
          refine v_goto (pc := 130) (tgt := 63) dX12_layCheapest_130 (by decide) ?_
          have e : o = w_pr (b_n b) := by omega
          subst e
          exact ih (i + 1) (by omega) (by omega) Ij _ _ hw hc hs
        · refine v_aload_n (pc := 83) dX12_layCheapest_83 rfl rfl ?_
          refine v_iload_n (pc := 84) dX12_layCheapest_84 rfl rfl ?_
          refine v_ci (pc := 85) (v_rV (c_X12_pricePair G l hL hw (by omega)) rfl kV_X12_332 (v_rcO (li_55 hL) rfl (by decide)) ⟨Nat.le_of_ble_eq_true rfl, Nat.le_of_ble_eq_true rfl⟩ ⟨Nat.le_of_ble_eq_true rfl, Nat.le_of_ble_eq_true rfl⟩ dX12_layCheapest_85 (Nat.le_of_ble_eq_true rfl)) (fun x85 M85 h85 => ?_)
          obtain ⟨rfl, I2, rfl, hm2⟩ := h85
          have hw2 := MW_J hw (mP_J hm2)
          have hc2 := MCh_J hc (mP_J hm2)
          have hp1 := w_prc_lt (b := b) hok i
          refine v_aload_n (pc := 88) dX12_layCheapest_88 rfl rfl ?_
          refine v_iload_n (pc := 89) dX12_layCheapest_89 rfl rfl ?_
          refine v_ci (pc := 90) (v_rV (c_X12_pricePair G l hL hw2 (by omega)) rfl kV_X12_332 (v_rcO (li_55 hL) rfl (by decide)) ⟨Nat.le_of_ble_eq_true rfl, Nat.le_of_ble_eq_true rfl⟩ ⟨Nat.le_of_ble_eq_true rfl, Nat.le_of_ble_eq_true rfl⟩ dX12_layCheapest_90 (Nat.le_of_ble_eq_true rfl)) (fun x90 M90 h90 => ?_)
          obtain ⟨rfl, I3, rfl, hm3⟩ := h90
          have hw3 := MW_J hw2 (mP_J hm3)
          have hc3 := MCh_J hc2 (mP_J hm3)
          have hs3 := mS_J (mS_J hs (mP_J hm2)) (mP_J hm3)
          have hp2 := w_prc_lt (b := b) hok o
          refine v_iaddN (pc := 93) dX12_layCheapest_93 ?_
          refine v_istore_n (pc := 94) dX12_layCheapest_94 rfl (by decide) rfl ?_
          refine v_aload_n (pc := 95) dX12_layCheapest_95 rfl rfl ?_
          refine v_iload_n (pc := 96) dX12_layCheapest_96 rfl rfl ?_
          refine v_cv (pc := 97) (v_rV (c_X12_turn G l hL (b := b) (k := i) (fun q hq => MVm hw3.1 hq) (by omega)) rfl kV_X12_322 (v_rcO (li_55 hL) rfl (by decide)) ⟨Nat.le_of_ble_eq_true rfl, Nat.le_of_ble_eq_true rfl⟩ ⟨Nat.le_of_ble_eq_true rfl, Nat.le_of_ble_eq_true rfl⟩ dX12_layCheapest_97 (Nat.le_of_ble_eq_true rfl)) (fun M97 h97 => ?_)
          obtain ⟨I4, rfl, m4⟩ := h97
          have hvb := VB_fp h.1.2.1 (k := i) (by omega)
          have hw4 : MW I4 (b_fp b i) 9 p := MW_K hw3 m4 ⟨rfl, rfl, rfl, rfl, rfl⟩ hvb
          have hc4 := MCh_K hc3 m4
          have hs4 := mS_K hs3 m4
          refine v_aload_n (pc := 100) dX12_layCheapest_100 rfl rfl ?_
          refine v_iload_n (pc := 101) dX12_layCheapest_101 rfl rfl ?_
          refine v_ci (pc := 102) (v_rV (c_X12_amissBy G l hL hw4 (show o < w_pr (b_n (b_fp b i)) by show o < w_pr (b_n b); omega)) rfl kV_X12_325 (v_rcO (li_55 hL) rfl (by decide)) ⟨Nat.le_of_ble_eq_true rfl, Nat.le_of_ble_eq_true rfl⟩ ⟨Nat.le_of_ble_eq_true rfl, Nat.le_of_ble_eq_true rfl⟩ dX12_layCheapest_102 (Nat.le_of_ble_eq_true rfl)) (fun x102 M102 h102 => ?_)
          obtain ⟨rfl, I5, rfl, m5⟩ := h102
          have hw5 := MW_J hw4 m5
          have hc5 := MCh_J hc4 m5
          have hs5 := mS_J hs4 m5
          have h15m := w_many_lt (VB_fp hvb (k := o) (show o < w_pr (b_n b) by omega)) 9 p
          refine v_if_neN (pc := 105) (tgt := 116) (by omega) dX12_layCheapest_105 (by decide) (fun c105 => ?_) (fun c105 => ?_)
          · refine v_aload_n (pc := 116) dX12_layCheapest_116 rfl rfl ?_
            refine v_iload_n (pc := 117) dX12_layCheapest_117 rfl rfl ?_
            refine v_cv (pc := 118) (v_rV (c_X12_turn G l hL (b := b_fp b i) (k := i) (fun q hq => MVm (by first | exact hw6.1 | exact hw5.1) hq) (by omega)) rfl kV_X12_322 (v_rcO (li_55 hL) rfl (by decide)) ⟨Nat.le_of_ble_eq_true rfl, Nat.le_of_ble_eq_true rfl⟩ ⟨Nat.le_of_ble_eq_true rfl, Nat.le_of_ble_eq_true rfl⟩ dX12_layCheapest_118 (Nat.le_of_ble_eq_true rfl)) (fun M118 h118 => ?_)
            obtain ⟨I7, rfl, m7⟩ := h118
            have hil := w_g_in i (by omega)
            have m7 : mK _ I7 b := ⟨m7.1, fun q hq => (m7.2.1 q hq).trans (by rw [b_fp, b_fp, b_flip2 b (by omega)]), m7.2.2⟩
            refine v_iincN (pc := 121) (b := 1) dX12_layCheapest_121 rfl (by decide) (by decide) rfl ?_
            refine v_goto (pc := 124) (tgt := 75) dX12_layCheapest_124 (by decide) ?_
            first
              | exact ih2 (o + 1) (by omega) (by omega) I7 _ (by omega) (MW_K hw6 m7 ⟨rfl, rfl, rfl, rfl, rfl⟩ h.1.2.1) (MCh_K (show MCh I6 _ by rw [w_c2, if_pos (show i < o by omega), decide_eq_true (show w_tr (b_fp b i) p o = 0 from c105)]; exact hc6) m7) (mS_K hs6 m7)
              | exact ih2 (o + 1) (by omega) (by omega) I7 _ (by omega) (MW_K hw5 m7 ⟨rfl, rfl, rfl, rfl, rfl⟩ h.1.2.1) (MCh_K (show MCh I5 _ by rw [w_c2, if_pos (show i < o by omega), decide_eq_false (show ¬ w_tr (b_fp b i) p o = 0 from c105), tk_f]; exact hc5) m7) (mS_K hs5 m7)
          · refine v_aload_n (pc := 108) dX12_layCheapest_108 rfl rfl ?_
            refine v_iload_n (pc := 109) dX12_layCheapest_109 rfl rfl ?_
            refine v_iconst (pc := 110) (v := nI 2) dX12_layCheapest_110 (by decide) ?_
            refine v_iload_n (pc := 111) dX12_layCheapest_111 rfl rfl ?_
            refine v_iload_n (pc := 112) dX12_layCheapest_112 rfl rfl ?_
            refine v_cv (pc := 113) (v_rV (c_X12_take G l hL (c := w_prc b p i + w_prc b p o) hc5 (CB_2 hok (CB_3 hok _ i) o) ⟨by omega, by decide⟩) rfl kV_X12_328 (v_rcO (li_55 hL) rfl (by decide)) ⟨Nat.le_of_ble_eq_true rfl, Nat.le_of_ble_eq_true rfl⟩ ⟨Nat.le_of_ble_eq_true rfl, Nat.le_of_ble_eq_true rfl⟩ dX12_layCheapest_113 (Nat.le_of_ble_eq_true rfl)) (fun M113 h113 => ?_)
            obtain ⟨I6, rfl, hc6, mb6⟩ := h113
            have hw6 := MW_B hw5 mb6
            have hs6 := mS_B hs5 mb6
            refine v_aload_n (pc := 116) dX12_layCheapest_116 rfl rfl ?_
            refine v_iload_n (pc := 117) dX12_layCheapest_117 rfl rfl ?_
            refine v_cv (pc := 118) (v_rV (c_X12_turn G l hL (b := b_fp b i) (k := i) (fun q hq => MVm (by first | exact hw6.1 | exact hw5.1) hq) (by omega)) rfl kV_X12_322 (v_rcO (li_55 hL) rfl (by decide)) ⟨Nat.le_of_ble_eq_true rfl, Nat.le_of_ble_eq_true rfl⟩ ⟨Nat.le_of_ble_eq_true rfl, Nat.le_of_ble_eq_true rfl⟩ dX12_layCheapest_118 (Nat.le_of_ble_eq_true rfl)) (fun M118 h118 => ?_)
            obtain ⟨I7, rfl, m7⟩ := h118
            have hil := w_g_in i (by omega)
            have m7 : mK _ I7 b := ⟨m7.1, fun q hq => (m7.2.1 q hq).trans (by rw [b_fp, b_fp, b_flip2 b (by omega)]), m7.2.2⟩
            refine v_iincN (pc := 121) (b := 1) dX12_layCheapest_121 rfl (by decide) (by decide) rfl ?_
            refine v_goto (pc := 124) (tgt := 75) dX12_layCheapest_124 (by decide) ?_
            first
              | exact ih2 (o + 1) (by omega) (by omega) I7 _ (by omega) (MW_K hw6 m7 ⟨rfl, rfl, rfl, rfl, rfl⟩ h.1.2.1) (MCh_K (show MCh I6 _ by rw [w_c2, if_pos (show i < o by omega), decide_eq_true (show w_tr (b_fp b i) p o = 0 from c105)]; exact hc6) m7) (mS_K hs6 m7)
              | exact ih2 (o + 1) (by omega) (by omega) I7 _ (by omega) (MW_K hw5 m7 ⟨rfl, rfl, rfl, rfl, rfl⟩ h.1.2.1) (MCh_K (show MCh I5 _ by rw [w_c2, if_pos (show i < o by omega), decide_eq_false (show ¬ w_tr (b_fp b i) p o = 0 from c105), tk_f]; exact hc5) m7) (mS_K hs5 m7)
      exact inr (i + 1) (by omega) Ii _ (Nat.le_refl _) hw (by rw [w_c2_0 _ (Nat.le_refl _)]; exact hc) hs
  have lp1 : ∀ i, i ≤ w_pr (b_n b) → ∀ (Ii : Nat → Nat → Int32) (z2 z3 : Option Value), MW Ii b 9 p → MCh Ii (w_c1 b p i) → mS I Ii → v_V G l yX12_layCheapest cX12_layCheapest 4 none rm_X12_layCheapest (v_Qv G (fun (M' : v_MM) => ∃ I', M' = (K, I', J, R) ∧ MW I' b 9 p ∧ MCh I' (w_c3 b p (w_pr (b_n b)) (w_pr (b_n b))) ∧ mS I I')) 0 0 24 [some (.ref 55), some (.int (nI i)), z2, z3] [] (K, Ii, J, R) := by
    refine v_down (w_pr (b_n b)) (fun i hi ih => ?_)
    intro Ii z2 z3 hw hc hs
    refine v_iload_n (pc := 24) dX12_layCheapest_24 rfl rfl ?_
    refine v_aload_n (pc := 25) dX12_layCheapest_25 rfl rfl ?_
    refine v_ci (pc := 26) (v_rV (c_X12_pairs G l hL (MVn hw.1) (by omega)) rfl kV_X12_201 (v_rcO (li_55 hL) rfl (by decide)) ⟨Nat.le_of_ble_eq_true rfl, Nat.le_of_ble_eq_true rfl⟩ ⟨Nat.le_of_ble_eq_true rfl, Nat.le_of_ble_eq_true rfl⟩ dX12_layCheapest_26 (Nat.le_of_ble_eq_true rfl)) (fun x26 M26 h26 => ?_)
    obtain ⟨rfl, rfl⟩ := h26
    refine v_icmp_geN (pc := 29) (tgt := 61) ⟨by omega, by omega⟩ dX12_layCheapest_29 (by decide) (fun c29 => ?_) (fun c29 => ?_)
    · refine v_iconst (pc := 61) (v := nI 0) dX12_layCheapest_61 (by decide) ?_
      refine v_istore_n (pc := 62) dX12_layCheapest_62 rfl (by decide) rfl ?_
      have e : i = w_pr (b_n b) := by omega
      subst e
      exact lp2 0 (by omega) Ii _ _ hw hc hs
    · refine v_aload_n (pc := 32) dX12_layCheapest_32 rfl rfl ?_
      refine v_iload_n (pc := 33) dX12_layCheapest_33 rfl rfl ?_
      refine v_ci (pc := 34) (v_rV (c_X12_pricePair G l hL hw (by omega)) rfl kV_X12_332 (v_rcO (li_55 hL) rfl (by decide)) ⟨Nat.le_of_ble_eq_true rfl, Nat.le_of_ble_eq_true rfl⟩ ⟨Nat.le_of_ble_eq_true rfl, Nat.le_of_ble_eq_true rfl⟩ dX12_layCheapest_34 (Nat.le_of_ble_eq_true rfl)) (fun x34 M34 h34 => ?_)
      obtain ⟨rfl, I2, rfl, hm2⟩ := h34
      have hw2 := MW_J hw (mP_J hm2)
      have hc2 := MCh_J hc (mP_J hm2)
      have hpl := w_prc_lt (b := b) hok i
      refine v_istore_n (pc := 37) dX12_layCheapest_37 rfl (by decide) rfl ?_
      refine v_aload_n (pc := 38) dX12_layCheapest_38 rfl rfl ?_
      refine v_iload_n (pc := 39) dX12_layCheapest_39 rfl rfl ?_
      refine v_ci (pc := 40) (v_rV (c_X12_amissBy G l hL hw2 (by omega)) rfl kV_X12_325 (v_rcO (li_55 hL) rfl (by decide)) ⟨Nat.le_of_ble_eq_true rfl, Nat.le_of_ble_eq_true rfl⟩ ⟨Nat.le_of_ble_eq_true rfl, Nat.le_of_ble_eq_true rfl⟩ dX12_layCheapest_40 (Nat.le_of_ble_eq_true rfl)) (fun x40 M40 h40 => ?_)
      obtain ⟨rfl, I3, rfl, m3⟩ := h40
      have hw3 := MW_J hw2 m3
      have hc3 := MCh_J hc2 m3
      have hs3 := mS_J (mS_J hs (mP_J hm2)) m3
      have h15m := w_many_lt (VB_fp h.1.2.1 (k := i) (by omega)) 9 p
      refine v_if_neN (pc := 43) (tgt := 55) (by omega) dX12_layCheapest_43 (by decide) (fun c43 => ?_) (fun c43 => ?_)
      · refine v_iincN (pc := 55) (b := 1) dX12_layCheapest_55 rfl (by decide) (by decide) rfl ?_
        refine v_goto (pc := 58) (tgt := 24) dX12_layCheapest_58 (by decide) ?_
        first
          | exact ih (i + 1) (by omega) (by omega) I4 _ _ (MW_B hw3 mb4) (by rw [w_c1, decide_eq_true (show w_tr b p i = 0 from c43)]; exact hc4) (mS_B hs3 mb4)
          | exact ih (i + 1) (by omega) (by omega) I3 _ _ hw3 (by rw [w_c1, decide_eq_false (show ¬ w_tr b p i = 0 from c43), tk_f]; exact hc3) hs3
      · refine v_aload_n (pc := 46) dX12_layCheapest_46 rfl rfl ?_
        refine v_iload_n (pc := 47) dX12_layCheapest_47 rfl rfl ?_
        refine v_iconst (pc := 48) (v := nI 1) dX12_layCheapest_48 (by decide) ?_
        refine v_iload_n (pc := 49) dX12_layCheapest_49 rfl rfl ?_
        refine v_bipush (pc := 50) (v := -5) dX12_layCheapest_50 (by decide) ?_
        refine v_cv (pc := 52) (v_rV (c_X12_take G l hL (c := w_prc b p i) hc3 (CB_1 hok i) ⟨by omega, by decide⟩) rfl kV_X12_328 (v_rcO (li_55 hL) rfl (by decide)) ⟨Nat.le_of_ble_eq_true rfl, Nat.le_of_ble_eq_true rfl⟩ ⟨Nat.le_of_ble_eq_true rfl, Nat.le_of_ble_eq_true rfl⟩ dX12_layCheapest_52 (Nat.le_of_ble_eq_true rfl)) (fun M52 h52 => ?_)
        obtain ⟨I4, rfl, hc4, mb4⟩ := h52
        refine v_iincN (pc := 55) (b := 1) dX12_layCheapest_55 rfl (by decide) (by decide) rfl ?_
        refine v_goto (pc := 58) (tgt := 24) dX12_layCheapest_58 (by decide) ?_
        first
          | exact ih (i + 1) (by omega) (by omega) I4 _ _ (MW_B hw3 mb4) (by rw [w_c1, decide_eq_true (show w_tr b p i = 0 from c43)]; exact hc4) (mS_B hs3 mb4)
          | exact ih (i + 1) (by omega) (by omega) I3 _ _ hw3 (by rw [w_c1, decide_eq_false (show ¬ w_tr b p i = 0 from c43), tk_f]; exact hc3) hs3
  refine v_aload_n (pc := 0) dX12_layCheapest_0 rfl rfl ?_
  refine v_iconst (pc := 1) (v := -1) dX12_layCheapest_1 (by decide) ?_
  refine v_putI (pc := 2) pg_X12_102_12 (fun h => by cases h) dX12_layCheapest_2 (li_55 hL) rfl rfl ?_
  have hw1 := MW_B h (mB_u (x := -1) mB_rf (Or.inr (Or.inl rfl)))
  have hc1 : MCh (v_u I 55 30 (-1)) none := v_u_same
  have hs1 : mS I (v_u I 55 30 (-1)) := mS_B mS_rf (mB_u mB_rf (Or.inr (Or.inl rfl)))
  refine v_aload_n (pc := 5) dX12_layCheapest_5 rfl rfl ?_
  refine v_ci (pc := 6) (v_rV (c_X12_layAmiss G l hL hw1) rfl kV_X12_307 (v_rcO (li_55 hL) rfl (by decide)) ⟨Nat.le_of_ble_eq_true rfl, Nat.le_of_ble_eq_true rfl⟩ ⟨Nat.le_of_ble_eq_true rfl, Nat.le_of_ble_eq_true rfl⟩ dX12_layCheapest_6 (Nat.le_of_ble_eq_true rfl)) (fun x6 M6 h6 => ?_)
  obtain ⟨rfl, I2, rfl, m2⟩ := h6
  have hw2 := MW_J hw1 m2.1
  have hc2 := MCh_J hc1 m2.1
  have hs2 := mS_J hs1 m2.1
  have h15m := w_many_lt h.1.2.1 9 p
  refine v_if_neN (pc := 9) (tgt := 22) (by omega) dX12_layCheapest_9 (by decide) (fun c9 => ?_) (fun c9 => ?_)
  · refine v_iconst (pc := 22) (v := nI 0) dX12_layCheapest_22 (by decide) ?_
    refine v_istore_n (pc := 23) dX12_layCheapest_23 rfl (by decide) rfl ?_
    first
      | exact lp1 0 (by omega) I3 _ _ (MW_B hw2 mb3) (by rw [w_c1, decide_eq_true c9]; exact hc3) (mS_B hs2 mb3)
      | exact lp1 0 (by omega) I2 _ _ hw2 (by rw [w_c1, decide_eq_false c9, tk_f]; exact hc2) hs2
  · refine v_aload_n (pc := 12) dX12_layCheapest_12 rfl rfl ?_
    refine v_iconst (pc := 13) (v := nI 0) dX12_layCheapest_13 (by decide) ?_
    refine v_iconst (pc := 14) (v := nI 0) dX12_layCheapest_14 (by decide) ?_
    refine v_bipush (pc := 15) (v := -5) dX12_layCheapest_15 (by decide) ?_
    refine v_bipush (pc := 17) (v := -5) dX12_layCheapest_17 (by decide) ?_
    refine v_cv (pc := 19) (v_rV (c_X12_take G l hL (z := none) hc2 (fun d hd => by cases hd) ⟨by decide, by decide⟩) rfl kV_X12_328 (v_rcO (li_55 hL) rfl (by decide)) ⟨Nat.le_of_ble_eq_true rfl, Nat.le_of_ble_eq_true rfl⟩ ⟨Nat.le_of_ble_eq_true rfl, Nat.le_of_ble_eq_true rfl⟩ dX12_layCheapest_19 (Nat.le_of_ble_eq_true rfl)) (fun M19 h19 => ?_)
    obtain ⟨I3, rfl, hc3, mb3⟩ := h19
    refine v_iconst (pc := 22) (v := nI 0) dX12_layCheapest_22 (by decide) ?_
    refine v_istore_n (pc := 23) dX12_layCheapest_23 rfl (by decide) rfl ?_
    first
      | exact lp1 0 (by omega) I3 _ _ (MW_B hw2 mb3) (by rw [w_c1, decide_eq_true c9]; exact hc3) (mS_B hs2 mb3)
      | exact lp1 0 (by omega) I2 _ _ hw2 (by rw [w_c1, decide_eq_false c9, tk_f]; exact hc2) hs2
abbrev rm_X12_cheapest : Room := { frames := 9, cells := 0, slots := 0, locals := 213 }
set_option maxRecDepth 20000 in
theorem c_X12_cheapest (G : v_G) (l : Launch) {K : Nat × v_TY} {I : Nat → Nat → Int32} {J : Nat → Nat → Int64} {R : Nat → Nat → Option Nat} (hL : Lay K R) {ww : Int32} {b : BS} {p : List (Nat × Nat × List Nat)} (h : MW I b 9 p) : v_M G l yX12_cheapest cX12_cheapest 2 (some .int) rm_X12_cheapest [.ref 55, .int ww] (K, I, J, R) (v_Qi G (fun (x : Int32) (M' : v_MM) => x = s_cheap b p ww ∧ ∃ I', M' = (K, I', J, R) ∧ MW I' b 9 p ∧ mS I I')) := by
  refine v_of [some (.ref 55), some (.int ww)] (by decide) (Nat.le_of_ble_eq_true rfl) (Nat.le_of_ble_eq_true rfl) rfl ?_
  refine v_aload_n (pc := 0) dX12_cheapest_0 rfl rfl ?_
  refine v_iload_n (pc := 1) dX12_cheapest_1 rfl rfl ?_
  refine v_iconst (pc := 2) (v := nI 0) dX12_cheapest_2 (by decide) ?_
  refine v_iconst (pc := 3) (v := nI 3) dX12_cheapest_3 (by decide) ?_
  refine v_ci (pc := 4) (v_rV (c_X12_in G l hL) rfl kV_X12_197 (v_rcO (li_55 hL) rfl (by decide)) ⟨Nat.le_of_ble_eq_true rfl, Nat.le_of_ble_eq_true rfl⟩ ⟨Nat.le_of_ble_eq_true rfl, Nat.le_of_ble_eq_true rfl⟩ dX12_cheapest_4 (Nat.le_of_ble_eq_true rfl)) (fun x4 M4 h4 => ?_)
  obtain ⟨rfl, rfl⟩ := h4
  refine v_if_neP (pc := 7) (tgt := 12) dX12_cheapest_7 (by decide) (fun c7 => ?_) (fun c7 => ?_)
  · have hw4 := (v_in_iff (m := 3) (by decide)).mp c7
    refine v_aload_n (pc := 12) dX12_cheapest_12 rfl rfl ?_
    refine v_cv (pc := 13) (v_rV (c_X12_layCheapest G l hL h) rfl kV_X12_335 (v_rcO (li_55 hL) rfl (by decide)) ⟨Nat.le_of_ble_eq_true rfl, Nat.le_of_ble_eq_true rfl⟩ ⟨Nat.le_of_ble_eq_true rfl, Nat.le_of_ble_eq_true rfl⟩ dX12_cheapest_13 (Nat.le_of_ble_eq_true rfl)) (fun M13 h13 => ?_)
    obtain ⟨I1, rfl, hw1, hc1, hs1⟩ := h13
    have hbd := CB_3 (b := b) (MP_ok h.2) (w_pr (b_n b)) (w_pr (b_n b))
    obtain ⟨k, hk, rfl, e2⟩ := x_nat_i hw4 (by decide)
    rcases ez : w_c3 b p (w_pr (b_n b)) (w_pr (b_n b)) with - | d <;> rw [ez] at hc1 hbd
    · have g2 : I1 55 30 = -1 := hc1
      refine v_aload_n (pc := 16) dX12_cheapest_16 rfl rfl ?_
      refine v_getV (pc := 17) fg_X12_102_12 dX12_cheapest_17 (li_55 hL) g2 ?_
      refine v_if_ge (pc := 20) (tgt := 26) dX12_cheapest_20 (by decide) (fun c20 => ?_) (fun c20 => ?_)
      · exact absurd c20 (show ¬ (0 : Int32) ≤ -1 by decide)
      · refine v_bipush (pc := 23) (v := -5) dX12_cheapest_23 (by decide) ?_
        exact v_iret (pc := 25) dX12_cheapest_25 rfl rfl (Nat.le_of_ble_eq_true rfl) (Nat.le_of_ble_eq_true rfl) ⟨by simp only [s_cheap, e2, ez], I1, rfl, hw1, hs1⟩
    · obtain ⟨g1, g2, g3, g4⟩ := hc1
      have hb := hbd d rfl
      refine v_aload_n (pc := 16) dX12_cheapest_16 rfl rfl ?_
      refine v_getV (pc := 17) fg_X12_102_12 dX12_cheapest_17 (li_55 hL) g2 ?_
      refine v_if_geN (pc := 20) (tgt := 26) (by omega) dX12_cheapest_20 (by decide) ?_
      rcases (show k = 0 ∨ k = 1 ∨ k = 2 ∨ k = 3 by omega) with rfl | rfl | rfl | rfl
      · have e2 : x_nat (nI 0) 4 = some 0 := rfl
        refine v_iload_n (pc := 26) dX12_cheapest_26 rfl rfl ?_
        refine v_if_neN (pc := 27) (tgt := 37) (by omega) dX12_cheapest_27 (by decide) (fun c27 => ?_) (fun c27 => ?_)
        · refine v_iload_n (pc := 37) dX12_cheapest_37 rfl rfl ?_
          refine v_iconst (pc := 38) (v := nI 1) dX12_cheapest_38 (by decide) ?_
          refine v_icmp_neN (pc := 39) (tgt := 49) ⟨by omega, by omega⟩ dX12_cheapest_39 (by decide) (fun c39 => ?_) (fun c39 => ?_)
          · refine v_iload_n (pc := 49) dX12_cheapest_49 rfl rfl ?_
            refine v_iconst (pc := 50) (v := nI 2) dX12_cheapest_50 (by decide) ?_
            refine v_icmp_neN (pc := 51) (tgt := 61) ⟨by omega, by omega⟩ dX12_cheapest_51 (by decide) (fun c51 => ?_) (fun c51 => ?_)
            · refine v_aload_n (pc := 61) dX12_cheapest_61 rfl rfl ?_
              refine v_getV (pc := 62) fg_X12_108_12 dX12_cheapest_62 (li_55 hL) g4 ?_
              exact v_iret (pc := 65) dX12_cheapest_65 rfl rfl (Nat.le_of_ble_eq_true rfl) (Nat.le_of_ble_eq_true rfl) (by first | omega | exact ⟨by simp only [s_cheap, e2, ez], I1, rfl, hw1, hs1⟩)
            · refine v_aload_n (pc := 54) dX12_cheapest_54 rfl rfl ?_
              refine v_getV (pc := 55) fg_X12_105_12 dX12_cheapest_55 (li_55 hL) g3 ?_
              refine v_goto (pc := 58) (tgt := 65) dX12_cheapest_58 (by decide) ?_
              exact v_iret (pc := 65) dX12_cheapest_65 rfl rfl (Nat.le_of_ble_eq_true rfl) (Nat.le_of_ble_eq_true rfl) (by first | omega | exact ⟨by simp only [s_cheap, e2, ez], I1, rfl, hw1, hs1⟩)
          · refine v_aload_n (pc := 42) dX12_cheapest_42 rfl rfl ?_
            refine v_getV (pc := 43) fg_X12_102_12 dX12_cheapest_43 (li_55 hL) g2 ?_
            refine v_goto (pc := 46) (tgt := 65) dX12_cheapest_46 (by decide) ?_
            exact v_iret (pc := 65) dX12_cheapest_65 rfl rfl (Nat.le_of_ble_eq_true rfl) (Nat.le_of_ble_eq_true rfl) (by first | omega | exact ⟨by simp only [s_cheap, e2, ez], I1, rfl, hw1, hs1⟩)
        · refine v_aload_n (pc := 30) dX12_cheapest_30 rfl rfl ?_
          refine v_getV (pc := 31) fg_X12_99_12 dX12_cheapest_31 (li_55 hL) g1 ?_
          refine v_goto (pc := 34) (tgt := 65) dX12_cheapest_34 (by decide) ?_
          exact v_iret (pc := 65) dX12_cheapest_65 rfl rfl (Nat.le_of_ble_eq_true rfl) (Nat.le_of_ble_eq_true rfl) (by first | omega | exact ⟨by simp only [s_cheap, e2, ez], I1, rfl, hw1, hs1⟩)
      · have e2 : x_nat (nI 1) 4 = some 1 := rfl
        refine v_iload_n (pc := 26) dX12_cheapest_26 rfl rfl ?_
        refine v_if_neN (pc := 27) (tgt := 37) (by omega) dX12_cheapest_27 (by decide) (fun c27 => ?_) (fun c27 => ?_)
        · refine v_iload_n (pc := 37) dX12_cheapest_37 rfl rfl ?_
          refine v_iconst (pc := 38) (v := nI 1) dX12_cheapest_38 (by decide) ?_
          refine v_icmp_neN (pc := 39) (tgt := 49) ⟨by omega, by omega⟩ dX12_cheapest_39 (by decide) (fun c39 => ?_) (fun c39 => ?_)
          · refine v_iload_n (pc := 49) dX12_cheapest_49 rfl rfl ?_
            refine v_iconst (pc := 50) (v := nI 2) dX12_cheapest_50 (by decide) ?_
            refine v_icmp_neN (pc := 51) (tgt := 61) ⟨by omega, by omega⟩ dX12_cheapest_51 (by decide) (fun c51 => ?_) (fun c51 => ?_)
            · refine v_aload_n (pc := 61) dX12_cheapest_61 rfl rfl ?_
              refine v_getV (pc := 62) fg_X12_108_12 dX12_cheapest_62 (li_55 hL) g4 ?_
              exact v_iret (pc := 65) dX12_cheapest_65 rfl rfl (Nat.le_of_ble_eq_true rfl) (Nat.le_of_ble_eq_true rfl) (by first | omega | exact ⟨by simp only [s_cheap, e2, ez], I1, rfl, hw1, hs1⟩)
            · refine v_aload_n (pc := 54) dX12_cheapest_54 rfl rfl ?_
              refine v_getV (pc := 55) fg_X12_105_12 dX12_cheapest_55 (li_55 hL) g3 ?_
              refine v_goto (pc := 58) (tgt := 65) dX12_cheapest_58 (by decide) ?_
              exact v_iret (pc := 65) dX12_cheapest_65 rfl rfl (Nat.le_of_ble_eq_true rfl) (Nat.le_of_ble_eq_true rfl) (by first | omega | exact ⟨by simp only [s_cheap, e2, ez], I1, rfl, hw1, hs1⟩)
          · refine v_aload_n (pc := 42) dX12_cheapest_42 rfl rfl ?_
            refine v_getV (pc := 43) fg_X12_102_12 dX12_cheapest_43 (li_55 hL) g2 ?_
            refine v_goto (pc := 46) (tgt := 65) dX12_cheapest_46 (by decide) ?_
            exact v_iret (pc := 65) dX12_cheapest_65 rfl rfl (Nat.le_of_ble_eq_true rfl) (Nat.le_of_ble_eq_true rfl) (by first | omega | exact ⟨by simp only [s_cheap, e2, ez], I1, rfl, hw1, hs1⟩)
        · refine v_aload_n (pc := 30) dX12_cheapest_30 rfl rfl ?_
          refine v_getV (pc := 31) fg_X12_99_12 dX12_cheapest_31 (li_55 hL) g1 ?_
          refine v_goto (pc := 34) (tgt := 65) dX12_cheapest_34 (by decide) ?_
          exact v_iret (pc := 65) dX12_cheapest_65 rfl rfl (Nat.le_of_ble_eq_true rfl) (Nat.le_of_ble_eq_true rfl) (by first | omega | exact ⟨by simp only [s_cheap, e2, ez], I1, rfl, hw1, hs1⟩)
      · have e2 : x_nat (nI 2) 4 = some 2 := rfl
        refine v_iload_n (pc := 26) dX12_cheapest_26 rfl rfl ?_
        refine v_if_neN (pc := 27) (tgt := 37) (by omega) dX12_cheapest_27 (by decide) (fun c27 => ?_) (fun c27 => ?_)
        · refine v_iload_n (pc := 37) dX12_cheapest_37 rfl rfl ?_
          refine v_iconst (pc := 38) (v := nI 1) dX12_cheapest_38 (by decide) ?_
          refine v_icmp_neN (pc := 39) (tgt := 49) ⟨by omega, by omega⟩ dX12_cheapest_39 (by decide) (fun c39 => ?_) (fun c39 => ?_)
          · refine v_iload_n (pc := 49) dX12_cheapest_49 rfl rfl ?_
            refine v_iconst (pc := 50) (v := nI 2) dX12_cheapest_50 (by decide) ?_
            refine v_icmp_neN (pc := 51) (tgt := 61) ⟨by omega, by omega⟩ dX12_cheapest_51 (by decide) (fun c51 => ?_) (fun c51 => ?_)
            · refine v_aload_n (pc := 61) dX12_cheapest_61 rfl rfl ?_
              refine v_getV (pc := 62) fg_X12_108_12 dX12_cheapest_62 (li_55 hL) g4 ?_
              exact v_iret (pc := 65) dX12_cheapest_65 rfl rfl (Nat.le_of_ble_eq_true rfl) (Nat.le_of_ble_eq_true rfl) (by first | omega | exact ⟨by simp only [s_cheap, e2, ez], I1, rfl, hw1, hs1⟩)
            · refine v_aload_n (pc := 54) dX12_cheapest_54 rfl rfl ?_
              refine v_getV (pc := 55) fg_X12_105_12 dX12_cheapest_55 (li_55 hL) g3 ?_
              refine v_goto (pc := 58) (tgt := 65) dX12_cheapest_58 (by decide) ?_
              exact v_iret (pc := 65) dX12_cheapest_65 rfl rfl (Nat.le_of_ble_eq_true rfl) (Nat.le_of_ble_eq_true rfl) (by first | omega | exact ⟨by simp only [s_cheap, e2, ez], I1, rfl, hw1, hs1⟩)
          · refine v_aload_n (pc := 42) dX12_cheapest_42 rfl rfl ?_
            refine v_getV (pc := 43) fg_X12_102_12 dX12_cheapest_43 (li_55 hL) g2 ?_
            refine v_goto (pc := 46) (tgt := 65) dX12_cheapest_46 (by decide) ?_
            exact v_iret (pc := 65) dX12_cheapest_65 rfl rfl (Nat.le_of_ble_eq_true rfl) (Nat.le_of_ble_eq_true rfl) (by first | omega | exact ⟨by simp only [s_cheap, e2, ez], I1, rfl, hw1, hs1⟩)
        · refine v_aload_n (pc := 30) dX12_cheapest_30 rfl rfl ?_
          refine v_getV (pc := 31) fg_X12_99_12 dX12_cheapest_31 (li_55 hL) g1 ?_
          refine v_goto (pc := 34) (tgt := 65) dX12_cheapest_34 (by decide) ?_
          exact v_iret (pc := 65) dX12_cheapest_65 rfl rfl (Nat.le_of_ble_eq_true rfl) (Nat.le_of_ble_eq_true rfl) (by first | omega | exact ⟨by simp only [s_cheap, e2, ez], I1, rfl, hw1, hs1⟩)
      · have e2 : x_nat (nI 3) 4 = some 3 := rfl
        refine v_iload_n (pc := 26) dX12_cheapest_26 rfl rfl ?_
        refine v_if_neN (pc := 27) (tgt := 37) (by omega) dX12_cheapest_27 (by decide) (fun c27 => ?_) (fun c27 => ?_)
        · refine v_iload_n (pc := 37) dX12_cheapest_37 rfl rfl ?_
          refine v_iconst (pc := 38) (v := nI 1) dX12_cheapest_38 (by decide) ?_
          refine v_icmp_neN (pc := 39) (tgt := 49) ⟨by omega, by omega⟩ dX12_cheapest_39 (by decide) (fun c39 => ?_) (fun c39 => ?_)
          · refine v_iload_n (pc := 49) dX12_cheapest_49 rfl rfl ?_
            refine v_iconst (pc := 50) (v := nI 2) dX12_cheapest_50 (by decide) ?_
            refine v_icmp_neN (pc := 51) (tgt := 61) ⟨by omega, by omega⟩ dX12_cheapest_51 (by decide) (fun c51 => ?_) (fun c51 => ?_)
            · refine v_aload_n (pc := 61) dX12_cheapest_61 rfl rfl ?_
              refine v_getV (pc := 62) fg_X12_108_12 dX12_cheapest_62 (li_55 hL) g4 ?_
              exact v_iret (pc := 65) dX12_cheapest_65 rfl rfl (Nat.le_of_ble_eq_true rfl) (Nat.le_of_ble_eq_true rfl) (by first | omega | exact ⟨by simp only [s_cheap, e2, ez], I1, rfl, hw1, hs1⟩)
            · refine v_aload_n (pc := 54) dX12_cheapest_54 rfl rfl ?_
              refine v_getV (pc := 55) fg_X12_105_12 dX12_cheapest_55 (li_55 hL) g3 ?_
              refine v_goto (pc := 58) (tgt := 65) dX12_cheapest_58 (by decide) ?_
              exact v_iret (pc := 65) dX12_cheapest_65 rfl rfl (Nat.le_of_ble_eq_true rfl) (Nat.le_of_ble_eq_true rfl) (by first | omega | exact ⟨by simp only [s_cheap, e2, ez], I1, rfl, hw1, hs1⟩)
          · refine v_aload_n (pc := 42) dX12_cheapest_42 rfl rfl ?_
            refine v_getV (pc := 43) fg_X12_102_12 dX12_cheapest_43 (li_55 hL) g2 ?_
            refine v_goto (pc := 46) (tgt := 65) dX12_cheapest_46 (by decide) ?_
            exact v_iret (pc := 65) dX12_cheapest_65 rfl rfl (Nat.le_of_ble_eq_true rfl) (Nat.le_of_ble_eq_true rfl) (by first | omega | exact ⟨by simp only [s_cheap, e2, ez], I1, rfl, hw1, hs1⟩)
        · refine v_aload_n (pc := 30) dX12_cheapest_30 rfl rfl ?_
          refine v_getV (pc := 31) fg_X12_99_12 dX12_cheapest_31 (li_55 hL) g1 ?_
          refine v_goto (pc := 34) (tgt := 65) dX12_cheapest_34 (by decide) ?_
          exact v_iret (pc := 65) dX12_cheapest_65 rfl rfl (Nat.le_of_ble_eq_true rfl) (Nat.le_of_ble_eq_true rfl) (by first | omega | exact ⟨by simp only [s_cheap, e2, ez], I1, rfl, hw1, hs1⟩)
  · have e2 : x_nat ww 4 = none := x_nat_n (fun q => c7 ((v_in_iff (m := 3) (by decide)).mpr q))
    refine v_iconst (pc := 10) (v := -1) dX12_cheapest_10 (by decide) ?_
    exact v_iret (pc := 11) dX12_cheapest_11 rfl rfl (Nat.le_of_ble_eq_true rfl) (Nat.le_of_ble_eq_true rfl) ⟨by simp only [s_cheap, e2], I, rfl, h, mS_rf⟩
