/-! THE REFERENCE: who counts how much, what two have in common -/
abbrev rm_X12_manyOf : Room := { frames := 1, cells := 0, slots := 0, locals := 23 }
set_option maxRecDepth 20000 in
theorem c_X12_manyOf (G : v_G) (l : Launch) {K : Nat × v_TY} {I : Nat → Nat → Int32} {J : Nat → Nat → Int64} {R : Nat → Nat → Option Nat} (hL : Lay K R) {p : Nat} {b : BS} {g : Nat} {q : List (Nat × Nat × List Nat)} (h : MV I b g) (hp : p < 7) (hpg : p ≠ g) : v_M G l yX12_manyOf cX12_manyOf 2 (some .int) rm_X12_manyOf [.ref 55, .int (nI p)] (K, I, J, R) (v_Qi G (fun (x : Int32) (M' : v_MM) => x = nI (w_deg (vw b g q) p) ∧ M' = (K, I, J, R))) := by
  refine v_of [some (.ref 55), some (.int (nI p))] (by decide) (Nat.le_of_ble_eq_true rfl) (Nat.le_of_ble_eq_true rfl) rfl ?_
  have hm := VBm h p
  rcases h.2.2 with ⟨hg, hg2⟩ | ⟨hg, hg2⟩
  · refine v_aload_n (pc := 0) dX12_manyOf_0 rfl rfl ?_
    refine v_aload_n (pc := 1) dX12_manyOf_1 rfl rfl ?_
    refine v_getV (pc := 2) fg_X12_16_12 dX12_manyOf_2 (li_55 hL) hg2 ?_
    refine v_if_geN (pc := 5) (tgt := 17) (by omega) dX12_manyOf_5 (by decide) ?_
    refine v_aload_n (pc := 17) dX12_manyOf_17 rfl rfl ?_
    refine v_getH (pc := 18) fg_X12_26_12 dX12_manyOf_18 (li_55 hL) (lr_55_5 hL) ?_
    refine v_iload_n (pc := 21) dX12_manyOf_21 rfl rfl ?_
    refine v_ialoadN (pc := 22) dX12_manyOf_22 (li_58 hL) ⟨by omega, by omega⟩ (MVm h hp) ?_
    refine v_iconst (pc := 23) (v := nI 1) dX12_manyOf_23 (by decide) ?_
    refine v_aload_n (pc := 24) dX12_manyOf_24 rfl rfl ?_
    refine v_getV (pc := 25) fg_X12_16_12 dX12_manyOf_25 (li_55 hL) hg2 ?_
    refine v_ishl (pc := 28) dX12_manyOf_28 ?_
    refine v_top (v_shl1 g (by omega)) ?_
    refine v_iconst (pc := 29) (v := -1) dX12_manyOf_29 (by decide) ?_
    refine v_ixor (pc := 30) dX12_manyOf_30 ?_
    refine v_iand (pc := 31) dX12_manyOf_31 ?_
    refine v_top (w_clr _ (by omega) g hg) ?_
    refine v_ci (pc := 32) (v_rV (c_X12_ones G l hL (Nat.lt_of_le_of_lt Nat.and_le_left (by omega))) rfl kV_X12_273 (v_rcO (li_55 hL) rfl (by decide)) ⟨Nat.le_of_ble_eq_true rfl, Nat.le_of_ble_eq_true rfl⟩ ⟨Nat.le_of_ble_eq_true rfl, Nat.le_of_ble_eq_true rfl⟩ dX12_manyOf_32 (Nat.le_of_ble_eq_true rfl)) (fun x32 M32 h32 => ?_)
    obtain ⟨rfl, rfl⟩ := h32
    exact v_iret (pc := 35) dX12_manyOf_35 rfl rfl (Nat.le_of_ble_eq_true rfl) (Nat.le_of_ble_eq_true rfl) ⟨by rw [w_deg]; congr 1; exact cnt_c (fun i hi => by rw [Nat.testBit_and, w_cm g hg i hi]; simp [vw_a, hpg]), rfl⟩
  · refine v_aload_n (pc := 0) dX12_manyOf_0 rfl rfl ?_
    refine v_aload_n (pc := 1) dX12_manyOf_1 rfl rfl ?_
    refine v_getV (pc := 2) fg_X12_16_12 dX12_manyOf_2 (li_55 hL) hg2 ?_
    refine v_if_ge (pc := 5) (tgt := 17) dX12_manyOf_5 (by decide) (fun c5 => ?_) (fun c5 => ?_)
    · exact absurd c5 (by decide)
    · refine v_aload_n (pc := 8) dX12_manyOf_8 rfl rfl ?_
      refine v_getH (pc := 9) fg_X12_26_12 dX12_manyOf_9 (li_55 hL) (lr_55_5 hL) ?_
      refine v_iload_n (pc := 12) dX12_manyOf_12 rfl rfl ?_
      refine v_ialoadN (pc := 13) dX12_manyOf_13 (li_58 hL) ⟨by omega, by omega⟩ (MVm h hp) ?_
      refine v_goto (pc := 14) (tgt := 32) dX12_manyOf_14 (by decide) ?_
      refine v_ci (pc := 32) (v_rV (c_X12_ones G l hL (by omega)) rfl kV_X12_273 (v_rcO (li_55 hL) rfl (by decide)) ⟨Nat.le_of_ble_eq_true rfl, Nat.le_of_ble_eq_true rfl⟩ ⟨Nat.le_of_ble_eq_true rfl, Nat.le_of_ble_eq_true rfl⟩ dX12_manyOf_32 (Nat.le_of_ble_eq_true rfl)) (fun x32 M32 h32 => ?_)
      obtain ⟨rfl, rfl⟩ := h32
      exact v_iret (pc := 35) dX12_manyOf_35 rfl rfl (Nat.le_of_ble_eq_true rfl) (Nat.le_of_ble_eq_true rfl) ⟨by rw [w_deg]; congr 1; exact cnt_c (fun i hi => by simp [vw_a, show i ≠ g by omega, hpg]), rfl⟩
abbrev rm_X12_isAlls : Room := { frames := 1, cells := 0, slots := 0, locals := 22 }
set_option maxRecDepth 20000 in
theorem c_X12_isAlls (G : v_G) (l : Launch) {K : Nat × v_TY} {I : Nat → Nat → Int32} {J : Nat → Nat → Int64} {R : Nat → Nat → Option Nat} (hL : Lay K R) {p : Nat} {b : BS} {g : Nat} {q : List (Nat × Nat × List Nat)} (h : MV I b g) (hp : p < 7) (hpg : p ≠ g) : v_M G l yX12_isAlls cX12_isAlls 3 (some .boolean) rm_X12_isAlls [.ref 55, .int (nI p)] (K, I, J, R) (v_Qi G (fun (x : Int32) (M' : v_MM) => x = v_p (w_all (vw b g q) p = true) ∧ M' = (K, I, J, R))) := by
  refine v_of [some (.ref 55), some (.int (nI p)), none] (by decide) (Nat.le_of_ble_eq_true rfl) (Nat.le_of_ble_eq_true rfl) rfl ?_
  refine v_iconst (pc := 0) (v := nI 0) dX12_isAlls_0 (by decide) ?_
  refine v_istore_n (pc := 1) dX12_isAlls_1 rfl (by decide) rfl ?_
  have hn := VBn h
  refine v_down (b_n b) (P := fun i => al (fun o => decide (o = p) || !w_h (vw b g q) o || w_a (vw b g q) p o) i = true → v_V G l yX12_isAlls cX12_isAlls 3 (some .boolean) rm_X12_isAlls (v_Qi G (fun (x : Int32) (M' : v_MM) => x = v_p (w_all (vw b g q) p = true) ∧ M' = (K, I, J, R))) 0 0 2 [some (.ref 55), some (.int (nI p)), some (.int (nI i))] [] (K, I, J, R)) (fun i hi ih => ?_) 0 (by omega) rfl
  intro ha
  refine v_iload_n (pc := 2) dX12_isAlls_2 rfl rfl ?_
  refine v_aload_n (pc := 3) dX12_isAlls_3 rfl rfl ?_
  refine v_getV (pc := 4) fg_X12_7_12 dX12_isAlls_4 (li_55 hL) (MVn h) ?_
  refine v_icmp_geN (pc := 7) (tgt := 45) ⟨by omega, by omega⟩ dX12_isAlls_7 (by decide) (fun c7 => ?_) (fun c7 => ?_)
  · refine v_iconst (pc := 45) (v := nI 1) dX12_isAlls_45 (by decide) ?_
    exact v_iret (pc := 46) dX12_isAlls_46 rfl rfl (Nat.le_of_ble_eq_true rfl) (Nat.le_of_ble_eq_true rfl) ⟨by first | exact v_pz (fun z => absurd ((al_f (n := b_n b) hs c7).symm.trans z) (by decide)) | exact v_po (by rw [show i = b_n b by omega] at ha; exact ha), rfl⟩
  · refine v_iload_n (pc := 10) dX12_isAlls_10 rfl rfl ?_
    refine v_iload_n (pc := 11) dX12_isAlls_11 rfl rfl ?_
    refine v_icmp_eqN (pc := 12) (tgt := 39) ⟨by omega, by omega⟩ dX12_isAlls_12 (by decide) (fun c12 => ?_) (fun c12 => ?_)
    · have hs : (fun o => decide (o = p) || !w_h (vw b g q) o || w_a (vw b g q) p o) i = true := by simp [c12]
      refine v_iincN (pc := 39) (b := 1) dX12_isAlls_39 rfl (by decide) (by decide) rfl ?_
      refine v_goto (pc := 42) (tgt := 2) dX12_isAlls_42 (by decide) ?_
      exact ih (i + 1) (by omega) (by omega) (by show (al _ i && _) = true; rw [ha, hs]; rfl)
    · refine v_iload_n (pc := 15) dX12_isAlls_15 rfl rfl ?_
      refine v_aload_n (pc := 16) dX12_isAlls_16 rfl rfl ?_
      refine v_getI (pc := 17) fg_X12_16_12 dX12_isAlls_17 (li_55 hL) ?_
      refine v_icmp_eq (pc := 20) (tgt := 39) dX12_isAlls_20 (by decide) (fun c20 => ?_) (fun c20 => ?_)
      · have c20 := (MGeq h.2.2 (show i < 7 by omega)).mp c20
        have hs : (fun o => decide (o = p) || !w_h (vw b g q) o || w_a (vw b g q) p o) i = true := by simp [vw_h, c20]
        refine v_iincN (pc := 39) (b := 1) dX12_isAlls_39 rfl (by decide) (by decide) rfl ?_
        refine v_goto (pc := 42) (tgt := 2) dX12_isAlls_42 (by decide) ?_
        exact ih (i + 1) (by omega) (by omega) (by show (al _ i && _) = true; rw [ha, hs]; rfl)
      · refine v_aload_n (pc := 23) dX12_isAlls_23 rfl rfl ?_
        refine v_aload_n (pc := 24) dX12_isAlls_24 rfl rfl ?_
        refine v_getH (pc := 25) fg_X12_26_12 dX12_isAlls_25 (li_55 hL) (lr_55_5 hL) ?_
        refine v_iload_n (pc := 28) dX12_isAlls_28 rfl rfl ?_
        refine v_ialoadN (pc := 29) dX12_isAlls_29 (li_58 hL) ⟨by omega, by omega⟩ (MVm h hp) ?_
        refine v_iload_n (pc := 30) dX12_isAlls_30 rfl rfl ?_
        refine v_ci (pc := 31) (v_rV (c_X12_has G l hL (by omega)) rfl kV_X12_217 (v_rcO (li_55 hL) rfl (by decide)) ⟨Nat.le_of_ble_eq_true rfl, Nat.le_of_ble_eq_true rfl⟩ ⟨Nat.le_of_ble_eq_true rfl, Nat.le_of_ble_eq_true rfl⟩ dX12_isAlls_31 (Nat.le_of_ble_eq_true rfl)) (fun x31 M31 h31 => ?_)
        obtain ⟨rfl, rfl⟩ := h31
        refine v_if_neP (pc := 34) (tgt := 39) dX12_isAlls_34 (by decide) (fun c34 => ?_) (fun c34 => ?_)
        · rw [w_bt (by omega)] at c34
          have c20 : i ≠ g := fun z => c20 ((MGeq h.2.2 (show i < 7 by omega)).mpr z)
          have hs : (fun o => decide (o = p) || !w_h (vw b g q) o || w_a (vw b g q) p o) i = true := by simp [vw_a, vw_h, c34, hpg, c20]
          refine v_iincN (pc := 39) (b := 1) dX12_isAlls_39 rfl (by decide) (by decide) rfl ?_
          refine v_goto (pc := 42) (tgt := 2) dX12_isAlls_42 (by decide) ?_
          exact ih (i + 1) (by omega) (by omega) (by show (al _ i && _) = true; rw [ha, hs]; rfl)
        · rw [w_bt (by omega)] at c34
          have c20 : i ≠ g := fun z => c20 ((MGeq h.2.2 (show i < 7 by omega)).mpr z)
          have hs : (fun o => decide (o = p) || !w_h (vw b g q) o || w_a (vw b g q) p o) i = false := by simp [vw_a, vw_h, c34, c12, c20]
          refine v_iconst (pc := 37) (v := nI 0) dX12_isAlls_37 (by decide) ?_
          exact v_iret (pc := 38) dX12_isAlls_38 rfl rfl (Nat.le_of_ble_eq_true rfl) (Nat.le_of_ble_eq_true rfl) ⟨by first | exact v_pz (fun z => absurd ((al_f (n := b_n b) hs c7).symm.trans z) (by decide)) | exact v_po (by rw [show i = b_n b by omega] at ha; exact ha), rfl⟩
abbrev rm_X12_counts : Room := { frames := 2, cells := 0, slots := 0, locals := 44 }
set_option maxRecDepth 20000 in
theorem c_X12_counts (G : v_G) (l : Launch) {K : Nat × v_TY} {I : Nat → Nat → Int32} {J : Nat → Nat → Int64} {R : Nat → Nat → Option Nat} (hL : Lay K R) {p a c : Nat} {b : BS} {g : Nat} {q : List (Nat × Nat × List Nat)} (h : MV I b g) (hp : p < 7 ∧ a < 7 ∧ c < 7) (hpg : p ≠ g ∧ a ≠ g ∧ c ≠ g) : v_M G l yX12_counts cX12_counts 5 (some .int) rm_X12_counts [.ref 55, .int (nI p), .int (nI a), .int (nI c)] (K, I, J, R) (v_Qi G (fun (x : Int32) (M' : v_MM) => x = nI (w_worth (vw b g q) p (w_a (vw b g q) a c)) ∧ M' = (K, I, J, R))) := by
  refine v_of [some (.ref 55), some (.int (nI p)), some (.int (nI a)), some (.int (nI c)), none] (by decide) (Nat.le_of_ble_eq_true rfl) (Nat.le_of_ble_eq_true rfl) rfl ?_
  have hy := VBy h
  have hv := VBv h p
  refine v_aload_n (pc := 0) dX12_counts_0 rfl rfl ?_
  refine v_aload_n (pc := 1) dX12_counts_1 rfl rfl ?_
  refine v_getH (pc := 2) fg_X12_26_12 dX12_counts_2 (li_55 hL) (lr_55_5 hL) ?_
  refine v_iload_n (pc := 5) dX12_counts_5 rfl rfl ?_
  refine v_ialoadN (pc := 6) dX12_counts_6 (li_58 hL) ⟨by omega, by omega⟩ (MVm h hp.2.1) ?_
  refine v_iload_n (pc := 7) dX12_counts_7 rfl rfl ?_
  refine v_ci (pc := 8) (v_rV (c_X12_has G l hL (by omega)) rfl kV_X12_217 (v_rcO (li_55 hL) rfl (by decide)) ⟨Nat.le_of_ble_eq_true rfl, Nat.le_of_ble_eq_true rfl⟩ ⟨Nat.le_of_ble_eq_true rfl, Nat.le_of_ble_eq_true rfl⟩ dX12_counts_8 (Nat.le_of_ble_eq_true rfl)) (fun x8 M8 h8 => ?_)
  obtain ⟨rfl, rfl⟩ := h8
  refine v_if_eqP (pc := 11) (tgt := 18) dX12_counts_11 (by decide) (fun c11 => ?_) (fun c11 => ?_)
  · rw [w_bt (by omega)] at c11
    have fr : w_a (vw b g q) a c = false := by simp [vw_a, c11]
    refine v_iconst (pc := 18) (v := nI 1) dX12_counts_18 (by decide) ?_
    refine v_istore (pc := 19) dX12_counts_19 (by decide) rfl ?_
    refine v_aload_n (pc := 21) dX12_counts_21 rfl rfl ?_
    refine v_getH (pc := 22) fg_X12_19_12 dX12_counts_22 (li_55 hL) (lr_55_3 hL) ?_
    refine v_iload_n (pc := 25) dX12_counts_25 rfl rfl ?_
    refine v_ialoadN (pc := 26) dX12_counts_26 (li_56 hL) ⟨by omega, by omega⟩ (MVk h hp.1) ?_
    rcases (show b_k b p = 0 ∨ b_k b p = 1 ∨ b_k b p = 2 ∨ b_k b p = 3 ∨ b_k b p = 4 ∨ b_k b p = 5 ∨ b_k b p = 6 by have := VBk h p; omega) with k0 | k0 | k0 | k0 | k0 | k0 | k0
    · refine v_top (show nI (b_k b p) = nI 0 by rw [k0]) ?_
      refine v_tableOut (pc := 27) (tgt := 155) dX12_counts_27 (by decide) (by decide) ?_
      refine v_iconst (pc := 155) (v := nI 1) dX12_counts_155 (by decide) ?_
      exact v_iret (pc := 156) dX12_counts_156 rfl rfl (Nat.le_of_ble_eq_true rfl) (Nat.le_of_ble_eq_true rfl) ⟨by first | (simp_all [w_worth, vw_k, vw_v, vw_y, vw_r]; done) | (simp_all [w_worth, vw_k, vw_v, vw_y, vw_r]; rw [if_neg (by omega)]) | (simp_all [w_worth, vw_k, vw_v, vw_y, vw_r]; rw [if_pos (by omega)]), rfl⟩
    · refine v_top (show nI (b_k b p) = nI 1 by rw [k0]) ?_
      refine v_tableIn (pc := 27) (tgt := 64) dX12_counts_27 (by decide) (by decide) rfl (by decide) ?_
      refine v_iconst (pc := 64) (v := nI 1) dX12_counts_64 (by decide) ?_
      refine v_aload_n (pc := 65) dX12_counts_65 rfl rfl ?_
      refine v_getH (pc := 66) fg_X12_23_12 dX12_counts_66 (li_55 hL) (lr_55_4 hL) ?_
      refine v_iload_n (pc := 69) dX12_counts_69 rfl rfl ?_
      refine v_ialoadN (pc := 70) dX12_counts_70 (li_57 hL) ⟨by omega, by omega⟩ (MVv h hp.1) ?_
      refine v_iconst (pc := 71) (v := nI 2) dX12_counts_71 (by decide) ?_
      refine v_iremN (pc := 72) (by omega) (by omega) (by omega) dX12_counts_72 ?_
      refine v_iaddN (pc := 73) dX12_counts_73 ?_
      exact v_iret (pc := 74) dX12_counts_74 rfl rfl (Nat.le_of_ble_eq_true rfl) (Nat.le_of_ble_eq_true rfl) ⟨by first | (simp_all [w_worth, vw_k, vw_v, vw_y, vw_r]; done) | (simp_all [w_worth, vw_k, vw_v, vw_y, vw_r]; rw [if_neg (by omega)]) | (simp_all [w_worth, vw_k, vw_v, vw_y, vw_r]; rw [if_pos (by omega)]), rfl⟩
    · refine v_top (show nI (b_k b p) = nI 2 by rw [k0]) ?_
      refine v_tableIn (pc := 27) (tgt := 75) dX12_counts_27 (by decide) (by decide) rfl (by decide) ?_
      refine v_iload (pc := 75) dX12_counts_75 rfl ?_
      exact v_iret (pc := 77) dX12_counts_77 rfl rfl (Nat.le_of_ble_eq_true rfl) (Nat.le_of_ble_eq_true rfl) ⟨by first | (simp_all [w_worth, vw_k, vw_v, vw_y, vw_r]; done) | (simp_all [w_worth, vw_k, vw_v, vw_y, vw_r]; rw [if_neg (by omega)]) | (simp_all [w_worth, vw_k, vw_v, vw_y, vw_r]; rw [if_pos (by omega)]), rfl⟩
    · refine v_top (show nI (b_k b p) = nI 3 by rw [k0]) ?_
      refine v_tableIn (pc := 27) (tgt := 78) dX12_counts_27 (by decide) (by decide) rfl (by decide) ?_
      refine v_aload_n (pc := 78) dX12_counts_78 rfl rfl ?_
      refine v_getV (pc := 79) fg_X12_13_12 dX12_counts_79 (li_55 hL) (MVy h) ?_
      refine v_aload_n (pc := 82) dX12_counts_82 rfl rfl ?_
      refine v_getH (pc := 83) fg_X12_23_12 dX12_counts_83 (li_55 hL) (lr_55_4 hL) ?_
      refine v_iload_n (pc := 86) dX12_counts_86 rfl rfl ?_
      refine v_ialoadN (pc := 87) dX12_counts_87 (li_57 hL) ⟨by omega, by omega⟩ (MVv h hp.1) ?_
      refine v_iconst (pc := 88) (v := nI 2) dX12_counts_88 (by decide) ?_
      refine v_iaddN (pc := 89) dX12_counts_89 ?_
      refine v_iremN (pc := 90) (by omega) (by omega) (by omega) dX12_counts_90 ?_
      refine v_if_neN (pc := 91) (tgt := 98) (Nat.lt_of_le_of_lt (Nat.mod_le _ _) (by omega)) dX12_counts_91 (by decide) (fun c91 => ?_) (fun c91 => ?_)
      · refine v_iconst (pc := 98) (v := nI 1) dX12_counts_98 (by decide) ?_
        exact v_iret (pc := 99) dX12_counts_99 rfl rfl (Nat.le_of_ble_eq_true rfl) (Nat.le_of_ble_eq_true rfl) ⟨by first | (simp_all [w_worth, vw_k, vw_v, vw_y, vw_r]; done) | (simp_all [w_worth, vw_k, vw_v, vw_y, vw_r]; rw [if_neg (by omega)]) | (simp_all [w_worth, vw_k, vw_v, vw_y, vw_r]; rw [if_pos (by omega)]), rfl⟩
      · refine v_iconst (pc := 94) (v := nI 0) dX12_counts_94 (by decide) ?_
        refine v_goto (pc := 95) (tgt := 99) dX12_counts_95 (by decide) ?_
        exact v_iret (pc := 99) dX12_counts_99 rfl rfl (Nat.le_of_ble_eq_true rfl) (Nat.le_of_ble_eq_true rfl) ⟨by first | (simp_all [w_worth, vw_k, vw_v, vw_y, vw_r]; done) | (simp_all [w_worth, vw_k, vw_v, vw_y, vw_r]; rw [if_neg (by omega)]) | (simp_all [w_worth, vw_k, vw_v, vw_y, vw_r]; rw [if_pos (by omega)]), rfl⟩
    · refine v_top (show nI (b_k b p) = nI 4 by rw [k0]) ?_
      refine v_tableIn (pc := 27) (tgt := 100) dX12_counts_27 (by decide) (by decide) rfl (by decide) ?_
      refine v_aload_n (pc := 100) dX12_counts_100 rfl rfl ?_
      refine v_iload_n (pc := 101) dX12_counts_101 rfl rfl ?_
      refine v_ci (pc := 102) (v_rV (c_X12_isAlls G l hL (q := q) h (by omega) (by omega)) rfl kV_X12_295 (v_rcO (li_55 hL) rfl (by decide)) ⟨Nat.le_of_ble_eq_true rfl, Nat.le_of_ble_eq_true rfl⟩ ⟨Nat.le_of_ble_eq_true rfl, Nat.le_of_ble_eq_true rfl⟩ dX12_counts_102 (Nat.le_of_ble_eq_true rfl)) (fun x102 M102 h102 => ?_)
      obtain ⟨rfl, rfl⟩ := h102
      refine v_if_eqP (pc := 105) (tgt := 121) dX12_counts_105 (by decide) (fun c105 => ?_) (fun c105 => ?_)
      · refine v_iconst (pc := 121) (v := nI 0) dX12_counts_121 (by decide) ?_
        exact v_iret (pc := 122) dX12_counts_122 rfl rfl (Nat.le_of_ble_eq_true rfl) (Nat.le_of_ble_eq_true rfl) ⟨by first | (simp_all [w_worth, vw_k, vw_v, vw_y, vw_r]; done) | (simp_all [w_worth, vw_k, vw_v, vw_y, vw_r]; rw [if_neg (by omega)]) | (simp_all [w_worth, vw_k, vw_v, vw_y, vw_r]; rw [if_pos (by omega)]), rfl⟩
      · refine v_iconst (pc := 108) (v := nI 1) dX12_counts_108 (by decide) ?_
        refine v_aload_n (pc := 109) dX12_counts_109 rfl rfl ?_
        refine v_getH (pc := 110) fg_X12_23_12 dX12_counts_110 (li_55 hL) (lr_55_4 hL) ?_
        refine v_iload_n (pc := 113) dX12_counts_113 rfl rfl ?_
        refine v_ialoadN (pc := 114) dX12_counts_114 (li_57 hL) ⟨by omega, by omega⟩ (MVv h hp.1) ?_
        refine v_iconst (pc := 115) (v := nI 2) dX12_counts_115 (by decide) ?_
        refine v_iremN (pc := 116) (by omega) (by omega) (by omega) dX12_counts_116 ?_
        refine v_iaddN (pc := 117) dX12_counts_117 ?_
        refine v_goto (pc := 118) (tgt := 122) dX12_counts_118 (by decide) ?_
        exact v_iret (pc := 122) dX12_counts_122 rfl rfl (Nat.le_of_ble_eq_true rfl) (Nat.le_of_ble_eq_true rfl) ⟨by first | (simp_all [w_worth, vw_k, vw_v, vw_y, vw_r]; done) | (simp_all [w_worth, vw_k, vw_v, vw_y, vw_r]; rw [if_neg (by omega)]) | (simp_all [w_worth, vw_k, vw_v, vw_y, vw_r]; rw [if_pos (by omega)]), rfl⟩
    · refine v_top (show nI (b_k b p) = nI 5 by rw [k0]) ?_
      refine v_tableIn (pc := 27) (tgt := 123) dX12_counts_27 (by decide) (by decide) rfl (by decide) ?_
      refine v_aload_n (pc := 123) dX12_counts_123 rfl rfl ?_
      refine v_iload_n (pc := 124) dX12_counts_124 rfl rfl ?_
      refine v_ci (pc := 125) (v_rV (c_X12_manyOf G l hL (q := q) h (by omega) (by omega)) rfl kV_X12_276 (v_rcO (li_55 hL) rfl (by decide)) ⟨Nat.le_of_ble_eq_true rfl, Nat.le_of_ble_eq_true rfl⟩ ⟨Nat.le_of_ble_eq_true rfl, Nat.le_of_ble_eq_true rfl⟩ dX12_counts_125 (Nat.le_of_ble_eq_true rfl)) (fun x125 M125 h125 => ?_)
      obtain ⟨rfl, rfl⟩ := h125
      refine v_iconst (pc := 128) (v := nI 3) dX12_counts_128 (by decide) ?_
      refine v_icmp_leN (pc := 129) (tgt := 136) ⟨by have := w_deg_le (vw b g q) p; omega, by omega⟩ dX12_counts_129 (by decide) (fun c129 => ?_) (fun c129 => ?_)
      · refine v_iload (pc := 136) dX12_counts_136 rfl ?_
        exact v_iret (pc := 138) dX12_counts_138 rfl rfl (Nat.le_of_ble_eq_true rfl) (Nat.le_of_ble_eq_true rfl) ⟨by first | (simp_all [w_worth, vw_k, vw_v, vw_y, vw_r]; done) | (simp_all [w_worth, vw_k, vw_v, vw_y, vw_r]; rw [if_neg (by omega)]) | (simp_all [w_worth, vw_k, vw_v, vw_y, vw_r]; rw [if_pos (by omega)]), rfl⟩
      · refine v_iconst (pc := 132) (v := nI 0) dX12_counts_132 (by decide) ?_
        refine v_goto (pc := 133) (tgt := 138) dX12_counts_133 (by decide) ?_
        exact v_iret (pc := 138) dX12_counts_138 rfl rfl (Nat.le_of_ble_eq_true rfl) (Nat.le_of_ble_eq_true rfl) ⟨by first | (simp_all [w_worth, vw_k, vw_v, vw_y, vw_r]; done) | (simp_all [w_worth, vw_k, vw_v, vw_y, vw_r]; rw [if_neg (by omega)]) | (simp_all [w_worth, vw_k, vw_v, vw_y, vw_r]; rw [if_pos (by omega)]), rfl⟩
    · refine v_top (show nI (b_k b p) = nI 6 by rw [k0]) ?_
      refine v_tableIn (pc := 27) (tgt := 139) dX12_counts_27 (by decide) (by decide) rfl (by decide) ?_
      refine v_aload_n (pc := 139) dX12_counts_139 rfl rfl ?_
      refine v_getH (pc := 140) fg_X12_29_12 dX12_counts_140 (li_55 hL) (lr_55_6 hL) ?_
      refine v_iconst (pc := 143) (v := nI 4) dX12_counts_143 (by decide) ?_
      refine v_iload_n (pc := 144) dX12_counts_144 rfl rfl ?_
      refine v_imulN (pc := 145) dX12_counts_145 ?_
      refine v_aload_n (pc := 146) dX12_counts_146 rfl rfl ?_
      refine v_getV (pc := 147) fg_X12_13_12 dX12_counts_147 (li_55 hL) (MVy h) ?_
      refine v_iconst (pc := 150) (v := nI 4) dX12_counts_150 (by decide) ?_
      refine v_iremN (pc := 151) (by omega) (by omega) (by omega) dX12_counts_151 ?_
      refine v_iaddN (pc := 152) dX12_counts_152 ?_
      refine v_ialoadN (pc := 153) dX12_counts_153 (li_59 hL) ⟨by omega, by omega⟩ (MVr h (by omega)) ?_
      exact v_iret (pc := 154) dX12_counts_154 rfl rfl (Nat.le_of_ble_eq_true rfl) (Nat.le_of_ble_eq_true rfl) ⟨by first | (simp_all [w_worth, vw_k, vw_v, vw_y, vw_r]; done) | (simp_all [w_worth, vw_k, vw_v, vw_y, vw_r]; rw [if_neg (by omega)]) | (simp_all [w_worth, vw_k, vw_v, vw_y, vw_r]; rw [if_pos (by omega)]), rfl⟩
  · rw [w_bt (by omega)] at c11
    have fr : w_a (vw b g q) a c = true := by simp [vw_a, c11, hpg]
    refine v_iconst (pc := 14) (v := nI 0) dX12_counts_14 (by decide) ?_
    refine v_goto (pc := 15) (tgt := 19) dX12_counts_15 (by decide) ?_
    refine v_istore (pc := 19) dX12_counts_19 (by decide) rfl ?_
    refine v_aload_n (pc := 21) dX12_counts_21 rfl rfl ?_
    refine v_getH (pc := 22) fg_X12_19_12 dX12_counts_22 (li_55 hL) (lr_55_3 hL) ?_
    refine v_iload_n (pc := 25) dX12_counts_25 rfl rfl ?_
    refine v_ialoadN (pc := 26) dX12_counts_26 (li_56 hL) ⟨by omega, by omega⟩ (MVk h hp.1) ?_
    rcases (show b_k b p = 0 ∨ b_k b p = 1 ∨ b_k b p = 2 ∨ b_k b p = 3 ∨ b_k b p = 4 ∨ b_k b p = 5 ∨ b_k b p = 6 by have := VBk h p; omega) with k0 | k0 | k0 | k0 | k0 | k0 | k0
    · refine v_top (show nI (b_k b p) = nI 0 by rw [k0]) ?_
      refine v_tableOut (pc := 27) (tgt := 155) dX12_counts_27 (by decide) (by decide) ?_
      refine v_iconst (pc := 155) (v := nI 1) dX12_counts_155 (by decide) ?_
      exact v_iret (pc := 156) dX12_counts_156 rfl rfl (Nat.le_of_ble_eq_true rfl) (Nat.le_of_ble_eq_true rfl) ⟨by first | (simp_all [w_worth, vw_k, vw_v, vw_y, vw_r]; done) | (simp_all [w_worth, vw_k, vw_v, vw_y, vw_r]; rw [if_neg (by omega)]) | (simp_all [w_worth, vw_k, vw_v, vw_y, vw_r]; rw [if_pos (by omega)]), rfl⟩
    · refine v_top (show nI (b_k b p) = nI 1 by rw [k0]) ?_
      refine v_tableIn (pc := 27) (tgt := 64) dX12_counts_27 (by decide) (by decide) rfl (by decide) ?_
      refine v_iconst (pc := 64) (v := nI 1) dX12_counts_64 (by decide) ?_
      refine v_aload_n (pc := 65) dX12_counts_65 rfl rfl ?_
      refine v_getH (pc := 66) fg_X12_23_12 dX12_counts_66 (li_55 hL) (lr_55_4 hL) ?_
      refine v_iload_n (pc := 69) dX12_counts_69 rfl rfl ?_
      refine v_ialoadN (pc := 70) dX12_counts_70 (li_57 hL) ⟨by omega, by omega⟩ (MVv h hp.1) ?_
      refine v_iconst (pc := 71) (v := nI 2) dX12_counts_71 (by decide) ?_
      refine v_iremN (pc := 72) (by omega) (by omega) (by omega) dX12_counts_72 ?_
      refine v_iaddN (pc := 73) dX12_counts_73 ?_
      exact v_iret (pc := 74) dX12_counts_74 rfl rfl (Nat.le_of_ble_eq_true rfl) (Nat.le_of_ble_eq_true rfl) ⟨by first | (simp_all [w_worth, vw_k, vw_v, vw_y, vw_r]; done) | (simp_all [w_worth, vw_k, vw_v, vw_y, vw_r]; rw [if_neg (by omega)]) | (simp_all [w_worth, vw_k, vw_v, vw_y, vw_r]; rw [if_pos (by omega)]), rfl⟩
    · refine v_top (show nI (b_k b p) = nI 2 by rw [k0]) ?_
      refine v_tableIn (pc := 27) (tgt := 75) dX12_counts_27 (by decide) (by decide) rfl (by decide) ?_
      refine v_iload (pc := 75) dX12_counts_75 rfl ?_
      exact v_iret (pc := 77) dX12_counts_77 rfl rfl (Nat.le_of_ble_eq_true rfl) (Nat.le_of_ble_eq_true rfl) ⟨by first | (simp_all [w_worth, vw_k, vw_v, vw_y, vw_r]; done) | (simp_all [w_worth, vw_k, vw_v, vw_y, vw_r]; rw [if_neg (by omega)]) | (simp_all [w_worth, vw_k, vw_v, vw_y, vw_r]; rw [if_pos (by omega)]), rfl⟩
    · refine v_top (show nI (b_k b p) = nI 3 by rw [k0]) ?_
      refine v_tableIn (pc := 27) (tgt := 78) dX12_counts_27 (by decide) (by decide) rfl (by decide) ?_
      refine v_aload_n (pc := 78) dX12_counts_78 rfl rfl ?_
      refine v_getV (pc := 79) fg_X12_13_12 dX12_counts_79 (li_55 hL) (MVy h) ?_
      refine v_aload_n (pc := 82) dX12_counts_82 rfl rfl ?_
      refine v_getH (pc := 83) fg_X12_23_12 dX12_counts_83 (li_55 hL) (lr_55_4 hL) ?_
      refine v_iload_n (pc := 86) dX12_counts_86 rfl rfl ?_
      refine v_ialoadN (pc := 87) dX12_counts_87 (li_57 hL) ⟨by omega, by omega⟩ (MVv h hp.1) ?_
      refine v_iconst (pc := 88) (v := nI 2) dX12_counts_88 (by decide) ?_
      refine v_iaddN (pc := 89) dX12_counts_89 ?_
      refine v_iremN (pc := 90) (by omega) (by omega) (by omega) dX12_counts_90 ?_
      refine v_if_neN (pc := 91) (tgt := 98) (Nat.lt_of_le_of_lt (Nat.mod_le _ _) (by omega)) dX12_counts_91 (by decide) (fun c91 => ?_) (fun c91 => ?_)
      · refine v_iconst (pc := 98) (v := nI 1) dX12_counts_98 (by decide) ?_
        exact v_iret (pc := 99) dX12_counts_99 rfl rfl (Nat.le_of_ble_eq_true rfl) (Nat.le_of_ble_eq_true rfl) ⟨by first | (simp_all [w_worth, vw_k, vw_v, vw_y, vw_r]; done) | (simp_all [w_worth, vw_k, vw_v, vw_y, vw_r]; rw [if_neg (by omega)]) | (simp_all [w_worth, vw_k, vw_v, vw_y, vw_r]; rw [if_pos (by omega)]), rfl⟩
      · refine v_iconst (pc := 94) (v := nI 0) dX12_counts_94 (by decide) ?_
        refine v_goto (pc := 95) (tgt := 99) dX12_counts_95 (by decide) ?_
        exact v_iret (pc := 99) dX12_counts_99 rfl rfl (Nat.le_of_ble_eq_true rfl) (Nat.le_of_ble_eq_true rfl) ⟨by first | (simp_all [w_worth, vw_k, vw_v, vw_y, vw_r]; done) | (simp_all [w_worth, vw_k, vw_v, vw_y, vw_r]; rw [if_neg (by omega)]) | (simp_all [w_worth, vw_k, vw_v, vw_y, vw_r]; rw [if_pos (by omega)]), rfl⟩
    · refine v_top (show nI (b_k b p) = nI 4 by rw [k0]) ?_
      refine v_tableIn (pc := 27) (tgt := 100) dX12_counts_27 (by decide) (by decide) rfl (by decide) ?_
      refine v_aload_n (pc := 100) dX12_counts_100 rfl rfl ?_
      refine v_iload_n (pc := 101) dX12_counts_101 rfl rfl ?_
      refine v_ci (pc := 102) (v_rV (c_X12_isAlls G l hL (q := q) h (by omega) (by omega)) rfl kV_X12_295 (v_rcO (li_55 hL) rfl (by decide)) ⟨Nat.le_of_ble_eq_true rfl, Nat.le_of_ble_eq_true rfl⟩ ⟨Nat.le_of_ble_eq_true rfl, Nat.le_of_ble_eq_true rfl⟩ dX12_counts_102 (Nat.le_of_ble_eq_true rfl)) (fun x102 M102 h102 => ?_)
      obtain ⟨rfl, rfl⟩ := h102
      refine v_if_eqP (pc := 105) (tgt := 121) dX12_counts_105 (by decide) (fun c105 => ?_) (fun c105 => ?_)
      · refine v_iconst (pc := 121) (v := nI 0) dX12_counts_121 (by decide) ?_
        exact v_iret (pc := 122) dX12_counts_122 rfl rfl (Nat.le_of_ble_eq_true rfl) (Nat.le_of_ble_eq_true rfl) ⟨by first | (simp_all [w_worth, vw_k, vw_v, vw_y, vw_r]; done) | (simp_all [w_worth, vw_k, vw_v, vw_y, vw_r]; rw [if_neg (by omega)]) | (simp_all [w_worth, vw_k, vw_v, vw_y, vw_r]; rw [if_pos (by omega)]), rfl⟩
      · refine v_iconst (pc := 108) (v := nI 1) dX12_counts_108 (by decide) ?_
        refine v_aload_n (pc := 109) dX12_counts_109 rfl rfl ?_
        refine v_getH (pc := 110) fg_X12_23_12 dX12_counts_110 (li_55 hL) (lr_55_4 hL) ?_
        refine v_iload_n (pc := 113) dX12_counts_113 rfl rfl ?_
        refine v_ialoadN (pc := 114) dX12_counts_114 (li_57 hL) ⟨by omega, by omega⟩ (MVv h hp.1) ?_
        refine v_iconst (pc := 115) (v := nI 2) dX12_counts_115 (by decide) ?_
        refine v_iremN (pc := 116) (by omega) (by omega) (by omega) dX12_counts_116 ?_
        refine v_iaddN (pc := 117) dX12_counts_117 ?_
        refine v_goto (pc := 118) (tgt := 122) dX12_counts_118 (by decide) ?_
        exact v_iret (pc := 122) dX12_counts_122 rfl rfl (Nat.le_of_ble_eq_true rfl) (Nat.le_of_ble_eq_true rfl) ⟨by first | (simp_all [w_worth, vw_k, vw_v, vw_y, vw_r]; done) | (simp_all [w_worth, vw_k, vw_v, vw_y, vw_r]; rw [if_neg (by omega)]) | (simp_all [w_worth, vw_k, vw_v, vw_y, vw_r]; rw [if_pos (by omega)]), rfl⟩
    · refine v_top (show nI (b_k b p) = nI 5 by rw [k0]) ?_
      refine v_tableIn (pc := 27) (tgt := 123) dX12_counts_27 (by decide) (by decide) rfl (by decide) ?_
      refine v_aload_n (pc := 123) dX12_counts_123 rfl rfl ?_
      refine v_iload_n (pc := 124) dX12_counts_124 rfl rfl ?_
      refine v_ci (pc := 125) (v_rV (c_X12_manyOf G l hL (q := q) h (by omega) (by omega)) rfl kV_X12_276 (v_rcO (li_55 hL) rfl (by decide)) ⟨Nat.le_of_ble_eq_true rfl, Nat.le_of_ble_eq_true rfl⟩ ⟨Nat.le_of_ble_eq_true rfl, Nat.le_of_ble_eq_true rfl⟩ dX12_counts_125 (Nat.le_of_ble_eq_true rfl)) (fun x125 M125 h125 => ?_)
      obtain ⟨rfl, rfl⟩ := h125
      refine v_iconst (pc := 128) (v := nI 3) dX12_counts_128 (by decide) ?_
      refine v_icmp_leN (pc := 129) (tgt := 136) ⟨by have := w_deg_le (vw b g q) p; omega, by omega⟩ dX12_counts_129 (by decide) (fun c129 => ?_) (fun c129 => ?_)
      · refine v_iload (pc := 136) dX12_counts_136 rfl ?_
        exact v_iret (pc := 138) dX12_counts_138 rfl rfl (Nat.le_of_ble_eq_true rfl) (Nat.le_of_ble_eq_true rfl) ⟨by first | (simp_all [w_worth, vw_k, vw_v, vw_y, vw_r]; done) | (simp_all [w_worth, vw_k, vw_v, vw_y, vw_r]; rw [if_neg (by omega)]) | (simp_all [w_worth, vw_k, vw_v, vw_y, vw_r]; rw [if_pos (by omega)]), rfl⟩
      · refine v_iconst (pc := 132) (v := nI 0) dX12_counts_132 (by decide) ?_
        refine v_goto (pc := 133) (tgt := 138) dX12_counts_133 (by decide) ?_
        exact v_iret (pc := 138) dX12_counts_138 rfl rfl (Nat.le_of_ble_eq_true rfl) (Nat.le_of_ble_eq_true rfl) ⟨by first | (simp_all [w_worth, vw_k, vw_v, vw_y, vw_r]; done) | (simp_all [w_worth, vw_k, vw_v, vw_y, vw_r]; rw [if_neg (by omega)]) | (simp_all [w_worth, vw_k, vw_v, vw_y, vw_r]; rw [if_pos (by omega)]), rfl⟩
    · refine v_top (show nI (b_k b p) = nI 6 by rw [k0]) ?_
      refine v_tableIn (pc := 27) (tgt := 139) dX12_counts_27 (by decide) (by decide) rfl (by decide) ?_
      refine v_aload_n (pc := 139) dX12_counts_139 rfl rfl ?_
      refine v_getH (pc := 140) fg_X12_29_12 dX12_counts_140 (li_55 hL) (lr_55_6 hL) ?_
      refine v_iconst (pc := 143) (v := nI 4) dX12_counts_143 (by decide) ?_
      refine v_iload_n (pc := 144) dX12_counts_144 rfl rfl ?_
      refine v_imulN (pc := 145) dX12_counts_145 ?_
      refine v_aload_n (pc := 146) dX12_counts_146 rfl rfl ?_
      refine v_getV (pc := 147) fg_X12_13_12 dX12_counts_147 (li_55 hL) (MVy h) ?_
      refine v_iconst (pc := 150) (v := nI 4) dX12_counts_150 (by decide) ?_
      refine v_iremN (pc := 151) (by omega) (by omega) (by omega) dX12_counts_151 ?_
      refine v_iaddN (pc := 152) dX12_counts_152 ?_
      refine v_ialoadN (pc := 153) dX12_counts_153 (li_59 hL) ⟨by omega, by omega⟩ (MVr h (by omega)) ?_
      exact v_iret (pc := 154) dX12_counts_154 rfl rfl (Nat.le_of_ble_eq_true rfl) (Nat.le_of_ble_eq_true rfl) ⟨by first | (simp_all [w_worth, vw_k, vw_v, vw_y, vw_r]; done) | (simp_all [w_worth, vw_k, vw_v, vw_y, vw_r]; rw [if_neg (by omega)]) | (simp_all [w_worth, vw_k, vw_v, vw_y, vw_r]; rw [if_pos (by omega)]), rfl⟩
abbrev rm_X12_commonOf : Room := { frames := 3, cells := 0, slots := 0, locals := 68 }
set_option maxRecDepth 20000 in
theorem c_X12_commonOf (G : v_G) (l : Launch) {K : Nat × v_TY} {I : Nat → Nat → Int32} {J : Nat → Nat → Int64} {R : Nat → Nat → Option Nat} (hL : Lay K R) {a c : Nat} {b : BS} {g : Nat} {q : List (Nat × Nat × List Nat)} (h : MV I b g) (hp : a < 7 ∧ c < 7) (hpg : a ≠ g ∧ c ≠ g) : v_M G l yX12_commonOf cX12_commonOf 5 (some .int) rm_X12_commonOf [.ref 55, .int (nI a), .int (nI c)] (K, I, J, R) (v_Qi G (fun (x : Int32) (M' : v_MM) => x = nI (w_com (vw b g q) a c) ∧ M' = (K, I, J, R))) := by
  refine v_of [some (.ref 55), some (.int (nI a)), some (.int (nI c)), none, none] (by decide) (Nat.le_of_ble_eq_true rfl) (Nat.le_of_ble_eq_true rfl) rfl ?_
  refine v_iconst (pc := 0) (v := nI 0) dX12_commonOf_0 (by decide) ?_
  refine v_istore_n (pc := 1) dX12_commonOf_1 rfl (by decide) rfl ?_
  refine v_iconst (pc := 2) (v := nI 0) dX12_commonOf_2 (by decide) ?_
  refine v_istore (pc := 3) dX12_commonOf_3 (by decide) rfl ?_
  have hn := VBn h
  refine v_down (b_n b) (P := fun i => v_V G l yX12_commonOf cX12_commonOf 5 (some .int) rm_X12_commonOf (v_Qi G (fun (x : Int32) (M' : v_MM) => x = nI (w_com (vw b g q) a c) ∧ M' = (K, I, J, R))) 0 0 5 [some (.ref 55), some (.int (nI a)), some (.int (nI c)), some (.int (nI (sm (fun p => if (w_a (vw b g q) p a && w_a (vw b g q) p c) = true then w_worth (vw b g q) p (w_a (vw b g q) a c) else 0) i))), some (.int (nI i))] [] (K, I, J, R)) (fun i hi ih => ?_) 0 (by omega)
  refine v_iload (pc := 5) dX12_commonOf_5 rfl ?_
  refine v_aload_n (pc := 7) dX12_commonOf_7 rfl rfl ?_
  refine v_getV (pc := 8) fg_X12_7_12 dX12_commonOf_8 (li_55 hL) (MVn h) ?_
  refine v_icmp_geN (pc := 11) (tgt := 74) ⟨by omega, by omega⟩ dX12_commonOf_11 (by decide) (fun c11 => ?_) (fun c11 => ?_)
  · refine v_iload_n (pc := 74) dX12_commonOf_74 rfl rfl ?_
    exact v_iret (pc := 75) dX12_commonOf_75 rfl rfl (Nat.le_of_ble_eq_true rfl) (Nat.le_of_ble_eq_true rfl) ⟨by rw [show i = b_n b by omega]; rfl, rfl⟩
  · refine v_iload_n (pc := 14) dX12_commonOf_14 rfl rfl ?_
    refine v_iload (pc := 15) dX12_commonOf_15 rfl ?_
    refine v_aload_n (pc := 17) dX12_commonOf_17 rfl rfl ?_
    refine v_getI (pc := 18) fg_X12_16_12 dX12_commonOf_18 (li_55 hL) ?_
    refine v_icmp_eq (pc := 21) (tgt := 65) dX12_commonOf_21 (by decide) (fun c21 => ?_) (fun c21 => ?_)
    · have c21 := (MGeq h.2.2 (show i < 7 by omega)).mp c21
      have hs : (fun p => if (w_a (vw b g q) p a && w_a (vw b g q) p c) = true then w_worth (vw b g q) p (w_a (vw b g q) a c) else 0) i = 0 := by simp [vw_a, c21]
      refine v_iconst (pc := 65) (v := nI 0) dX12_commonOf_65 (by decide) ?_
      refine v_iaddN (pc := 66) dX12_commonOf_66 ?_
      refine v_istore_n (pc := 67) dX12_commonOf_67 rfl (by decide) rfl ?_
      refine v_iincN (pc := 68) (b := 1) dX12_commonOf_68 rfl (by decide) (by decide) rfl ?_
      refine v_goto (pc := 71) (tgt := 5) dX12_commonOf_71 (by decide) ?_
      have e := ih (i + 1) (by omega) (by omega)
      rw [show sm (fun p => if (w_a (vw b g q) p a && w_a (vw b g q) p c) = true then w_worth (vw b g q) p (w_a (vw b g q) a c) else 0) (i + 1) = sm (fun p => if (w_a (vw b g q) p a && w_a (vw b g q) p c) = true then w_worth (vw b g q) p (w_a (vw b g q) a c) else 0) i + _ from rfl, hs] at e
      exact e
    · have c21 : i ≠ g := fun z => c21 ((MGeq h.2.2 (show i < 7 by omega)).mpr z)
      refine v_aload_n (pc := 24) dX12_commonOf_24 rfl rfl ?_
      refine v_aload_n (pc := 25) dX12_commonOf_25 rfl rfl ?_
      refine v_getH (pc := 26) fg_X12_26_12 dX12_commonOf_26 (li_55 hL) (lr_55_5 hL) ?_
      refine v_iload (pc := 29) dX12_commonOf_29 rfl ?_
      refine v_ialoadN (pc := 31) dX12_commonOf_31 (li_58 hL) ⟨by omega, by omega⟩ (MVm h (by omega)) ?_
      refine v_iload_n (pc := 32) dX12_commonOf_32 rfl rfl ?_
      refine v_ci (pc := 33) (v_rV (c_X12_has G l hL (by omega)) rfl kV_X12_217 (v_rcO (li_55 hL) rfl (by decide)) ⟨Nat.le_of_ble_eq_true rfl, Nat.le_of_ble_eq_true rfl⟩ ⟨Nat.le_of_ble_eq_true rfl, Nat.le_of_ble_eq_true rfl⟩ dX12_commonOf_33 (Nat.le_of_ble_eq_true rfl)) (fun x33 M33 h33 => ?_)
      obtain ⟨rfl, rfl⟩ := h33
      refine v_if_eqP (pc := 36) (tgt := 65) dX12_commonOf_36 (by decide) (fun c36 => ?_) (fun c36 => ?_)
      · rw [w_bt (by omega)] at c36
        have hs : (fun p => if (w_a (vw b g q) p a && w_a (vw b g q) p c) = true then w_worth (vw b g q) p (w_a (vw b g q) a c) else 0) i = 0 := by simp [vw_a, c36]
        refine v_iconst (pc := 65) (v := nI 0) dX12_commonOf_65 (by decide) ?_
        refine v_iaddN (pc := 66) dX12_commonOf_66 ?_
        refine v_istore_n (pc := 67) dX12_commonOf_67 rfl (by decide) rfl ?_
        refine v_iincN (pc := 68) (b := 1) dX12_commonOf_68 rfl (by decide) (by decide) rfl ?_
        refine v_goto (pc := 71) (tgt := 5) dX12_commonOf_71 (by decide) ?_
        have e := ih (i + 1) (by omega) (by omega)
        rw [show sm (fun p => if (w_a (vw b g q) p a && w_a (vw b g q) p c) = true then w_worth (vw b g q) p (w_a (vw b g q) a c) else 0) (i + 1) = sm (fun p => if (w_a (vw b g q) p a && w_a (vw b g q) p c) = true then w_worth (vw b g q) p (w_a (vw b g q) a c) else 0) i + _ from rfl, hs] at e
        exact e
      · rw [w_bt (by omega)] at c36
        refine v_aload_n (pc := 39) dX12_commonOf_39 rfl rfl ?_
        refine v_aload_n (pc := 40) dX12_commonOf_40 rfl rfl ?_
        refine v_getH (pc := 41) fg_X12_26_12 dX12_commonOf_41 (li_55 hL) (lr_55_5 hL) ?_
        refine v_iload (pc := 44) dX12_commonOf_44 rfl ?_
        refine v_ialoadN (pc := 46) dX12_commonOf_46 (li_58 hL) ⟨by omega, by omega⟩ (MVm h (by omega)) ?_
        refine v_iload_n (pc := 47) dX12_commonOf_47 rfl rfl ?_
        refine v_ci (pc := 48) (v_rV (c_X12_has G l hL (by omega)) rfl kV_X12_217 (v_rcO (li_55 hL) rfl (by decide)) ⟨Nat.le_of_ble_eq_true rfl, Nat.le_of_ble_eq_true rfl⟩ ⟨Nat.le_of_ble_eq_true rfl, Nat.le_of_ble_eq_true rfl⟩ dX12_commonOf_48 (Nat.le_of_ble_eq_true rfl)) (fun x48 M48 h48 => ?_)
        obtain ⟨rfl, rfl⟩ := h48
        refine v_if_eqP (pc := 51) (tgt := 65) dX12_commonOf_51 (by decide) (fun c51 => ?_) (fun c51 => ?_)
        · rw [w_bt (by omega)] at c51
          have hs : (fun p => if (w_a (vw b g q) p a && w_a (vw b g q) p c) = true then w_worth (vw b g q) p (w_a (vw b g q) a c) else 0) i = 0 := by simp [vw_a, c51]
          refine v_iconst (pc := 65) (v := nI 0) dX12_commonOf_65 (by decide) ?_
          refine v_iaddN (pc := 66) dX12_commonOf_66 ?_
          refine v_istore_n (pc := 67) dX12_commonOf_67 rfl (by decide) rfl ?_
          refine v_iincN (pc := 68) (b := 1) dX12_commonOf_68 rfl (by decide) (by decide) rfl ?_
          refine v_goto (pc := 71) (tgt := 5) dX12_commonOf_71 (by decide) ?_
          have e := ih (i + 1) (by omega) (by omega)
          rw [show sm (fun p => if (w_a (vw b g q) p a && w_a (vw b g q) p c) = true then w_worth (vw b g q) p (w_a (vw b g q) a c) else 0) (i + 1) = sm (fun p => if (w_a (vw b g q) p a && w_a (vw b g q) p c) = true then w_worth (vw b g q) p (w_a (vw b g q) a c) else 0) i + _ from rfl, hs] at e
          exact e
        · rw [w_bt (by omega)] at c51
          have hs : (fun p => if (w_a (vw b g q) p a && w_a (vw b g q) p c) = true then w_worth (vw b g q) p (w_a (vw b g q) a c) else 0) i = w_worth (vw b g q) i (w_a (vw b g q) a c) := by simp [vw_a, c36, c51, c21, hpg]
          refine v_aload_n (pc := 54) dX12_commonOf_54 rfl rfl ?_
          refine v_iload (pc := 55) dX12_commonOf_55 rfl ?_
          refine v_iload_n (pc := 57) dX12_commonOf_57 rfl rfl ?_
          refine v_iload_n (pc := 58) dX12_commonOf_58 rfl rfl ?_
          refine v_ci (pc := 59) (v_rV (c_X12_counts G l hL (q := q) h ⟨by omega, by omega, by omega⟩ ⟨by omega, by omega, by omega⟩) rfl kV_X12_298 (v_rcO (li_55 hL) rfl (by decide)) ⟨Nat.le_of_ble_eq_true rfl, Nat.le_of_ble_eq_true rfl⟩ ⟨Nat.le_of_ble_eq_true rfl, Nat.le_of_ble_eq_true rfl⟩ dX12_commonOf_59 (Nat.le_of_ble_eq_true rfl)) (fun x59 M59 h59 => ?_)
          obtain ⟨rfl, rfl⟩ := h59
          refine v_goto (pc := 62) (tgt := 66) dX12_commonOf_62 (by decide) ?_
          refine v_iaddN (pc := 66) dX12_commonOf_66 ?_
          refine v_istore_n (pc := 67) dX12_commonOf_67 rfl (by decide) rfl ?_
          refine v_iincN (pc := 68) (b := 1) dX12_commonOf_68 rfl (by decide) (by decide) rfl ?_
          refine v_goto (pc := 71) (tgt := 5) dX12_commonOf_71 (by decide) ?_
          have e := ih (i + 1) (by omega) (by omega)
          rw [show sm (fun p => if (w_a (vw b g q) p a && w_a (vw b g q) p c) = true then w_worth (vw b g q) p (w_a (vw b g q) a c) else 0) (i + 1) = sm (fun p => if (w_a (vw b g q) p a && w_a (vw b g q) p c) = true then w_worth (vw b g q) p (w_a (vw b g q) a c) else 0) i + _ from rfl, hs] at e
          exact e
