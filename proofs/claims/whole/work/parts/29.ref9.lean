/-! THE REFERENCE: kept, looked, trace, taken, count; changes of one place -/
theorem v_pb {a c : Bool} : (v_p (a = true) = v_p (c = true)) ↔ a = c := by
  cases a <;> cases c <;> simp [v_p]
abbrev rm_X12_kept : Room := { frames := 7, cells := 0, slots := 0, locals := 164 }
set_option maxRecDepth 20000 in
theorem c_X12_kept (G : v_G) (l : Launch) {K : Nat × v_TY} {I : Nat → Nat → Int32} {J : Nat → Nat → Int64} {R : Nat → Nat → Option Nat} (hL : Lay K R) {ww : Int32} {b : BS} {p : List (Nat × Nat × List Nat)} {wi : List (Nat × Bool)} (h : MW I b 9 p) (hwi : MWi I wi) (hq : ∀ q ∈ wi, q.1 < w_pr (b_n b)) (hl6 : wi.length ≤ 6) : v_M G l yX12_kept cX12_kept 6 (some .int) rm_X12_kept [.ref 55, .int ww] (K, I, J, R) (v_Qi G (fun (x : Int32) (M' : v_MM) => x = s_kept (vw b 9 p) wi ww ∧ ∃ I', M' = (K, I', J, R) ∧ mJ I I')) := by
  refine v_of [some (.ref 55), some (.int ww), none, none, none, none] (by decide) (Nat.le_of_ble_eq_true rfl) (Nat.le_of_ble_eq_true rfl) rfl ?_
  refine v_aload_n (pc := 0) dX12_kept_0 rfl rfl ?_
  refine v_iload_n (pc := 1) dX12_kept_1 rfl rfl ?_
  refine v_iconst (pc := 2) (v := nI 0) dX12_kept_2 (by decide) ?_
  refine v_iconst (pc := 3) (v := nI 1) dX12_kept_3 (by decide) ?_
  refine v_ci (pc := 4) (v_rV (c_X12_in G l hL) rfl kV_X12_197 (v_rcO (li_55 hL) rfl (by decide)) ⟨Nat.le_of_ble_eq_true rfl, Nat.le_of_ble_eq_true rfl⟩ ⟨Nat.le_of_ble_eq_true rfl, Nat.le_of_ble_eq_true rfl⟩ dX12_kept_4 (Nat.le_of_ble_eq_true rfl)) (fun x4 M4 h4 => ?_)
  obtain ⟨rfl, rfl⟩ := h4
  refine v_if_neP (pc := 7) (tgt := 12) dX12_kept_7 (by decide) (fun c7 => ?_) (fun c7 => ?_)
  · have hw2 := x_two (v_in_iff (by decide) |>.mp c7)
    refine v_iconst (pc := 12) (v := nI 0) dX12_kept_12 (by decide) ?_
    refine v_istore_n (pc := 13) dX12_kept_13 rfl (by decide) rfl ?_
    refine v_iconst (pc := 14) (v := nI 0) dX12_kept_14 (by decide) ?_
    refine v_istore_n (pc := 15) dX12_kept_15 rfl (by decide) rfl ?_
    refine v_iconst (pc := 16) (v := nI 0) dX12_kept_16 (by decide) ?_
    refine v_istore (pc := 17) dX12_kept_17 (by decide) rfl ?_
    have key : ∀ i, i ≤ wi.length → ∀ (Ii : Nat → Nat → Int32) (z5 : Option Value), mP I Ii → v_V G l yX12_kept cX12_kept 6 (some .int) rm_X12_kept (v_Qi G (fun (x : Int32) (M' : v_MM) => x = s_kept (vw b 9 p) wi ww ∧ ∃ I', M' = (K, I', J, R) ∧ mJ I I')) 0 0 19 [some (.ref 55), some (.int ww), some (.int (nI (w_kn (vw b 9 p) (wi.take i)))), some (.int (nI (w_kc (vw b 9 p) (wi.take i)))), some (.int (nI i)), z5] [] (K, Ii, J, R) := by
      refine v_down wi.length (fun i hi ih => ?_)
      intro Ii z5 hj
      have hw := MW_J h (mP_J hj)
      refine v_iload (pc := 19) dX12_kept_19 rfl ?_
      refine v_aload_n (pc := 21) dX12_kept_21 rfl rfl ?_
      refine v_getV (pc := 22) fg_X12_114_12 dX12_kept_22 (li_55 hL) ((hj _ _ (by decide)).trans hwi.1) ?_
      refine v_icmp_geN (pc := 25) (tgt := 118) ⟨by omega, by omega⟩ dX12_kept_25 (by decide) (fun c25 => ?_) (fun c25 => ?_)
      · have e : i = wi.length := by omega
        subst e
        rw [List.take_length]
        rcases hw2 with rfl | rfl
        · refine v_iload_n (pc := 118) dX12_kept_118 rfl rfl ?_
          refine v_if_neN (pc := 119) (tgt := 126) (by omega) dX12_kept_119 (by decide) (fun c119 => ?_) (fun c119 => ?_)
          · refine v_iload_n (pc := 126) dX12_kept_126 rfl rfl ?_
            exact v_iret (pc := 127) dX12_kept_127 rfl rfl (Nat.le_of_ble_eq_true rfl) (Nat.le_of_ble_eq_true rfl) ⟨by first | omega | rfl, Ii, rfl, mP_J hj⟩
          · refine v_iload_n (pc := 122) dX12_kept_122 rfl rfl ?_
            refine v_goto (pc := 123) (tgt := 127) dX12_kept_123 (by decide) ?_
            exact v_iret (pc := 127) dX12_kept_127 rfl rfl (Nat.le_of_ble_eq_true rfl) (Nat.le_of_ble_eq_true rfl) ⟨by first | omega | rfl, Ii, rfl, mP_J hj⟩
        · refine v_iload_n (pc := 118) dX12_kept_118 rfl rfl ?_
          refine v_if_neN (pc := 119) (tgt := 126) (by omega) dX12_kept_119 (by decide) (fun c119 => ?_) (fun c119 => ?_)
          · refine v_iload_n (pc := 126) dX12_kept_126 rfl rfl ?_
            exact v_iret (pc := 127) dX12_kept_127 rfl rfl (Nat.le_of_ble_eq_true rfl) (Nat.le_of_ble_eq_true rfl) ⟨by first | omega | rfl, Ii, rfl, mP_J hj⟩
          · refine v_iload_n (pc := 122) dX12_kept_122 rfl rfl ?_
            refine v_goto (pc := 123) (tgt := 127) dX12_kept_123 (by decide) ?_
            exact v_iret (pc := 127) dX12_kept_127 rfl rfl (Nat.le_of_ble_eq_true rfl) (Nat.le_of_ble_eq_true rfl) ⟨by first | omega | rfl, Ii, rfl, mP_J hj⟩
      · obtain ⟨q, hqi⟩ : ∃ q, wi[i]? = some q := ⟨_, List.getElem?_eq_getElem (show i < wi.length by omega)⟩
        have hqk := hq q (List.mem_of_getElem? hqi)
        have h15 := w_pr_lt (b_n b) (by have := VBn h.1; omega)
        have hg := w_g_in q.1 (by omega)
        have hwp := (hj _ _ (by decide)).trans (hwi.2 i q hqi).1
        have hwa := (hj _ _ (by decide)).trans (hwi.2 i q hqi).2
        have et := w_take hqi
        have hbit : (b_m b (w_l q.1)).testBit (w_g q.1) = w_a (vw b 9 p) (w_l q.1) (w_g q.1) := by rw [vw_a, decide_eq_true (show w_l q.1 ≠ 9 by omega), decide_eq_true (show w_g q.1 ≠ 9 by omega), Bool.and_true, Bool.and_true]
        refine v_aload_n (pc := 28) dX12_kept_28 rfl rfl ?_
        refine v_aload_n (pc := 29) dX12_kept_29 rfl rfl ?_
        refine v_getH (pc := 30) fg_X12_26_12 dX12_kept_30 (li_55 hL) (lr_55_5 hL) ?_
        refine v_aload_n (pc := 33) dX12_kept_33 rfl rfl ?_
        refine v_aload_n (pc := 34) dX12_kept_34 rfl rfl ?_
        refine v_getH (pc := 35) fg_X12_120_12 dX12_kept_35 (li_55 hL) (lr_55_36 hL) ?_
        refine v_iload (pc := 38) dX12_kept_38 rfl ?_
        refine v_ialoadN (pc := 40) dX12_kept_40 (li_73 hL) ⟨by omega, by omega⟩ hwp ?_
        refine v_ci (pc := 41) (v_rV (c_X12_lesserOf G l hL (by omega)) rfl kV_X12_313 (v_rcO (li_55 hL) rfl (by decide)) ⟨Nat.le_of_ble_eq_true rfl, Nat.le_of_ble_eq_true rfl⟩ ⟨Nat.le_of_ble_eq_true rfl, Nat.le_of_ble_eq_true rfl⟩ dX12_kept_41 (Nat.le_of_ble_eq_true rfl)) (fun x41 M41 h41 => ?_)
        obtain ⟨rfl, rfl⟩ := h41
        refine v_ialoadN (pc := 44) dX12_kept_44 (li_58 hL) ⟨by omega, by omega⟩ (MVm hw.1 (by omega)) ?_
        refine v_aload_n (pc := 45) dX12_kept_45 rfl rfl ?_
        refine v_aload_n (pc := 46) dX12_kept_46 rfl rfl ?_
        refine v_getH (pc := 47) fg_X12_120_12 dX12_kept_47 (li_55 hL) (lr_55_36 hL) ?_
        refine v_iload (pc := 50) dX12_kept_50 rfl ?_
        refine v_ialoadN (pc := 52) dX12_kept_52 (li_73 hL) ⟨by omega, by omega⟩ hwp ?_
        refine v_ci (pc := 53) (v_rV (c_X12_greaterOf G l hL (by omega)) rfl kV_X12_205 (v_rcO (li_55 hL) rfl (by decide)) ⟨Nat.le_of_ble_eq_true rfl, Nat.le_of_ble_eq_true rfl⟩ ⟨Nat.le_of_ble_eq_true rfl, Nat.le_of_ble_eq_true rfl⟩ dX12_kept_53 (Nat.le_of_ble_eq_true rfl)) (fun x53 M53 h53 => ?_)
        obtain ⟨rfl, rfl⟩ := h53
        refine v_ci (pc := 56) (v_rV (c_X12_has G l hL (by omega)) rfl kV_X12_217 (v_rcO (li_55 hL) rfl (by decide)) ⟨Nat.le_of_ble_eq_true rfl, Nat.le_of_ble_eq_true rfl⟩ ⟨Nat.le_of_ble_eq_true rfl, Nat.le_of_ble_eq_true rfl⟩ dX12_kept_56 (Nat.le_of_ble_eq_true rfl)) (fun x56 M56 h56 => ?_)
        obtain ⟨rfl, rfl⟩ := h56
        refine v_aload_n (pc := 59) dX12_kept_59 rfl rfl ?_
        refine v_getH (pc := 60) fg_X12_129_12 dX12_kept_60 (li_55 hL) (lr_55_39 hL) ?_
        refine v_iload (pc := 63) dX12_kept_63 rfl ?_
        refine v_zaloadN (pc := 65) dX12_kept_65 (li_76 hL) ⟨by omega, by omega⟩ hwa ?_
        refine v_icmp_ne (pc := 66) (tgt := 73) dX12_kept_66 (by decide) (fun c66 => ?_) (fun c66 => ?_)
        · rw [w_bt (by omega), hbit, v_pb] at c66
          refine v_iconst (pc := 73) (v := nI 0) dX12_kept_73 (by decide) ?_
          refine v_istore (pc := 74) dX12_kept_74 (by decide) rfl ?_
          refine v_iload_n (pc := 76) dX12_kept_76 rfl rfl ?_
          refine v_iload (pc := 77) dX12_kept_77 rfl ?_
          refine v_if_eqN (pc := 79) (tgt := 86) (by omega) dX12_kept_79 (by decide) (fun c79 => ?_) (fun c79 => ?_)
          · refine v_iconst (pc := 86) (v := nI 0) dX12_kept_86 (by decide) ?_
            refine v_iaddN (pc := 87) dX12_kept_87 ?_
            refine v_istore_n (pc := 88) dX12_kept_88 rfl (by decide) rfl ?_
            refine v_iload_n (pc := 89) dX12_kept_89 rfl rfl ?_
            refine v_iload (pc := 90) dX12_kept_90 rfl ?_
            refine v_if_eqN (pc := 92) (tgt := 99) (by omega) dX12_kept_92 (by decide) (fun c92 => ?_) (fun c92 => ?_)
            · refine v_aload_n (pc := 99) dX12_kept_99 rfl rfl ?_
              refine v_aload_n (pc := 100) dX12_kept_100 rfl rfl ?_
              refine v_getH (pc := 101) fg_X12_120_12 dX12_kept_101 (li_55 hL) (lr_55_36 hL) ?_
              refine v_iload (pc := 104) dX12_kept_104 rfl ?_
              refine v_ialoadN (pc := 106) dX12_kept_106 (li_73 hL) ⟨by omega, by omega⟩ hwp ?_
              refine v_ci (pc := 107) (v_rV (c_X12_pricePair G l hL hw hqk) rfl kV_X12_332 (v_rcO (li_55 hL) rfl (by decide)) ⟨Nat.le_of_ble_eq_true rfl, Nat.le_of_ble_eq_true rfl⟩ ⟨Nat.le_of_ble_eq_true rfl, Nat.le_of_ble_eq_true rfl⟩ dX12_kept_107 (Nat.le_of_ble_eq_true rfl)) (fun x107 M107 h107 => ?_)
              obtain ⟨rfl, I2, rfl, hm2⟩ := h107
              refine v_iaddN (pc := 110) dX12_kept_110 ?_
              refine v_istore_n (pc := 111) dX12_kept_111 rfl (by decide) rfl ?_
              refine v_iincN (pc := 112) (b := 1) dX12_kept_112 rfl (by decide) (by decide) rfl ?_
              refine v_goto (pc := 115) (tgt := 19) dX12_kept_115 (by decide) ?_
              first
                | (have e := fun z => ih (i + 1) (by omega) (by omega) Ii z hj; rw [et, w_kn_a, w_kc_a, if_pos c66, if_pos c66] at e; exact e _)
                | (have e := fun z => ih (i + 1) (by omega) (by omega) I2 z (mP_tr hj hm2); rw [et, w_kn_a, w_kc_a, if_neg c66, if_neg c66] at e; exact e _)
                | omega
            · refine v_iconst (pc := 95) (v := nI 0) dX12_kept_95 (by decide) ?_
              refine v_goto (pc := 96) (tgt := 110) dX12_kept_96 (by decide) ?_
              refine v_iaddN (pc := 110) dX12_kept_110 ?_
              refine v_istore_n (pc := 111) dX12_kept_111 rfl (by decide) rfl ?_
              refine v_iincN (pc := 112) (b := 1) dX12_kept_112 rfl (by decide) (by decide) rfl ?_
              refine v_goto (pc := 115) (tgt := 19) dX12_kept_115 (by decide) ?_
              first
                | (have e := fun z => ih (i + 1) (by omega) (by omega) Ii z hj; rw [et, w_kn_a, w_kc_a, if_pos c66, if_pos c66] at e; exact e _)
                | (have e := fun z => ih (i + 1) (by omega) (by omega) I2 z (mP_tr hj hm2); rw [et, w_kn_a, w_kc_a, if_neg c66, if_neg c66] at e; exact e _)
                | omega
          · refine v_iconst (pc := 82) (v := nI 1) dX12_kept_82 (by decide) ?_
            refine v_goto (pc := 83) (tgt := 87) dX12_kept_83 (by decide) ?_
            refine v_iaddN (pc := 87) dX12_kept_87 ?_
            refine v_istore_n (pc := 88) dX12_kept_88 rfl (by decide) rfl ?_
            refine v_iload_n (pc := 89) dX12_kept_89 rfl rfl ?_
            refine v_iload (pc := 90) dX12_kept_90 rfl ?_
            refine v_if_eqN (pc := 92) (tgt := 99) (by omega) dX12_kept_92 (by decide) (fun c92 => ?_) (fun c92 => ?_)
            · refine v_aload_n (pc := 99) dX12_kept_99 rfl rfl ?_
              refine v_aload_n (pc := 100) dX12_kept_100 rfl rfl ?_
              refine v_getH (pc := 101) fg_X12_120_12 dX12_kept_101 (li_55 hL) (lr_55_36 hL) ?_
              refine v_iload (pc := 104) dX12_kept_104 rfl ?_
              refine v_ialoadN (pc := 106) dX12_kept_106 (li_73 hL) ⟨by omega, by omega⟩ hwp ?_
              refine v_ci (pc := 107) (v_rV (c_X12_pricePair G l hL hw hqk) rfl kV_X12_332 (v_rcO (li_55 hL) rfl (by decide)) ⟨Nat.le_of_ble_eq_true rfl, Nat.le_of_ble_eq_true rfl⟩ ⟨Nat.le_of_ble_eq_true rfl, Nat.le_of_ble_eq_true rfl⟩ dX12_kept_107 (Nat.le_of_ble_eq_true rfl)) (fun x107 M107 h107 => ?_)
              obtain ⟨rfl, I2, rfl, hm2⟩ := h107
              refine v_iaddN (pc := 110) dX12_kept_110 ?_
              refine v_istore_n (pc := 111) dX12_kept_111 rfl (by decide) rfl ?_
              refine v_iincN (pc := 112) (b := 1) dX12_kept_112 rfl (by decide) (by decide) rfl ?_
              refine v_goto (pc := 115) (tgt := 19) dX12_kept_115 (by decide) ?_
              first
                | (have e := fun z => ih (i + 1) (by omega) (by omega) Ii z hj; rw [et, w_kn_a, w_kc_a, if_pos c66, if_pos c66] at e; exact e _)
                | (have e := fun z => ih (i + 1) (by omega) (by omega) I2 z (mP_tr hj hm2); rw [et, w_kn_a, w_kc_a, if_neg c66, if_neg c66] at e; exact e _)
                | omega
            · refine v_iconst (pc := 95) (v := nI 0) dX12_kept_95 (by decide) ?_
              refine v_goto (pc := 96) (tgt := 110) dX12_kept_96 (by decide) ?_
              refine v_iaddN (pc := 110) dX12_kept_110 ?_
              refine v_istore_n (pc := 111) dX12_kept_111 rfl (by decide) rfl ?_
              refine v_iincN (pc := 112) (b := 1) dX12_kept_112 rfl (by decide) (by decide) rfl ?_
              refine v_goto (pc := 115) (tgt := 19) dX12_kept_115 (by decide) ?_
              first
                | (have e := fun z => ih (i + 1) (by omega) (by omega) Ii z hj; rw [et, w_kn_a, w_kc_a, if_pos c66, if_pos c66] at e; exact e _)
                | (have e := fun z => ih (i + 1) (by omega) (by omega) I2 z (mP_tr hj hm2); rw [et, w_kn_a, w_kc_a, if_neg c66, if_neg c66] at e; exact e _)
                | omega
        · rw [w_bt (by omega), hbit, v_pb] at c66
          refine v_iconst (pc := 69) (v := nI 1) dX12_kept_69 (by decide) ?_
          refine v_goto (pc := 70) (tgt := 74) dX12_kept_70 (by decide) ?_
          refine v_istore (pc := 74) dX12_kept_74 (by decide) rfl ?_
          refine v_iload_n (pc := 76) dX12_kept_76 rfl rfl ?_
          refine v_iload (pc := 77) dX12_kept_77 rfl ?_
          refine v_if_eqN (pc := 79) (tgt := 86) (by omega) dX12_kept_79 (by decide) (fun c79 => ?_) (fun c79 => ?_)
          · refine v_iconst (pc := 86) (v := nI 0) dX12_kept_86 (by decide) ?_
            refine v_iaddN (pc := 87) dX12_kept_87 ?_
            refine v_istore_n (pc := 88) dX12_kept_88 rfl (by decide) rfl ?_
            refine v_iload_n (pc := 89) dX12_kept_89 rfl rfl ?_
            refine v_iload (pc := 90) dX12_kept_90 rfl ?_
            refine v_if_eqN (pc := 92) (tgt := 99) (by omega) dX12_kept_92 (by decide) (fun c92 => ?_) (fun c92 => ?_)
            · refine v_aload_n (pc := 99) dX12_kept_99 rfl rfl ?_
              refine v_aload_n (pc := 100) dX12_kept_100 rfl rfl ?_
              refine v_getH (pc := 101) fg_X12_120_12 dX12_kept_101 (li_55 hL) (lr_55_36 hL) ?_
              refine v_iload (pc := 104) dX12_kept_104 rfl ?_
              refine v_ialoadN (pc := 106) dX12_kept_106 (li_73 hL) ⟨by omega, by omega⟩ hwp ?_
              refine v_ci (pc := 107) (v_rV (c_X12_pricePair G l hL hw hqk) rfl kV_X12_332 (v_rcO (li_55 hL) rfl (by decide)) ⟨Nat.le_of_ble_eq_true rfl, Nat.le_of_ble_eq_true rfl⟩ ⟨Nat.le_of_ble_eq_true rfl, Nat.le_of_ble_eq_true rfl⟩ dX12_kept_107 (Nat.le_of_ble_eq_true rfl)) (fun x107 M107 h107 => ?_)
              obtain ⟨rfl, I2, rfl, hm2⟩ := h107
              refine v_iaddN (pc := 110) dX12_kept_110 ?_
              refine v_istore_n (pc := 111) dX12_kept_111 rfl (by decide) rfl ?_
              refine v_iincN (pc := 112) (b := 1) dX12_kept_112 rfl (by decide) (by decide) rfl ?_
              refine v_goto (pc := 115) (tgt := 19) dX12_kept_115 (by decide) ?_
              first
                | (have e := fun z => ih (i + 1) (by omega) (by omega) Ii z hj; rw [et, w_kn_a, w_kc_a, if_pos c66, if_pos c66] at e; exact e _)
                | (have e := fun z => ih (i + 1) (by omega) (by omega) I2 z (mP_tr hj hm2); rw [et, w_kn_a, w_kc_a, if_neg c66, if_neg c66] at e; exact e _)
                | omega
            · refine v_iconst (pc := 95) (v := nI 0) dX12_kept_95 (by decide) ?_
              refine v_goto (pc := 96) (tgt := 110) dX12_kept_96 (by decide) ?_
              refine v_iaddN (pc := 110) dX12_kept_110 ?_
              refine v_istore_n (pc := 111) dX12_kept_111 rfl (by decide) rfl ?_
              refine v_iincN (pc := 112) (b := 1) dX12_kept_112 rfl (by decide) (by decide) rfl ?_
              refine v_goto (pc := 115) (tgt := 19) dX12_kept_115 (by decide) ?_
              first
                | (have e := fun z => ih (i + 1) (by omega) (by omega) Ii z hj; rw [et, w_kn_a, w_kc_a, if_pos c66, if_pos c66] at e; exact e _)
                | (have e := fun z => ih (i + 1) (by omega) (by omega) I2 z (mP_tr hj hm2); rw [et, w_kn_a, w_kc_a, if_neg c66, if_neg c66] at e; exact e _)
                | omega
          · refine v_iconst (pc := 82) (v := nI 1) dX12_kept_82 (by decide) ?_
            refine v_goto (pc := 83) (tgt := 87) dX12_kept_83 (by decide) ?_
            refine v_iaddN (pc := 87) dX12_kept_87 ?_
            refine v_istore_n (pc := 88) dX12_kept_88 rfl (by decide) rfl ?_
            refine v_iload_n (pc := 89) dX12_kept_89 rfl rfl ?_
            refine v_iload (pc := 90) dX12_kept_90 rfl ?_
            refine v_if_eqN (pc := 92) (tgt := 99) (by omega) dX12_kept_92 (by decide) (fun c92 => ?_) (fun c92 => ?_)
            · refine v_aload_n (pc := 99) dX12_kept_99 rfl rfl ?_
              refine v_aload_n (pc := 100) dX12_kept_100 rfl rfl ?_
              refine v_getH (pc := 101) fg_X12_120_12 dX12_kept_101 (li_55 hL) (lr_55_36 hL) ?_
              refine v_iload (pc := 104) dX12_kept_104 rfl ?_
              refine v_ialoadN (pc := 106) dX12_kept_106 (li_73 hL) ⟨by omega, by omega⟩ hwp ?_
              refine v_ci (pc := 107) (v_rV (c_X12_pricePair G l hL hw hqk) rfl kV_X12_332 (v_rcO (li_55 hL) rfl (by decide)) ⟨Nat.le_of_ble_eq_true rfl, Nat.le_of_ble_eq_true rfl⟩ ⟨Nat.le_of_ble_eq_true rfl, Nat.le_of_ble_eq_true rfl⟩ dX12_kept_107 (Nat.le_of_ble_eq_true rfl)) (fun x107 M107 h107 => ?_)
              obtain ⟨rfl, I2, rfl, hm2⟩ := h107
              refine v_iaddN (pc := 110) dX12_kept_110 ?_
              refine v_istore_n (pc := 111) dX12_kept_111 rfl (by decide) rfl ?_
              refine v_iincN (pc := 112) (b := 1) dX12_kept_112 rfl (by decide) (by decide) rfl ?_
              refine v_goto (pc := 115) (tgt := 19) dX12_kept_115 (by decide) ?_
              first
                | (have e := fun z => ih (i + 1) (by omega) (by omega) Ii z hj; rw [et, w_kn_a, w_kc_a, if_pos c66, if_pos c66] at e; exact e _)
                | (have e := fun z => ih (i + 1) (by omega) (by omega) I2 z (mP_tr hj hm2); rw [et, w_kn_a, w_kc_a, if_neg c66, if_neg c66] at e; exact e _)
                | omega
            · refine v_iconst (pc := 95) (v := nI 0) dX12_kept_95 (by decide) ?_
              refine v_goto (pc := 96) (tgt := 110) dX12_kept_96 (by decide) ?_
              refine v_iaddN (pc := 110) dX12_kept_110 ?_
              refine v_istore_n (pc := 111) dX12_kept_111 rfl (by decide) rfl ?_
              refine v_iincN (pc := 112) (b := 1) dX12_kept_112 rfl (by decide) (by decide) rfl ?_
              refine v_goto (pc := 115) (tgt := 19) dX12_kept_115 (by decide) ?_
              first
                | (have e := fun z => ih (i + 1) (by omega) (by omega) Ii z hj; rw [et, w_kn_a, w_kc_a, if_pos c66, if_pos c66] at e; exact e _)
                | (have e := fun z => ih (i + 1) (by omega) (by omega) I2 z (mP_tr hj hm2); rw [et, w_kn_a, w_kc_a, if_neg c66, if_neg c66] at e; exact e _)
                | omega
    exact key 0 (by omega) I none mP_rf
  · have e2 : x_nat ww 2 = none := x_nat_n (fun z => c7 (v_in_iff (by decide) |>.mpr z))
    refine v_iconst (pc := 10) (v := -1) dX12_kept_10 (by decide) ?_
    exact v_iret (pc := 11) dX12_kept_11 rfl rfl (Nat.le_of_ble_eq_true rfl) (Nat.le_of_ble_eq_true rfl) ⟨by simp only [s_kept, e2], I, rfl, mJ_rf⟩
abbrev rm_X12_looked : Room := { frames := 4, cells := 0, slots := 0, locals := 92 }
set_option maxRecDepth 20000 in
theorem c_X12_looked (G : v_G) (l : Launch) {K : Nat × v_TY} {I : Nat → Nat → Int32} {J : Nat → Nat → Int64} {R : Nat → Nat → Option Nat} (hL : Lay K R) {b : BS} {p : List (Nat × Nat × List Nat)} {bo : List (Nat × Nat)} (h : MW I b 9 p) (hbo : MBo I bo) (hq : ∀ q ∈ bo, q.1 < w_pr (b_n b) ∧ q.2 < 100) (hl : bo.length ≤ 12) : v_M G l yX12_looked cX12_looked 2 (some .int) rm_X12_looked [.ref 55] (K, I, J, R) (v_Qi G (fun (x : Int32) (M' : v_MM) => x = s_looked b p bo ∧ M' = (K, I, J, R))) := by
  refine v_of [some (.ref 55), none] (by decide) (Nat.le_of_ble_eq_true rfl) (Nat.le_of_ble_eq_true rfl) rfl ?_
  refine v_iconst (pc := 0) (v := nI 0) dX12_looked_0 (by decide) ?_
  refine v_istore_n (pc := 1) dX12_looked_1 rfl (by decide) rfl ?_
  refine v_down bo.length (P := fun i => w_ff (w_lk b p bo) i = none → v_V G l yX12_looked cX12_looked 2 (some .int) rm_X12_looked (v_Qi G (fun (x : Int32) (M' : v_MM) => x = s_looked b p bo ∧ M' = (K, I, J, R))) 0 0 2 [some (.ref 55), some (.int (nI i))] [] (K, I, J, R)) (fun i hi ih => ?_) 0 (by omega) rfl
  intro hf
  refine v_iload_n (pc := 2) dX12_looked_2 rfl rfl ?_
  refine v_aload_n (pc := 3) dX12_looked_3 rfl rfl ?_
  refine v_getV (pc := 4) fg_X12_117_12 dX12_looked_4 (li_55 hL) hbo.1 ?_
  refine v_icmp_geN (pc := 7) (tgt := 51) ⟨by omega, by omega⟩ dX12_looked_7 (by decide) (fun c7 => ?_) (fun c7 => ?_)
  · refine v_bipush (pc := 51) (v := -5) dX12_looked_51 (by decide) ?_
    exact v_iret (pc := 53) dX12_looked_53 rfl rfl (Nat.le_of_ble_eq_true rfl) (Nat.le_of_ble_eq_true rfl) ⟨by first | (rw [s_looked, w_ff_s hf (x := nI i) (by rw [w_lk, hqi]; exact if_neg c40) (by omega)]; rfl) | (rw [s_looked, show bo.length = i by omega, hf]; rfl), rfl⟩
  · obtain ⟨q, hqi⟩ : ∃ q, bo[i]? = some q := ⟨_, List.getElem?_eq_getElem (show i < bo.length by omega)⟩
    have hqk := hq q (List.mem_of_getElem? hqi)
    have h15 := w_pr_lt (b_n b) (by have := VBn h.1; omega)
    have hg := w_g_in q.1 (by omega)
    have hc18 := w_com_lt h.1.2.1 9 p (w_l q.1) (w_g q.1)
    refine v_aload_n (pc := 10) dX12_looked_10 rfl rfl ?_
    refine v_aload_n (pc := 11) dX12_looked_11 rfl rfl ?_
    refine v_aload_n (pc := 12) dX12_looked_12 rfl rfl ?_
    refine v_getH (pc := 13) fg_X12_123_12 dX12_looked_13 (li_55 hL) (lr_55_37 hL) ?_
    refine v_iload_n (pc := 16) dX12_looked_16 rfl rfl ?_
    refine v_ialoadN (pc := 17) dX12_looked_17 (li_74 hL) ⟨by omega, by omega⟩ (hbo.2 i q hqi).1 ?_
    refine v_ci (pc := 18) (v_rV (c_X12_lesserOf G l hL (by omega)) rfl kV_X12_313 (v_rcO (li_55 hL) rfl (by decide)) ⟨Nat.le_of_ble_eq_true rfl, Nat.le_of_ble_eq_true rfl⟩ ⟨Nat.le_of_ble_eq_true rfl, Nat.le_of_ble_eq_true rfl⟩ dX12_looked_18 (Nat.le_of_ble_eq_true rfl)) (fun x18 M18 h18 => ?_)
    obtain ⟨rfl, rfl⟩ := h18
    refine v_aload_n (pc := 21) dX12_looked_21 rfl rfl ?_
    refine v_aload_n (pc := 22) dX12_looked_22 rfl rfl ?_
    refine v_getH (pc := 23) fg_X12_123_12 dX12_looked_23 (li_55 hL) (lr_55_37 hL) ?_
    refine v_iload_n (pc := 26) dX12_looked_26 rfl rfl ?_
    refine v_ialoadN (pc := 27) dX12_looked_27 (li_74 hL) ⟨by omega, by omega⟩ (hbo.2 i q hqi).1 ?_
    refine v_ci (pc := 28) (v_rV (c_X12_greaterOf G l hL (by omega)) rfl kV_X12_205 (v_rcO (li_55 hL) rfl (by decide)) ⟨Nat.le_of_ble_eq_true rfl, Nat.le_of_ble_eq_true rfl⟩ ⟨Nat.le_of_ble_eq_true rfl, Nat.le_of_ble_eq_true rfl⟩ dX12_looked_28 (Nat.le_of_ble_eq_true rfl)) (fun x28 M28 h28 => ?_)
    obtain ⟨rfl, rfl⟩ := h28
    refine v_ci (pc := 31) (v_rV (c_X12_commonOf G l hL (q := p) h.1 ⟨by omega, by omega⟩ ⟨by omega, by omega⟩) rfl kV_X12_301 (v_rcO (li_55 hL) rfl (by decide)) ⟨Nat.le_of_ble_eq_true rfl, Nat.le_of_ble_eq_true rfl⟩ ⟨Nat.le_of_ble_eq_true rfl, Nat.le_of_ble_eq_true rfl⟩ dX12_looked_31 (Nat.le_of_ble_eq_true rfl)) (fun x31 M31 h31 => ?_)
    obtain ⟨rfl, rfl⟩ := h31
    refine v_aload_n (pc := 34) dX12_looked_34 rfl rfl ?_
    refine v_getH (pc := 35) fg_X12_126_12 dX12_looked_35 (li_55 hL) (lr_55_38 hL) ?_
    refine v_iload_n (pc := 38) dX12_looked_38 rfl rfl ?_
    refine v_ialoadN (pc := 39) dX12_looked_39 (li_75 hL) ⟨by omega, by omega⟩ (hbo.2 i q hqi).2 ?_
    refine v_icmp_eqN (pc := 40) (tgt := 45) ⟨by omega, by omega⟩ dX12_looked_40 (by decide) (fun c40 => ?_) (fun c40 => ?_)
    · refine v_iincN (pc := 45) (b := 1) dX12_looked_45 rfl (by decide) (by decide) rfl ?_
      refine v_goto (pc := 48) (tgt := 2) dX12_looked_48 (by decide) ?_
      exact ih (i + 1) (by omega) (by omega) (w_ff_n hf (by rw [w_lk, hqi]; exact if_pos c40))
    · refine v_iload_n (pc := 43) dX12_looked_43 rfl rfl ?_
      exact v_iret (pc := 44) dX12_looked_44 rfl rfl (Nat.le_of_ble_eq_true rfl) (Nat.le_of_ble_eq_true rfl) ⟨by first | (rw [s_looked, w_ff_s hf (x := nI i) (by rw [w_lk, hqi]; exact if_neg c40) (by omega)]; rfl) | (rw [s_looked, show bo.length = i by omega, hf]; rfl), rfl⟩
abbrev rm_X12_trace : Room := { frames := 1, cells := 0, slots := 0, locals := 23 }
set_option maxRecDepth 20000 in
theorem c_X12_trace (G : v_G) (l : Launch) {K : Nat × v_TY} {I : Nat → Nat → Int32} {J : Nat → Nat → Int64} {R : Nat → Nat → Option Nat} (hL : Lay K R) {ii : Int32} {t : List Nat} (h : MTr I t) : v_M G l yX12_trace cX12_trace 2 (some .int) rm_X12_trace [.ref 55, .int ii] (K, I, J, R) (v_Qi G (fun (x : Int32) (M' : v_MM) => x = s_trace t ii ∧ M' = (K, I, J, R))) := by
  refine v_of [some (.ref 55), some (.int ii)] (by decide) (Nat.le_of_ble_eq_true rfl) (Nat.le_of_ble_eq_true rfl) rfl ?_
  have hl := h.2.1
  refine v_aload_n (pc := 0) dX12_trace_0 rfl rfl ?_
  refine v_iload_n (pc := 1) dX12_trace_1 rfl rfl ?_
  refine v_iconst (pc := 2) (v := nI 0) dX12_trace_2 (by decide) ?_
  refine v_bipush (pc := 3) (v := nI 19) dX12_trace_3 (by decide) ?_
  refine v_ci (pc := 5) (v_rV (c_X12_in G l hL) rfl kV_X12_197 (v_rcO (li_55 hL) rfl (by decide)) ⟨Nat.le_of_ble_eq_true rfl, Nat.le_of_ble_eq_true rfl⟩ ⟨Nat.le_of_ble_eq_true rfl, Nat.le_of_ble_eq_true rfl⟩ dX12_trace_5 (Nat.le_of_ble_eq_true rfl)) (fun x5 M5 h5 => ?_)
  obtain ⟨rfl, rfl⟩ := h5
  refine v_if_eqP (pc := 8) (tgt := 28) dX12_trace_8 (by decide) (fun c8 => ?_) (fun c8 => ?_)
  · have e2 : x_nat ii (min 20 t.length) = none := by
      rcases x_sw (min 20 t.length) (by omega) ii with ⟨j, hj, rfl, -⟩ | z
      · exact absurd (v_in_iff (m := 19) (by decide) |>.mpr (vp_in_iff.mpr (by rw [nI_toInt (by omega)]; omega))) c8
      · exact z.1
    refine v_iconst (pc := 28) (v := -1) dX12_trace_28 (by decide) ?_
    exact v_iret (pc := 29) dX12_trace_29 rfl rfl (Nat.le_of_ble_eq_true rfl) (Nat.le_of_ble_eq_true rfl) ⟨by first | (simp only [s_trace, e2, e4]; done) | (simp only [s_trace, e2]; done) | (have e2 : x_nat (nI j) (min 20 t.length) = none := x_nat_n (fun z => by have := vp_in_iff.mp z; rw [nI_toInt (by omega)] at this; omega); simp only [s_trace, e2]), rfl⟩
  · obtain ⟨j, hj, rfl, -⟩ := x_nat_i (v_in_iff (by decide) |>.mp c8) (by decide)
    refine v_iload_n (pc := 11) dX12_trace_11 rfl rfl ?_
    refine v_aload_n (pc := 12) dX12_trace_12 rfl rfl ?_
    refine v_getV (pc := 13) fg_X12_178_12 dX12_trace_13 (li_55 hL) h.1 ?_
    refine v_icmp_geN (pc := 16) (tgt := 28) ⟨by omega, by omega⟩ dX12_trace_16 (by decide) (fun c16 => ?_) (fun c16 => ?_)
    · refine v_iconst (pc := 28) (v := -1) dX12_trace_28 (by decide) ?_
      exact v_iret (pc := 29) dX12_trace_29 rfl rfl (Nat.le_of_ble_eq_true rfl) (Nat.le_of_ble_eq_true rfl) ⟨by first | (simp only [s_trace, e2, e4]; done) | (simp only [s_trace, e2]; done) | (have e2 : x_nat (nI j) (min 20 t.length) = none := x_nat_n (fun z => by have := vp_in_iff.mp z; rw [nI_toInt (by omega)] at this; omega); simp only [s_trace, e2]), rfl⟩
    · obtain ⟨q, hqi⟩ : ∃ q, t[j]? = some q := ⟨_, List.getElem?_eq_getElem (show j < t.length by omega)⟩
      have e2 := x_nat_s (j := j) (n := min 20 t.length) (by omega) (by omega)
      have e4 : t.getD j 0 = q := by rw [List.getD_eq_getElem?_getD, hqi]; rfl
      refine v_aload_n (pc := 19) dX12_trace_19 rfl rfl ?_
      refine v_getH (pc := 20) fg_X12_181_12 dX12_trace_20 (li_55 hL) (lr_55_56 hL) ?_
      refine v_iload_n (pc := 23) dX12_trace_23 rfl rfl ?_
      refine v_ialoadN (pc := 24) dX12_trace_24 (li_86 hL) ⟨by omega, by omega⟩ (h.2.2 j q hqi) ?_
      refine v_goto (pc := 25) (tgt := 29) dX12_trace_25 (by decide) ?_
      exact v_iret (pc := 29) dX12_trace_29 rfl rfl (Nat.le_of_ble_eq_true rfl) (Nat.le_of_ble_eq_true rfl) ⟨by first | (simp only [s_trace, e2, e4]; done) | (simp only [s_trace, e2]; done) | (have e2 : x_nat (nI j) (min 20 t.length) = none := x_nat_n (fun z => by have := vp_in_iff.mp z; rw [nI_toInt (by omega)] at this; omega); simp only [s_trace, e2]), rfl⟩
abbrev rm_X12_taken : Room := { frames := 2, cells := 0, slots := 0, locals := 44 }
set_option maxRecDepth 20000 in
theorem c_X12_taken (G : v_G) (l : Launch) {K : Nat × v_TY} {I : Nat → Nat → Int32} {J : Nat → Nat → Int64} {R : Nat → Nat → Option Nat} (hL : Lay K R) {ii kk : Int32} {b : BS} {g : Nat} (h : MV I b g) : v_M G l yX12_taken cX12_taken 4 (some .int) rm_X12_taken [.ref 55, .int ii, .int kk] (K, I, J, R) (v_Qi G (fun (x : Int32) (M' : v_MM) => x = s_taken b ii kk ∧ M' = (K, I, J, R))) := by
  refine v_of [some (.ref 55), some (.int ii), some (.int kk), none] (by decide) (Nat.le_of_ble_eq_true rfl) (Nat.le_of_ble_eq_true rfl) rfl ?_
  have hn := VBn h
  refine v_aload_n (pc := 0) dX12_taken_0 rfl rfl ?_
  refine v_iload_n (pc := 1) dX12_taken_1 rfl rfl ?_
  refine v_iconst (pc := 2) (v := nI 0) dX12_taken_2 (by decide) ?_
  refine v_bipush (pc := 3) (v := nI 6) dX12_taken_3 (by decide) ?_
  refine v_ci (pc := 5) (v_rV (c_X12_in G l hL) rfl kV_X12_197 (v_rcO (li_55 hL) rfl (by decide)) ⟨Nat.le_of_ble_eq_true rfl, Nat.le_of_ble_eq_true rfl⟩ ⟨Nat.le_of_ble_eq_true rfl, Nat.le_of_ble_eq_true rfl⟩ dX12_taken_5 (Nat.le_of_ble_eq_true rfl)) (fun x5 M5 h5 => ?_)
  obtain ⟨rfl, rfl⟩ := h5
  refine v_if_neP (pc := 8) (tgt := 14) dX12_taken_8 (by decide) (fun c8 => ?_) (fun c8 => ?_)
  · obtain ⟨k, hk, ek, e1⟩ := x_nat_i (v_in_iff (by decide) |>.mp c8) (by decide)
    subst ek
    refine v_aload_n (pc := 14) dX12_taken_14 rfl rfl ?_
    refine v_iload_n (pc := 15) dX12_taken_15 rfl rfl ?_
    refine v_ci (pc := 16) (v_rV (c_X12_isPerson G l hL (MVn h) (by omega)) rfl kV_X12_213 (v_rcO (li_55 hL) rfl (by decide)) ⟨Nat.le_of_ble_eq_true rfl, Nat.le_of_ble_eq_true rfl⟩ ⟨Nat.le_of_ble_eq_true rfl, Nat.le_of_ble_eq_true rfl⟩ dX12_taken_16 (Nat.le_of_ble_eq_true rfl)) (fun x16 M16 h16 => ?_)
    obtain ⟨rfl, rfl⟩ := h16
    refine v_if_neP (pc := 19) (tgt := 25) dX12_taken_19 (by decide) (fun c19 => ?_) (fun c19 => ?_)
    · obtain ⟨j, hj, ej, e2⟩ := x_nat_i c19 (by omega)
      subst ej
      have hkb := VBk h j
      refine v_aload_n (pc := 25) dX12_taken_25 rfl rfl ?_
      refine v_getH (pc := 26) fg_X12_19_12 dX12_taken_26 (li_55 hL) (lr_55_3 hL) ?_
      refine v_iload_n (pc := 29) dX12_taken_29 rfl rfl ?_
      refine v_ialoadN (pc := 30) dX12_taken_30 (li_56 hL) ⟨by omega, by omega⟩ (MVk h (by omega)) ?_
      refine v_istore_n (pc := 31) dX12_taken_31 rfl (by decide) rfl ?_
      refine v_iload_n (pc := 32) dX12_taken_32 rfl rfl ?_
      refine v_if_eqN (pc := 33) (tgt := 72) (by omega) dX12_taken_33 (by decide) (fun c33 => ?_) (fun c33 => ?_)
      · refine v_iload_n (pc := 72) dX12_taken_72 rfl rfl ?_
        refine v_goto (pc := 73) (tgt := 78) dX12_taken_73 (by decide) ?_
        exact v_iret (pc := 78) dX12_taken_78 rfl rfl (Nat.le_of_ble_eq_true rfl) (Nat.le_of_ble_eq_true rfl) ⟨by first | (simp only [s_taken, e1]; done) | (simp only [s_taken, e1, e2]; done) | (simp only [s_taken, e1, e2]; rw [if_pos]; simp [k_sub]; omega) | (simp only [s_taken, e1, e2]; rw [if_neg]; simp [k_sub]; omega), rfl⟩
      · refine v_iload_n (pc := 36) dX12_taken_36 rfl rfl ?_
        refine v_iload_n (pc := 37) dX12_taken_37 rfl rfl ?_
        refine v_icmp_eqN (pc := 38) (tgt := 72) ⟨by omega, by omega⟩ dX12_taken_38 (by decide) (fun c38 => ?_) (fun c38 => ?_)
        · refine v_iload_n (pc := 72) dX12_taken_72 rfl rfl ?_
          refine v_goto (pc := 73) (tgt := 78) dX12_taken_73 (by decide) ?_
          exact v_iret (pc := 78) dX12_taken_78 rfl rfl (Nat.le_of_ble_eq_true rfl) (Nat.le_of_ble_eq_true rfl) ⟨by first | (simp only [s_taken, e1]; done) | (simp only [s_taken, e1, e2]; done) | (simp only [s_taken, e1, e2]; rw [if_pos]; simp [k_sub]; omega) | (simp only [s_taken, e1, e2]; rw [if_neg]; simp [k_sub]; omega), rfl⟩
        · refine v_iload_n (pc := 41) dX12_taken_41 rfl rfl ?_
          refine v_iconst (pc := 42) (v := nI 1) dX12_taken_42 (by decide) ?_
          refine v_icmp_neN (pc := 43) (tgt := 51) ⟨by omega, by omega⟩ dX12_taken_43 (by decide) (fun c43 => ?_) (fun c43 => ?_)
          · refine v_iload_n (pc := 51) dX12_taken_51 rfl rfl ?_
            refine v_iconst (pc := 52) (v := nI 2) dX12_taken_52 (by decide) ?_
            refine v_icmp_neN (pc := 53) (tgt := 61) ⟨by omega, by omega⟩ dX12_taken_53 (by decide) (fun c53 => ?_) (fun c53 => ?_)
            · refine v_iload_n (pc := 61) dX12_taken_61 rfl rfl ?_
              refine v_iconst (pc := 62) (v := nI 3) dX12_taken_62 (by decide) ?_
              refine v_icmp_neN (pc := 63) (tgt := 76) ⟨by omega, by omega⟩ dX12_taken_63 (by decide) (fun c63 => ?_) (fun c63 => ?_)
              · refine v_bipush (pc := 76) (v := -12) dX12_taken_76 (by decide) ?_
                exact v_iret (pc := 78) dX12_taken_78 rfl rfl (Nat.le_of_ble_eq_true rfl) (Nat.le_of_ble_eq_true rfl) ⟨by first | (simp only [s_taken, e1]; done) | (simp only [s_taken, e1, e2]; done) | (simp only [s_taken, e1, e2]; rw [if_pos]; simp [k_sub]; omega) | (simp only [s_taken, e1, e2]; rw [if_neg]; simp [k_sub]; omega), rfl⟩
              · refine v_iload_n (pc := 66) dX12_taken_66 rfl rfl ?_
                refine v_bipush (pc := 67) (v := nI 6) dX12_taken_67 (by decide) ?_
                refine v_icmp_neN (pc := 69) (tgt := 76) ⟨by omega, by omega⟩ dX12_taken_69 (by decide) (fun c69 => ?_) (fun c69 => ?_)
                · refine v_bipush (pc := 76) (v := -12) dX12_taken_76 (by decide) ?_
                  exact v_iret (pc := 78) dX12_taken_78 rfl rfl (Nat.le_of_ble_eq_true rfl) (Nat.le_of_ble_eq_true rfl) ⟨by first | (simp only [s_taken, e1]; done) | (simp only [s_taken, e1, e2]; done) | (simp only [s_taken, e1, e2]; rw [if_pos]; simp [k_sub]; omega) | (simp only [s_taken, e1, e2]; rw [if_neg]; simp [k_sub]; omega), rfl⟩
                · refine v_iload_n (pc := 72) dX12_taken_72 rfl rfl ?_
                  refine v_goto (pc := 73) (tgt := 78) dX12_taken_73 (by decide) ?_
                  exact v_iret (pc := 78) dX12_taken_78 rfl rfl (Nat.le_of_ble_eq_true rfl) (Nat.le_of_ble_eq_true rfl) ⟨by first | (simp only [s_taken, e1]; done) | (simp only [s_taken, e1, e2]; done) | (simp only [s_taken, e1, e2]; rw [if_pos]; simp [k_sub]; omega) | (simp only [s_taken, e1, e2]; rw [if_neg]; simp [k_sub]; omega), rfl⟩
            · refine v_iload_n (pc := 56) dX12_taken_56 rfl rfl ?_
              refine v_iconst (pc := 57) (v := nI 5) dX12_taken_57 (by decide) ?_
              refine v_icmp_eqN (pc := 58) (tgt := 72) ⟨by omega, by omega⟩ dX12_taken_58 (by decide) (fun c58 => ?_) (fun c58 => ?_)
              · refine v_iload_n (pc := 72) dX12_taken_72 rfl rfl ?_
                refine v_goto (pc := 73) (tgt := 78) dX12_taken_73 (by decide) ?_
                exact v_iret (pc := 78) dX12_taken_78 rfl rfl (Nat.le_of_ble_eq_true rfl) (Nat.le_of_ble_eq_true rfl) ⟨by first | (simp only [s_taken, e1]; done) | (simp only [s_taken, e1, e2]; done) | (simp only [s_taken, e1, e2]; rw [if_pos]; simp [k_sub]; omega) | (simp only [s_taken, e1, e2]; rw [if_neg]; simp [k_sub]; omega), rfl⟩
              · refine v_iload_n (pc := 61) dX12_taken_61 rfl rfl ?_
                refine v_iconst (pc := 62) (v := nI 3) dX12_taken_62 (by decide) ?_
                refine v_icmp_neN (pc := 63) (tgt := 76) ⟨by omega, by omega⟩ dX12_taken_63 (by decide) (fun c63 => ?_) (fun c63 => ?_)
                · refine v_bipush (pc := 76) (v := -12) dX12_taken_76 (by decide) ?_
                  exact v_iret (pc := 78) dX12_taken_78 rfl rfl (Nat.le_of_ble_eq_true rfl) (Nat.le_of_ble_eq_true rfl) ⟨by first | (simp only [s_taken, e1]; done) | (simp only [s_taken, e1, e2]; done) | (simp only [s_taken, e1, e2]; rw [if_pos]; simp [k_sub]; omega) | (simp only [s_taken, e1, e2]; rw [if_neg]; simp [k_sub]; omega), rfl⟩
                · refine v_iload_n (pc := 66) dX12_taken_66 rfl rfl ?_
                  refine v_bipush (pc := 67) (v := nI 6) dX12_taken_67 (by decide) ?_
                  refine v_icmp_neN (pc := 69) (tgt := 76) ⟨by omega, by omega⟩ dX12_taken_69 (by decide) (fun c69 => ?_) (fun c69 => ?_)
                  · refine v_bipush (pc := 76) (v := -12) dX12_taken_76 (by decide) ?_
                    exact v_iret (pc := 78) dX12_taken_78 rfl rfl (Nat.le_of_ble_eq_true rfl) (Nat.le_of_ble_eq_true rfl) ⟨by first | (simp only [s_taken, e1]; done) | (simp only [s_taken, e1, e2]; done) | (simp only [s_taken, e1, e2]; rw [if_pos]; simp [k_sub]; omega) | (simp only [s_taken, e1, e2]; rw [if_neg]; simp [k_sub]; omega), rfl⟩
                  · refine v_iload_n (pc := 72) dX12_taken_72 rfl rfl ?_
                    refine v_goto (pc := 73) (tgt := 78) dX12_taken_73 (by decide) ?_
                    exact v_iret (pc := 78) dX12_taken_78 rfl rfl (Nat.le_of_ble_eq_true rfl) (Nat.le_of_ble_eq_true rfl) ⟨by first | (simp only [s_taken, e1]; done) | (simp only [s_taken, e1, e2]; done) | (simp only [s_taken, e1, e2]; rw [if_pos]; simp [k_sub]; omega) | (simp only [s_taken, e1, e2]; rw [if_neg]; simp [k_sub]; omega), rfl⟩
          · refine v_iload_n (pc := 46) dX12_taken_46 rfl rfl ?_
            refine v_iconst (pc := 47) (v := nI 4) dX12_taken_47 (by decide) ?_
            refine v_icmp_eqN (pc := 48) (tgt := 72) ⟨by omega, by omega⟩ dX12_taken_48 (by decide) (fun c48 => ?_) (fun c48 => ?_)
            · refine v_iload_n (pc := 72) dX12_taken_72 rfl rfl ?_
              refine v_goto (pc := 73) (tgt := 78) dX12_taken_73 (by decide) ?_
              exact v_iret (pc := 78) dX12_taken_78 rfl rfl (Nat.le_of_ble_eq_true rfl) (Nat.le_of_ble_eq_true rfl) ⟨by first | (simp only [s_taken, e1]; done) | (simp only [s_taken, e1, e2]; done) | (simp only [s_taken, e1, e2]; rw [if_pos]; simp [k_sub]; omega) | (simp only [s_taken, e1, e2]; rw [if_neg]; simp [k_sub]; omega), rfl⟩
            · refine v_iload_n (pc := 51) dX12_taken_51 rfl rfl ?_
              refine v_iconst (pc := 52) (v := nI 2) dX12_taken_52 (by decide) ?_
              refine v_icmp_neN (pc := 53) (tgt := 61) ⟨by omega, by omega⟩ dX12_taken_53 (by decide) (fun c53 => ?_) (fun c53 => ?_)
              · refine v_iload_n (pc := 61) dX12_taken_61 rfl rfl ?_
                refine v_iconst (pc := 62) (v := nI 3) dX12_taken_62 (by decide) ?_
                refine v_icmp_neN (pc := 63) (tgt := 76) ⟨by omega, by omega⟩ dX12_taken_63 (by decide) (fun c63 => ?_) (fun c63 => ?_)
                · refine v_bipush (pc := 76) (v := -12) dX12_taken_76 (by decide) ?_
                  exact v_iret (pc := 78) dX12_taken_78 rfl rfl (Nat.le_of_ble_eq_true rfl) (Nat.le_of_ble_eq_true rfl) ⟨by first | (simp only [s_taken, e1]; done) | (simp only [s_taken, e1, e2]; done) | (simp only [s_taken, e1, e2]; rw [if_pos]; simp [k_sub]; omega) | (simp only [s_taken, e1, e2]; rw [if_neg]; simp [k_sub]; omega), rfl⟩
                · refine v_iload_n (pc := 66) dX12_taken_66 rfl rfl ?_
                  refine v_bipush (pc := 67) (v := nI 6) dX12_taken_67 (by decide) ?_
                  refine v_icmp_neN (pc := 69) (tgt := 76) ⟨by omega, by omega⟩ dX12_taken_69 (by decide) (fun c69 => ?_) (fun c69 => ?_)
                  · refine v_bipush (pc := 76) (v := -12) dX12_taken_76 (by decide) ?_
                    exact v_iret (pc := 78) dX12_taken_78 rfl rfl (Nat.le_of_ble_eq_true rfl) (Nat.le_of_ble_eq_true rfl) ⟨by first | (simp only [s_taken, e1]; done) | (simp only [s_taken, e1, e2]; done) | (simp only [s_taken, e1, e2]; rw [if_pos]; simp [k_sub]; omega) | (simp only [s_taken, e1, e2]; rw [if_neg]; simp [k_sub]; omega), rfl⟩
                  · refine v_iload_n (pc := 72) dX12_taken_72 rfl rfl ?_
                    refine v_goto (pc := 73) (tgt := 78) dX12_taken_73 (by decide) ?_
                    exact v_iret (pc := 78) dX12_taken_78 rfl rfl (Nat.le_of_ble_eq_true rfl) (Nat.le_of_ble_eq_true rfl) ⟨by first | (simp only [s_taken, e1]; done) | (simp only [s_taken, e1, e2]; done) | (simp only [s_taken, e1, e2]; rw [if_pos]; simp [k_sub]; omega) | (simp only [s_taken, e1, e2]; rw [if_neg]; simp [k_sub]; omega), rfl⟩
              · refine v_iload_n (pc := 56) dX12_taken_56 rfl rfl ?_
                refine v_iconst (pc := 57) (v := nI 5) dX12_taken_57 (by decide) ?_
                refine v_icmp_eqN (pc := 58) (tgt := 72) ⟨by omega, by omega⟩ dX12_taken_58 (by decide) (fun c58 => ?_) (fun c58 => ?_)
                · refine v_iload_n (pc := 72) dX12_taken_72 rfl rfl ?_
                  refine v_goto (pc := 73) (tgt := 78) dX12_taken_73 (by decide) ?_
                  exact v_iret (pc := 78) dX12_taken_78 rfl rfl (Nat.le_of_ble_eq_true rfl) (Nat.le_of_ble_eq_true rfl) ⟨by first | (simp only [s_taken, e1]; done) | (simp only [s_taken, e1, e2]; done) | (simp only [s_taken, e1, e2]; rw [if_pos]; simp [k_sub]; omega) | (simp only [s_taken, e1, e2]; rw [if_neg]; simp [k_sub]; omega), rfl⟩
                · refine v_iload_n (pc := 61) dX12_taken_61 rfl rfl ?_
                  refine v_iconst (pc := 62) (v := nI 3) dX12_taken_62 (by decide) ?_
                  refine v_icmp_neN (pc := 63) (tgt := 76) ⟨by omega, by omega⟩ dX12_taken_63 (by decide) (fun c63 => ?_) (fun c63 => ?_)
                  · refine v_bipush (pc := 76) (v := -12) dX12_taken_76 (by decide) ?_
                    exact v_iret (pc := 78) dX12_taken_78 rfl rfl (Nat.le_of_ble_eq_true rfl) (Nat.le_of_ble_eq_true rfl) ⟨by first | (simp only [s_taken, e1]; done) | (simp only [s_taken, e1, e2]; done) | (simp only [s_taken, e1, e2]; rw [if_pos]; simp [k_sub]; omega) | (simp only [s_taken, e1, e2]; rw [if_neg]; simp [k_sub]; omega), rfl⟩
                  · refine v_iload_n (pc := 66) dX12_taken_66 rfl rfl ?_
                    refine v_bipush (pc := 67) (v := nI 6) dX12_taken_67 (by decide) ?_
                    refine v_icmp_neN (pc := 69) (tgt := 76) ⟨by omega, by omega⟩ dX12_taken_69 (by decide) (fun c69 => ?_) (fun c69 => ?_)
                    · refine v_bipush (pc := 76) (v := -12) dX12_taken_76 (by decide) ?_
                      exact v_iret (pc := 78) dX12_taken_78 rfl rfl (Nat.le_of_ble_eq_true rfl) (Nat.le_of_ble_eq_true rfl) ⟨by first | (simp only [s_taken, e1]; done) | (simp only [s_taken, e1, e2]; done) | (simp only [s_taken, e1, e2]; rw [if_pos]; simp [k_sub]; omega) | (simp only [s_taken, e1, e2]; rw [if_neg]; simp [k_sub]; omega), rfl⟩
                    · refine v_iload_n (pc := 72) dX12_taken_72 rfl rfl ?_
                      refine v_goto (pc := 73) (tgt := 78) dX12_taken_73 (by decide) ?_
                      exact v_iret (pc := 78) dX12_taken_78 rfl rfl (Nat.le_of_ble_eq_true rfl) (Nat.le_of_ble_eq_true rfl) ⟨by first | (simp only [s_taken, e1]; done) | (simp only [s_taken, e1, e2]; done) | (simp only [s_taken, e1, e2]; rw [if_pos]; simp [k_sub]; omega) | (simp only [s_taken, e1, e2]; rw [if_neg]; simp [k_sub]; omega), rfl⟩
    · have e2 := x_nat_n c19
      refine v_bipush (pc := 22) (v := -11) dX12_taken_22 (by decide) ?_
      exact v_iret (pc := 24) dX12_taken_24 rfl rfl (Nat.le_of_ble_eq_true rfl) (Nat.le_of_ble_eq_true rfl) ⟨by first | (simp only [s_taken, e1]; done) | (simp only [s_taken, e1, e2]; done) | (simp only [s_taken, e1, e2]; rw [if_pos]; simp [k_sub]; omega) | (simp only [s_taken, e1, e2]; rw [if_neg]; simp [k_sub]; omega), rfl⟩
  · have e1 : x_nat kk 7 = none := x_nat_n (fun z => c8 (v_in_iff (by decide) |>.mpr z))
    refine v_bipush (pc := 11) (v := -2) dX12_taken_11 (by decide) ?_
    exact v_iret (pc := 13) dX12_taken_13 rfl rfl (Nat.le_of_ble_eq_true rfl) (Nat.le_of_ble_eq_true rfl) ⟨by first | (simp only [s_taken, e1]; done) | (simp only [s_taken, e1, e2]; done) | (simp only [s_taken, e1, e2]; rw [if_pos]; simp [k_sub]; omega) | (simp only [s_taken, e1, e2]; rw [if_neg]; simp [k_sub]; omega), rfl⟩
abbrev rm_X12_count : Room := { frames := 0, cells := 0, slots := 0, locals := 0 }
set_option maxRecDepth 20000 in
theorem c_X12_count (G : v_G) (l : Launch) {K : Nat × v_TY} {I : Nat → Nat → Int32} {J : Nat → Nat → Int64} {R : Nat → Nat → Option Nat} (hL : Lay K R) {ww : Int32} {n t w k f r : Nat} (h0 : I 55 0 = nI n) (h1 : I 55 8 = nI t) (h2 : I 55 34 = nI w) (h3 : I 55 35 = nI k) (h4 : I 55 10 = nI f) (h5 : I 55 55 = nI r) : v_M G l yX12_count cX12_count 2 (some .int) rm_X12_count [.ref 55, .int ww] (K, I, J, R) (v_Qi G (fun (x : Int32) (M' : v_MM) => x = s_count n t w k f r ww ∧ M' = (K, I, J, R))) := by
  refine v_of [some (.ref 55), some (.int ww)] (by decide) (Nat.le_of_ble_eq_true rfl) (Nat.le_of_ble_eq_true rfl) rfl ?_
  refine v_iload_n (pc := 0) dX12_count_0 rfl rfl ?_
  rcases x_sw6 ww with rfl | rfl | rfl | rfl | rfl | rfl | ⟨e2, e3⟩
  · have e2 : x_nat (nI 0) 6 = some 0 := rfl
    refine v_tableIn (pc := 1) (tgt := 40) dX12_count_1 (by decide) (by decide) rfl (by decide) ?_
    refine v_aload_n (pc := 40) dX12_count_40 rfl rfl ?_
    refine v_getV (pc := 41) fg_X12_7_12 dX12_count_41 (li_55 hL) h0 ?_
    exact v_iret (pc := 44) dX12_count_44 rfl rfl (Nat.le_of_ble_eq_true rfl) (Nat.le_of_ble_eq_true rfl) ⟨by simp only [s_count, e2], rfl⟩
  · have e2 : x_nat (nI 1) 6 = some 1 := rfl
    refine v_tableIn (pc := 1) (tgt := 45) dX12_count_1 (by decide) (by decide) rfl (by decide) ?_
    refine v_aload_n (pc := 45) dX12_count_45 rfl rfl ?_
    refine v_getV (pc := 46) fg_X12_35_12 dX12_count_46 (li_55 hL) h1 ?_
    exact v_iret (pc := 49) dX12_count_49 rfl rfl (Nat.le_of_ble_eq_true rfl) (Nat.le_of_ble_eq_true rfl) ⟨by simp only [s_count, e2], rfl⟩
  · have e2 : x_nat (nI 2) 6 = some 2 := rfl
    refine v_tableIn (pc := 1) (tgt := 50) dX12_count_1 (by decide) (by decide) rfl (by decide) ?_
    refine v_aload_n (pc := 50) dX12_count_50 rfl rfl ?_
    refine v_getV (pc := 51) fg_X12_114_12 dX12_count_51 (li_55 hL) h2 ?_
    exact v_iret (pc := 54) dX12_count_54 rfl rfl (Nat.le_of_ble_eq_true rfl) (Nat.le_of_ble_eq_true rfl) ⟨by simp only [s_count, e2], rfl⟩
  · have e2 : x_nat (nI 3) 6 = some 3 := rfl
    refine v_tableIn (pc := 1) (tgt := 55) dX12_count_1 (by decide) (by decide) rfl (by decide) ?_
    refine v_aload_n (pc := 55) dX12_count_55 rfl rfl ?_
    refine v_getV (pc := 56) fg_X12_117_12 dX12_count_56 (li_55 hL) h3 ?_
    exact v_iret (pc := 59) dX12_count_59 rfl rfl (Nat.le_of_ble_eq_true rfl) (Nat.le_of_ble_eq_true rfl) ⟨by simp only [s_count, e2], rfl⟩
  · have e2 : x_nat (nI 4) 6 = some 4 := rfl
    refine v_tableIn (pc := 1) (tgt := 60) dX12_count_1 (by decide) (by decide) rfl (by decide) ?_
    refine v_aload_n (pc := 60) dX12_count_60 rfl rfl ?_
    refine v_getV (pc := 61) fg_X12_41_12 dX12_count_61 (li_55 hL) h4 ?_
    exact v_iret (pc := 64) dX12_count_64 rfl rfl (Nat.le_of_ble_eq_true rfl) (Nat.le_of_ble_eq_true rfl) ⟨by simp only [s_count, e2], rfl⟩
  · have e2 : x_nat (nI 5) 6 = some 5 := rfl
    refine v_tableIn (pc := 1) (tgt := 65) dX12_count_1 (by decide) (by decide) rfl (by decide) ?_
    refine v_aload_n (pc := 65) dX12_count_65 rfl rfl ?_
    refine v_getV (pc := 66) fg_X12_178_12 dX12_count_66 (li_55 hL) h5 ?_
    exact v_iret (pc := 69) dX12_count_69 rfl rfl (Nat.le_of_ble_eq_true rfl) (Nat.le_of_ble_eq_true rfl) ⟨by simp only [s_count, e2], rfl⟩
  · refine v_tableOut (pc := 1) (tgt := 70) dX12_count_1 e3 (by decide) ?_
    refine v_bipush (pc := 70) (v := -2) dX12_count_70 (by decide) ?_
    exact v_iret (pc := 72) dX12_count_72 rfl rfl (Nat.le_of_ble_eq_true rfl) (Nat.le_of_ble_eq_true rfl) ⟨by simp only [s_count, e2], rfl⟩
abbrev rm_X12_year : Room := { frames := 0, cells := 0, slots := 0, locals := 0 }
set_option maxRecDepth 20000 in
theorem c_X12_year (G : v_G) (l : Launch) {K : Nat × v_TY} {I : Nat → Nat → Int32} {J : Nat → Nat → Int64} {R : Nat → Nat → Option Nat} (hL : Lay K R) {y : Nat} (h : I 55 1 = nI y) (hy : y ≤ 999) : v_M G l yX12_year cX12_year 1 (some .int) rm_X12_year [.ref 55] (K, I, J, R) (v_Qi G (fun (x : Int32) (M' : v_MM) => ((y = 999 ∧ x = -3 ∧ M' = (K, I, J, R)) ∨ (y < 999 ∧ x = nI (y + 1) ∧ M' = (K, v_u I 55 1 (nI (y + 1)), J, R))))) := by
  refine v_of [some (.ref 55)] (by decide) (Nat.le_of_ble_eq_true rfl) (Nat.le_of_ble_eq_true rfl) rfl ?_
  refine v_aload_n (pc := 0) dX12_year_0 rfl rfl ?_
  refine v_getV (pc := 1) fg_X12_13_12 dX12_year_1 (li_55 hL) h ?_
  refine v_sipush (pc := 4) (v := nI 999) dX12_year_4 (by decide) ?_
  refine v_icmp_neN (pc := 7) (tgt := 13) ⟨by omega, by omega⟩ dX12_year_7 (by decide) (fun c7 => ?_) (fun c7 => ?_)
  · refine v_aload_n (pc := 13) dX12_year_13 rfl rfl ?_
    refine v_dup (pc := 14) dX12_year_14 rfl ?_
    refine v_getV (pc := 15) fg_X12_13_12 dX12_year_15 (li_55 hL) h ?_
    refine v_iconst (pc := 18) (v := nI 1) dX12_year_18 (by decide) ?_
    refine v_iaddN (pc := 19) dX12_year_19 ?_
    refine v_putI (pc := 20) pg_X12_13_12 (fun h => by cases h) dX12_year_20 (li_55 hL) rfl rfl ?_
    refine v_aload_n (pc := 23) dX12_year_23 rfl rfl ?_
    refine v_getV (pc := 24) fg_X12_13_12 dX12_year_24 (li_55 hL) v_u_same ?_
    exact v_iret (pc := 27) dX12_year_27 rfl rfl (Nat.le_of_ble_eq_true rfl) (Nat.le_of_ble_eq_true rfl) (by first | exact Or.inl ⟨by omega, rfl, rfl⟩ | exact Or.inr ⟨by omega, rfl, rfl⟩)
  · refine v_bipush (pc := 10) (v := -3) dX12_year_10 (by decide) ?_
    exact v_iret (pc := 12) dX12_year_12 rfl rfl (Nat.le_of_ble_eq_true rfl) (Nat.le_of_ble_eq_true rfl) (by first | exact Or.inl ⟨by omega, rfl, rfl⟩ | exact Or.inr ⟨by omega, rfl, rfl⟩)
abbrev rm_X12_feed : Room := { frames := 1, cells := 0, slots := 0, locals := 23 }
set_option maxRecDepth 20000 in
theorem c_X12_feed (G : v_G) (l : Launch) {K : Nat × v_TY} {I : Nat → Nat → Int32} {J : Nat → Nat → Int64} {R : Nat → Nat → Option Nat} (hL : Lay K R) {ss : Int32} {f : Nat} (h : I 55 10 = nI f) (hf : f ≤ 100) : v_M G l yX12_feed cX12_feed 2 (some .int) rm_X12_feed [.ref 55, .int ss] (K, I, J, R) (v_Qi G (fun (x : Int32) (M' : v_MM) => ((x_nat ss 128 = none ∧ x = -2 ∧ M' = (K, I, J, R)) ∨ ((∃ s, s < 128 ∧ x_nat ss 128 = some s) ∧ f = 100 ∧ x = -4 ∧ M' = (K, I, J, R)) ∨ (∃ s, s < 128 ∧ ss = nI s ∧ x_nat ss 128 = some s ∧ f < 100 ∧ x = nI (f + 1) ∧ M' = (K, v_u (v_u I 61 f (nI s)) 55 10 (nI (f + 1)), J, R))))) := by
  refine v_of [some (.ref 55), some (.int ss)] (by decide) (Nat.le_of_ble_eq_true rfl) (Nat.le_of_ble_eq_true rfl) rfl ?_
  refine v_aload_n (pc := 0) dX12_feed_0 rfl rfl ?_
  refine v_iload_n (pc := 1) dX12_feed_1 rfl rfl ?_
  refine v_iconst (pc := 2) (v := nI 0) dX12_feed_2 (by decide) ?_
  refine v_bipush (pc := 3) (v := nI 127) dX12_feed_3 (by decide) ?_
  refine v_ci (pc := 5) (v_rV (c_X12_in G l hL) rfl kV_X12_197 (v_rcO (li_55 hL) rfl (by decide)) ⟨Nat.le_of_ble_eq_true rfl, Nat.le_of_ble_eq_true rfl⟩ ⟨Nat.le_of_ble_eq_true rfl, Nat.le_of_ble_eq_true rfl⟩ dX12_feed_5 (Nat.le_of_ble_eq_true rfl)) (fun x5 M5 h5 => ?_)
  obtain ⟨rfl, rfl⟩ := h5
  refine v_if_neP (pc := 8) (tgt := 14) dX12_feed_8 (by decide) (fun c8 => ?_) (fun c8 => ?_)
  · obtain ⟨s, hs, rfl, e2⟩ := x_nat_i (v_in_iff (m := 127) (by decide) |>.mp c8) (by decide)
    refine v_aload_n (pc := 14) dX12_feed_14 rfl rfl ?_
    refine v_getV (pc := 15) fg_X12_41_12 dX12_feed_15 (li_55 hL) h ?_
    refine v_bipush (pc := 18) (v := nI 100) dX12_feed_18 (by decide) ?_
    refine v_icmp_neN (pc := 20) (tgt := 26) ⟨by omega, by omega⟩ dX12_feed_20 (by decide) (fun c20 => ?_) (fun c20 => ?_)
    · refine v_aload_n (pc := 26) dX12_feed_26 rfl rfl ?_
      refine v_getH (pc := 27) fg_X12_50_12 dX12_feed_27 (li_55 hL) (lr_55_13 hL) ?_
      refine v_aload_n (pc := 30) dX12_feed_30 rfl rfl ?_
      refine v_getV (pc := 31) fg_X12_41_12 dX12_feed_31 (li_55 hL) h ?_
      refine v_iload_n (pc := 34) dX12_feed_34 rfl rfl ?_
      refine v_iastoreN (pc := 35) dX12_feed_35 (li_61 hL) ⟨by omega, by omega⟩ ?_
      refine v_aload_n (pc := 36) dX12_feed_36 rfl rfl ?_
      refine v_dup (pc := 37) dX12_feed_37 rfl ?_
      refine v_getV (pc := 38) fg_X12_41_12 dX12_feed_38 (li_55 hL) ((v_u_h (by decide)).trans h) ?_
      refine v_iconst (pc := 41) (v := nI 1) dX12_feed_41 (by decide) ?_
      refine v_iaddN (pc := 42) dX12_feed_42 ?_
      refine v_putI (pc := 43) pg_X12_41_12 (fun h => by cases h) dX12_feed_43 (li_55 hL) rfl rfl ?_
      refine v_aload_n (pc := 46) dX12_feed_46 rfl rfl ?_
      refine v_getV (pc := 47) fg_X12_41_12 dX12_feed_47 (li_55 hL) v_u_same ?_
      exact v_iret (pc := 50) dX12_feed_50 rfl rfl (Nat.le_of_ble_eq_true rfl) (Nat.le_of_ble_eq_true rfl) (by first | exact Or.inl ⟨e2, rfl, rfl⟩ | exact Or.inr (Or.inl ⟨⟨s, hs, e2⟩, by omega, rfl, rfl⟩) | exact Or.inr (Or.inr ⟨s, hs, rfl, e2, by omega, rfl, rfl⟩))
    · refine v_bipush (pc := 23) (v := -4) dX12_feed_23 (by decide) ?_
      exact v_iret (pc := 25) dX12_feed_25 rfl rfl (Nat.le_of_ble_eq_true rfl) (Nat.le_of_ble_eq_true rfl) (by first | exact Or.inl ⟨e2, rfl, rfl⟩ | exact Or.inr (Or.inl ⟨⟨s, hs, e2⟩, by omega, rfl, rfl⟩) | exact Or.inr (Or.inr ⟨s, hs, rfl, e2, by omega, rfl, rfl⟩))
  · have e2 := x_nat_n (fun z => c8 (v_in_iff (m := 127) (by decide) |>.mpr z))
    refine v_bipush (pc := 11) (v := -2) dX12_feed_11 (by decide) ?_
    exact v_iret (pc := 13) dX12_feed_13 rfl rfl (Nat.le_of_ble_eq_true rfl) (Nat.le_of_ble_eq_true rfl) (by first | exact Or.inl ⟨e2, rfl, rfl⟩ | exact Or.inr (Or.inl ⟨⟨s, hs, e2⟩, by omega, rfl, rfl⟩) | exact Or.inr (Or.inr ⟨s, hs, rfl, e2, by omega, rfl, rfl⟩))
