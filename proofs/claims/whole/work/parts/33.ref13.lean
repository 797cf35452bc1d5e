/-! THE REFERENCE: item, read, judge -/
theorem x_cmp0 {z c : Int64} : lg_cmp z c = 0 ↔ z = c := by
  unfold lg_cmp
  constructor
  · intro h
    split at h
    · exact absurd h (by decide)
    · split at h
      · assumption
      · exact absurd h (by decide)
  · rintro rfl
    simp
theorem x_le1 {i : Int32} {n : Nat} (hn : n < 1000) : (nI 0 ≤ i ∧ i ≤ nI n - nI 1) ↔ vp_in i n := v_inm hn
abbrev rm_X12_narrow : Room := { frames := 0, cells := 0, slots := 0, locals := 0 }
set_option maxRecDepth 20000 in
theorem c_X12_narrow (G : v_G) (l : Launch) {K : Nat × v_TY} {I : Nat → Nat → Int32} {J : Nat → Nat → Int64} {R : Nat → Nat → Option Nat} (hL : Lay K R) {s : Nat} {z : Int64} (hs : s < 5) : v_M G l yX12_narrow cX12_narrow 4 (some .long) rm_X12_narrow [.ref 55, .int (nI s), .long z] (K, I, J, R) (v_Ql G (fun (x : Int64) (M' : v_MM) => x = w_nar s z ∧ M' = (K, I, J, R))) := by
  refine v_of [some (.ref 55), some (.int (nI s)), some (.long z), none] (by decide) (Nat.le_of_ble_eq_true rfl) (Nat.le_of_ble_eq_true rfl) rfl ?_
  rcases (show s = 0 ∨ s = 1 ∨ s = 2 ∨ s = 3 ∨ s = 4 by omega) with rfl | rfl | rfl | rfl | rfl
  · refine v_iload_n (pc := 0) dX12_narrow_0 rfl rfl ?_
    refine v_if_neN (pc := 1) (tgt := 11) (by omega) dX12_narrow_1 (by decide) (fun c1 => ?_) (fun c1 => ?_)
    · refine v_iload_n (pc := 11) dX12_narrow_11 rfl rfl ?_
      refine v_iconst (pc := 12) (v := nI 1) dX12_narrow_12 (by decide) ?_
      refine v_icmp_neN (pc := 13) (tgt := 23) ⟨by omega, by omega⟩ dX12_narrow_13 (by decide) (fun c13 => ?_) (fun c13 => ?_)
      · refine v_iload_n (pc := 23) dX12_narrow_23 rfl rfl ?_
        refine v_iconst (pc := 24) (v := nI 2) dX12_narrow_24 (by decide) ?_
        refine v_icmp_neN (pc := 25) (tgt := 34) ⟨by omega, by omega⟩ dX12_narrow_25 (by decide) (fun c25 => ?_) (fun c25 => ?_)
        · refine v_iload_n (pc := 34) dX12_narrow_34 rfl rfl ?_
          refine v_iconst (pc := 35) (v := nI 4) dX12_narrow_35 (by decide) ?_
          refine v_icmp_neN (pc := 36) (tgt := 53) ⟨by omega, by omega⟩ dX12_narrow_36 (by decide) (fun c36 => ?_) (fun c36 => ?_)
          · refine v_lload_n (pc := 53) dX12_narrow_53 rfl rfl ?_
            exact v_lret (pc := 54) dX12_narrow_54 rfl (Nat.le_of_ble_eq_true rfl) (Nat.le_of_ble_eq_true rfl) ⟨by first | omega | rfl | (exact (if_pos (x_cmp0.mp c42)).symm) | (exact (if_neg (fun q => c42 (x_cmp0.mpr q))).symm), rfl⟩
          · refine v_lload_n (pc := 39) dX12_narrow_39 rfl rfl ?_
            refine v_lconst (pc := 40) (v := 0) dX12_narrow_40 (by decide) ?_
            refine v_lcmp (pc := 41) dX12_narrow_41 ?_
            refine v_if_eq (pc := 42) (tgt := 49) dX12_narrow_42 (by decide) (fun c42 => ?_) (fun c42 => ?_)
            · refine v_lconst (pc := 49) (v := 0) dX12_narrow_49 (by decide) ?_
              refine v_goto (pc := 50) (tgt := 54) dX12_narrow_50 (by decide) ?_
              exact v_lret (pc := 54) dX12_narrow_54 rfl (Nat.le_of_ble_eq_true rfl) (Nat.le_of_ble_eq_true rfl) ⟨by first | omega | rfl | (exact (if_pos (x_cmp0.mp c42)).symm) | (exact (if_neg (fun q => c42 (x_cmp0.mpr q))).symm), rfl⟩
            · refine v_lconst (pc := 45) (v := 1) dX12_narrow_45 (by decide) ?_
              refine v_goto (pc := 46) (tgt := 54) dX12_narrow_46 (by decide) ?_
              exact v_lret (pc := 54) dX12_narrow_54 rfl (Nat.le_of_ble_eq_true rfl) (Nat.le_of_ble_eq_true rfl) ⟨by first | omega | rfl | (exact (if_pos (x_cmp0.mp c42)).symm) | (exact (if_neg (fun q => c42 (x_cmp0.mpr q))).symm), rfl⟩
        · refine v_lload_n (pc := 28) dX12_narrow_28 rfl rfl ?_
          refine v_l2i (pc := 29) dX12_narrow_29 ?_
          refine v_i2l (pc := 30) dX12_narrow_30 ?_
          refine v_goto (pc := 31) (tgt := 54) dX12_narrow_31 (by decide) ?_
          exact v_lret (pc := 54) dX12_narrow_54 rfl (Nat.le_of_ble_eq_true rfl) (Nat.le_of_ble_eq_true rfl) ⟨by first | omega | rfl | (exact (if_pos (x_cmp0.mp c42)).symm) | (exact (if_neg (fun q => c42 (x_cmp0.mpr q))).symm), rfl⟩
      · refine v_lload_n (pc := 16) dX12_narrow_16 rfl rfl ?_
        refine v_l2i (pc := 17) dX12_narrow_17 ?_
        refine v_i2s (pc := 18) dX12_narrow_18 ?_
        refine v_i2l (pc := 19) dX12_narrow_19 ?_
        refine v_goto (pc := 20) (tgt := 54) dX12_narrow_20 (by decide) ?_
        exact v_lret (pc := 54) dX12_narrow_54 rfl (Nat.le_of_ble_eq_true rfl) (Nat.le_of_ble_eq_true rfl) ⟨by first | omega | rfl | (exact (if_pos (x_cmp0.mp c42)).symm) | (exact (if_neg (fun q => c42 (x_cmp0.mpr q))).symm), rfl⟩
    · refine v_lload_n (pc := 4) dX12_narrow_4 rfl rfl ?_
      refine v_l2i (pc := 5) dX12_narrow_5 ?_
      refine v_i2b (pc := 6) dX12_narrow_6 ?_
      refine v_i2l (pc := 7) dX12_narrow_7 ?_
      refine v_goto (pc := 8) (tgt := 54) dX12_narrow_8 (by decide) ?_
      exact v_lret (pc := 54) dX12_narrow_54 rfl (Nat.le_of_ble_eq_true rfl) (Nat.le_of_ble_eq_true rfl) ⟨by first | omega | rfl | (exact (if_pos (x_cmp0.mp c42)).symm) | (exact (if_neg (fun q => c42 (x_cmp0.mpr q))).symm), rfl⟩
  · refine v_iload_n (pc := 0) dX12_narrow_0 rfl rfl ?_
    refine v_if_neN (pc := 1) (tgt := 11) (by omega) dX12_narrow_1 (by decide) (fun c1 => ?_) (fun c1 => ?_)
    · refine v_iload_n (pc := 11) dX12_narrow_11 rfl rfl ?_
      refine v_iconst (pc := 12) (v := nI 1) dX12_narrow_12 (by decide) ?_
      refine v_icmp_neN (pc := 13) (tgt := 23) ⟨by omega, by omega⟩ dX12_narrow_13 (by decide) (fun c13 => ?_) (fun c13 => ?_)
      · refine v_iload_n (pc := 23) dX12_narrow_23 rfl rfl ?_
        refine v_iconst (pc := 24) (v := nI 2) dX12_narrow_24 (by decide) ?_
        refine v_icmp_neN (pc := 25) (tgt := 34) ⟨by omega, by omega⟩ dX12_narrow_25 (by decide) (fun c25 => ?_) (fun c25 => ?_)
        · refine v_iload_n (pc := 34) dX12_narrow_34 rfl rfl ?_
          refine v_iconst (pc := 35) (v := nI 4) dX12_narrow_35 (by decide) ?_
          refine v_icmp_neN (pc := 36) (tgt := 53) ⟨by omega, by omega⟩ dX12_narrow_36 (by decide) (fun c36 => ?_) (fun c36 => ?_)
          · refine v_lload_n (pc := 53) dX12_narrow_53 rfl rfl ?_
            exact v_lret (pc := 54) dX12_narrow_54 rfl (Nat.le_of_ble_eq_true rfl) (Nat.le_of_ble_eq_true rfl) ⟨by first | omega | rfl | (exact (if_pos (x_cmp0.mp c42)).symm) | (exact (if_neg (fun q => c42 (x_cmp0.mpr q))).symm), rfl⟩
          · refine v_lload_n (pc := 39) dX12_narrow_39 rfl rfl ?_
            refine v_lconst (pc := 40) (v := 0) dX12_narrow_40 (by decide) ?_
            refine v_lcmp (pc := 41) dX12_narrow_41 ?_
            refine v_if_eq (pc := 42) (tgt := 49) dX12_narrow_42 (by decide) (fun c42 => ?_) (fun c42 => ?_)
            · refine v_lconst (pc := 49) (v := 0) dX12_narrow_49 (by decide) ?_
              refine v_goto (pc := 50) (tgt := 54) dX12_narrow_50 (by decide) ?_
              exact v_lret (pc := 54) dX12_narrow_54 rfl (Nat.le_of_ble_eq_true rfl) (Nat.le_of_ble_eq_true rfl) ⟨by first | omega | rfl | (exact (if_pos (x_cmp0.mp c42)).symm) | (exact (if_neg (fun q => c42 (x_cmp0.mpr q))).symm), rfl⟩
            · refine v_lconst (pc := 45) (v := 1) dX12_narrow_45 (by decide) ?_
              refine v_goto (pc := 46) (tgt := 54) dX12_narrow_46 (by decide) ?_
              exact v_lret (pc := 54) dX12_narrow_54 rfl (Nat.le_of_ble_eq_true rfl) (Nat.le_of_ble_eq_true rfl) ⟨by first | omega | rfl | (exact (if_pos (x_cmp0.mp c42)).symm) | (exact (if_neg (fun q => c42 (x_cmp0.mpr q))).symm), rfl⟩
        · refine v_lload_n (pc := 28) dX12_narrow_28 rfl rfl ?_
          refine v_l2i (pc := 29) dX12_narrow_29 ?_
          refine v_i2l (pc := 30) dX12_narrow_30 ?_
          refine v_goto (pc := 31) (tgt := 54) dX12_narrow_31 (by decide) ?_
          exact v_lret (pc := 54) dX12_narrow_54 rfl (Nat.le_of_ble_eq_true rfl) (Nat.le_of_ble_eq_true rfl) ⟨by first | omega | rfl | (exact (if_pos (x_cmp0.mp c42)).symm) | (exact (if_neg (fun q => c42 (x_cmp0.mpr q))).symm), rfl⟩
      · refine v_lload_n (pc := 16) dX12_narrow_16 rfl rfl ?_
        refine v_l2i (pc := 17) dX12_narrow_17 ?_
        refine v_i2s (pc := 18) dX12_narrow_18 ?_
        refine v_i2l (pc := 19) dX12_narrow_19 ?_
        refine v_goto (pc := 20) (tgt := 54) dX12_narrow_20 (by decide) ?_
        exact v_lret (pc := 54) dX12_narrow_54 rfl (Nat.le_of_ble_eq_true rfl) (Nat.le_of_ble_eq_true rfl) ⟨by first | omega | rfl | (exact (if_pos (x_cmp0.mp c42)).symm) | (exact (if_neg (fun q => c42 (x_cmp0.mpr q))).symm), rfl⟩
    · refine v_lload_n (pc := 4) dX12_narrow_4 rfl rfl ?_
      refine v_l2i (pc := 5) dX12_narrow_5 ?_
      refine v_i2b (pc := 6) dX12_narrow_6 ?_
      refine v_i2l (pc := 7) dX12_narrow_7 ?_
      refine v_goto (pc := 8) (tgt := 54) dX12_narrow_8 (by decide) ?_
      exact v_lret (pc := 54) dX12_narrow_54 rfl (Nat.le_of_ble_eq_true rfl) (Nat.le_of_ble_eq_true rfl) ⟨by first | omega | rfl | (exact (if_pos (x_cmp0.mp c42)).symm) | (exact (if_neg (fun q => c42 (x_cmp0.mpr q))).symm), rfl⟩
  · refine v_iload_n (pc := 0) dX12_narrow_0 rfl rfl ?_
    refine v_if_neN (pc := 1) (tgt := 11) (by omega) dX12_narrow_1 (by decide) (fun c1 => ?_) (fun c1 => ?_)
    · refine v_iload_n (pc := 11) dX12_narrow_11 rfl rfl ?_
      refine v_iconst (pc := 12) (v := nI 1) dX12_narrow_12 (by decide) ?_
      refine v_icmp_neN (pc := 13) (tgt := 23) ⟨by omega, by omega⟩ dX12_narrow_13 (by decide) (fun c13 => ?_) (fun c13 => ?_)
      · refine v_iload_n (pc := 23) dX12_narrow_23 rfl rfl ?_
        refine v_iconst (pc := 24) (v := nI 2) dX12_narrow_24 (by decide) ?_
        refine v_icmp_neN (pc := 25) (tgt := 34) ⟨by omega, by omega⟩ dX12_narrow_25 (by decide) (fun c25 => ?_) (fun c25 => ?_)
        · refine v_iload_n (pc := 34) dX12_narrow_34 rfl rfl ?_
          refine v_iconst (pc := 35) (v := nI 4) dX12_narrow_35 (by decide) ?_
          refine v_icmp_neN (pc := 36) (tgt := 53) ⟨by omega, by omega⟩ dX12_narrow_36 (by decide) (fun c36 => ?_) (fun c36 => ?_)
          · refine v_lload_n (pc := 53) dX12_narrow_53 rfl rfl ?_
            exact v_lret (pc := 54) dX12_narrow_54 rfl (Nat.le_of_ble_eq_true rfl) (Nat.le_of_ble_eq_true rfl) ⟨by first | omega | rfl | (exact (if_pos (x_cmp0.mp c42)).symm) | (exact (if_neg (fun q => c42 (x_cmp0.mpr q))).symm), rfl⟩
          · refine v_lload_n (pc := 39) dX12_narrow_39 rfl rfl ?_
            refine v_lconst (pc := 40) (v := 0) dX12_narrow_40 (by decide) ?_
            refine v_lcmp (pc := 41) dX12_narrow_41 ?_
            refine v_if_eq (pc := 42) (tgt := 49) dX12_narrow_42 (by decide) (fun c42 => ?_) (fun c42 => ?_)
            · refine v_lconst (pc := 49) (v := 0) dX12_narrow_49 (by decide) ?_
              refine v_goto (pc := 50) (tgt := 54) dX12_narrow_50 (by decide) ?_
              exact v_lret (pc := 54) dX12_narrow_54 rfl (Nat.le_of_ble_eq_true rfl) (Nat.le_of_ble_eq_true rfl) ⟨by first | omega | rfl | (exact (if_pos (x_cmp0.mp c42)).symm) | (exact (if_neg (fun q => c42 (x_cmp0.mpr q))).symm), rfl⟩
            · refine v_lconst (pc := 45) (v := 1) dX12_narrow_45 (by decide) ?_
              refine v_goto (pc := 46) (tgt := 54) dX12_narrow_46 (by decide) ?_
              exact v_lret (pc := 54) dX12_narrow_54 rfl (Nat.le_of_ble_eq_true rfl) (Nat.le_of_ble_eq_true rfl) ⟨by first | omega | rfl | (exact (if_pos (x_cmp0.mp c42)).symm) | (exact (if_neg (fun q => c42 (x_cmp0.mpr q))).symm), rfl⟩
        · refine v_lload_n (pc := 28) dX12_narrow_28 rfl rfl ?_
          refine v_l2i (pc := 29) dX12_narrow_29 ?_
          refine v_i2l (pc := 30) dX12_narrow_30 ?_
          refine v_goto (pc := 31) (tgt := 54) dX12_narrow_31 (by decide) ?_
          exact v_lret (pc := 54) dX12_narrow_54 rfl (Nat.le_of_ble_eq_true rfl) (Nat.le_of_ble_eq_true rfl) ⟨by first | omega | rfl | (exact (if_pos (x_cmp0.mp c42)).symm) | (exact (if_neg (fun q => c42 (x_cmp0.mpr q))).symm), rfl⟩
      · refine v_lload_n (pc := 16) dX12_narrow_16 rfl rfl ?_
        refine v_l2i (pc := 17) dX12_narrow_17 ?_
        refine v_i2s (pc := 18) dX12_narrow_18 ?_
        refine v_i2l (pc := 19) dX12_narrow_19 ?_
        refine v_goto (pc := 20) (tgt := 54) dX12_narrow_20 (by decide) ?_
        exact v_lret (pc := 54) dX12_narrow_54 rfl (Nat.le_of_ble_eq_true rfl) (Nat.le_of_ble_eq_true rfl) ⟨by first | omega | rfl | (exact (if_pos (x_cmp0.mp c42)).symm) | (exact (if_neg (fun q => c42 (x_cmp0.mpr q))).symm), rfl⟩
    · refine v_lload_n (pc := 4) dX12_narrow_4 rfl rfl ?_
      refine v_l2i (pc := 5) dX12_narrow_5 ?_
      refine v_i2b (pc := 6) dX12_narrow_6 ?_
      refine v_i2l (pc := 7) dX12_narrow_7 ?_
      refine v_goto (pc := 8) (tgt := 54) dX12_narrow_8 (by decide) ?_
      exact v_lret (pc := 54) dX12_narrow_54 rfl (Nat.le_of_ble_eq_true rfl) (Nat.le_of_ble_eq_true rfl) ⟨by first | omega | rfl | (exact (if_pos (x_cmp0.mp c42)).symm) | (exact (if_neg (fun q => c42 (x_cmp0.mpr q))).symm), rfl⟩
  · refine v_iload_n (pc := 0) dX12_narrow_0 rfl rfl ?_
    refine v_if_neN (pc := 1) (tgt := 11) (by omega) dX12_narrow_1 (by decide) (fun c1 => ?_) (fun c1 => ?_)
    · refine v_iload_n (pc := 11) dX12_narrow_11 rfl rfl ?_
      refine v_iconst (pc := 12) (v := nI 1) dX12_narrow_12 (by decide) ?_
      refine v_icmp_neN (pc := 13) (tgt := 23) ⟨by omega, by omega⟩ dX12_narrow_13 (by decide) (fun c13 => ?_) (fun c13 => ?_)
      · refine v_iload_n (pc := 23) dX12_narrow_23 rfl rfl ?_
        refine v_iconst (pc := 24) (v := nI 2) dX12_narrow_24 (by decide) ?_
        refine v_icmp_neN (pc := 25) (tgt := 34) ⟨by omega, by omega⟩ dX12_narrow_25 (by decide) (fun c25 => ?_) (fun c25 => ?_)
        · refine v_iload_n (pc := 34) dX12_narrow_34 rfl rfl ?_
          refine v_iconst (pc := 35) (v := nI 4) dX12_narrow_35 (by decide) ?_
          refine v_icmp_neN (pc := 36) (tgt := 53) ⟨by omega, by omega⟩ dX12_narrow_36 (by decide) (fun c36 => ?_) (fun c36 => ?_)
          · refine v_lload_n (pc := 53) dX12_narrow_53 rfl rfl ?_
            exact v_lret (pc := 54) dX12_narrow_54 rfl (Nat.le_of_ble_eq_true rfl) (Nat.le_of_ble_eq_true rfl) ⟨by first | omega | rfl | (exact (if_pos (x_cmp0.mp c42)).symm) | (exact (if_neg (fun q => c42 (x_cmp0.mpr q))).symm), rfl⟩
          · refine v_lload_n (pc := 39) dX12_narrow_39 rfl rfl ?_
            refine v_lconst (pc := 40) (v := 0) dX12_narrow_40 (by decide) ?_
            refine v_lcmp (pc := 41) dX12_narrow_41 ?_
            refine v_if_eq (pc := 42) (tgt := 49) dX12_narrow_42 (by decide) (fun c42 => ?_) (fun c42 => ?_)
            · refine v_lconst (pc := 49) (v := 0) dX12_narrow_49 (by decide) ?_
              refine v_goto (pc := 50) (tgt := 54) dX12_narrow_50 (by decide) ?_
              exact v_lret (pc := 54) dX12_narrow_54 rfl (Nat.le_of_ble_eq_true rfl) (Nat.le_of_ble_eq_true rfl) ⟨by first | omega | rfl | (exact (if_pos (x_cmp0.mp c42)).symm) | (exact (if_neg (fun q => c42 (x_cmp0.mpr q))).symm), rfl⟩
            · refine v_lconst (pc := 45) (v := 1) dX12_narrow_45 (by decide) ?_
              refine v_goto (pc := 46) (tgt := 54) dX12_narrow_46 (by decide) ?_
              exact v_lret (pc := 54) dX12_narrow_54 rfl (Nat.le_of_ble_eq_true rfl) (Nat.le_of_ble_eq_true rfl) ⟨by first | omega | rfl | (exact (if_pos (x_cmp0.mp c42)).symm) | (exact (if_neg (fun q => c42 (x_cmp0.mpr q))).symm), rfl⟩
        · refine v_lload_n (pc := 28) dX12_narrow_28 rfl rfl ?_
          refine v_l2i (pc := 29) dX12_narrow_29 ?_
          refine v_i2l (pc := 30) dX12_narrow_30 ?_
          refine v_goto (pc := 31) (tgt := 54) dX12_narrow_31 (by decide) ?_
          exact v_lret (pc := 54) dX12_narrow_54 rfl (Nat.le_of_ble_eq_true rfl) (Nat.le_of_ble_eq_true rfl) ⟨by first | omega | rfl | (exact (if_pos (x_cmp0.mp c42)).symm) | (exact (if_neg (fun q => c42 (x_cmp0.mpr q))).symm), rfl⟩
      · refine v_lload_n (pc := 16) dX12_narrow_16 rfl rfl ?_
        refine v_l2i (pc := 17) dX12_narrow_17 ?_
        refine v_i2s (pc := 18) dX12_narrow_18 ?_
        refine v_i2l (pc := 19) dX12_narrow_19 ?_
        refine v_goto (pc := 20) (tgt := 54) dX12_narrow_20 (by decide) ?_
        exact v_lret (pc := 54) dX12_narrow_54 rfl (Nat.le_of_ble_eq_true rfl) (Nat.le_of_ble_eq_true rfl) ⟨by first | omega | rfl | (exact (if_pos (x_cmp0.mp c42)).symm) | (exact (if_neg (fun q => c42 (x_cmp0.mpr q))).symm), rfl⟩
    · refine v_lload_n (pc := 4) dX12_narrow_4 rfl rfl ?_
      refine v_l2i (pc := 5) dX12_narrow_5 ?_
      refine v_i2b (pc := 6) dX12_narrow_6 ?_
      refine v_i2l (pc := 7) dX12_narrow_7 ?_
      refine v_goto (pc := 8) (tgt := 54) dX12_narrow_8 (by decide) ?_
      exact v_lret (pc := 54) dX12_narrow_54 rfl (Nat.le_of_ble_eq_true rfl) (Nat.le_of_ble_eq_true rfl) ⟨by first | omega | rfl | (exact (if_pos (x_cmp0.mp c42)).symm) | (exact (if_neg (fun q => c42 (x_cmp0.mpr q))).symm), rfl⟩
  · refine v_iload_n (pc := 0) dX12_narrow_0 rfl rfl ?_
    refine v_if_neN (pc := 1) (tgt := 11) (by omega) dX12_narrow_1 (by decide) (fun c1 => ?_) (fun c1 => ?_)
    · refine v_iload_n (pc := 11) dX12_narrow_11 rfl rfl ?_
      refine v_iconst (pc := 12) (v := nI 1) dX12_narrow_12 (by decide) ?_
      refine v_icmp_neN (pc := 13) (tgt := 23) ⟨by omega, by omega⟩ dX12_narrow_13 (by decide) (fun c13 => ?_) (fun c13 => ?_)
      · refine v_iload_n (pc := 23) dX12_narrow_23 rfl rfl ?_
        refine v_iconst (pc := 24) (v := nI 2) dX12_narrow_24 (by decide) ?_
        refine v_icmp_neN (pc := 25) (tgt := 34) ⟨by omega, by omega⟩ dX12_narrow_25 (by decide) (fun c25 => ?_) (fun c25 => ?_)
        · refine v_iload_n (pc := 34) dX12_narrow_34 rfl rfl ?_
          refine v_iconst (pc := 35) (v := nI 4) dX12_narrow_35 (by decide) ?_
          refine v_icmp_neN (pc := 36) (tgt := 53) ⟨by omega, by omega⟩ dX12_narrow_36 (by decide) (fun c36 => ?_) (fun c36 => ?_)
          · refine v_lload_n (pc := 53) dX12_narrow_53 rfl rfl ?_
            exact v_lret (pc := 54) dX12_narrow_54 rfl (Nat.le_of_ble_eq_true rfl) (Nat.le_of_ble_eq_true rfl) ⟨by first | omega | rfl | (exact (if_pos (x_cmp0.mp c42)).symm) | (exact (if_neg (fun q => c42 (x_cmp0.mpr q))).symm), rfl⟩
          · refine v_lload_n (pc := 39) dX12_narrow_39 rfl rfl ?_
            refine v_lconst (pc := 40) (v := 0) dX12_narrow_40 (by decide) ?_
            refine v_lcmp (pc := 41) dX12_narrow_41 ?_
            refine v_if_eq (pc := 42) (tgt := 49) dX12_narrow_42 (by decide) (fun c42 => ?_) (fun c42 => ?_)
            · refine v_lconst (pc := 49) (v := 0) dX12_narrow_49 (by decide) ?_
              refine v_goto (pc := 50) (tgt := 54) dX12_narrow_50 (by decide) ?_
              exact v_lret (pc := 54) dX12_narrow_54 rfl (Nat.le_of_ble_eq_true rfl) (Nat.le_of_ble_eq_true rfl) ⟨by first | omega | rfl | (exact (if_pos (x_cmp0.mp c42)).symm) | (exact (if_neg (fun q => c42 (x_cmp0.mpr q))).symm), rfl⟩
            · refine v_lconst (pc := 45) (v := 1) dX12_narrow_45 (by decide) ?_
              refine v_goto (pc := 46) (tgt := 54) dX12_narrow_46 (by decide) ?_
              exact v_lret (pc := 54) dX12_narrow_54 rfl (Nat.le_of_ble_eq_true rfl) (Nat.le_of_ble_eq_true rfl) ⟨by first | omega | rfl | (exact (if_pos (x_cmp0.mp c42)).symm) | (exact (if_neg (fun q => c42 (x_cmp0.mpr q))).symm), rfl⟩
        · refine v_lload_n (pc := 28) dX12_narrow_28 rfl rfl ?_
          refine v_l2i (pc := 29) dX12_narrow_29 ?_
          refine v_i2l (pc := 30) dX12_narrow_30 ?_
          refine v_goto (pc := 31) (tgt := 54) dX12_narrow_31 (by decide) ?_
          exact v_lret (pc := 54) dX12_narrow_54 rfl (Nat.le_of_ble_eq_true rfl) (Nat.le_of_ble_eq_true rfl) ⟨by first | omega | rfl | (exact (if_pos (x_cmp0.mp c42)).symm) | (exact (if_neg (fun q => c42 (x_cmp0.mpr q))).symm), rfl⟩
      · refine v_lload_n (pc := 16) dX12_narrow_16 rfl rfl ?_
        refine v_l2i (pc := 17) dX12_narrow_17 ?_
        refine v_i2s (pc := 18) dX12_narrow_18 ?_
        refine v_i2l (pc := 19) dX12_narrow_19 ?_
        refine v_goto (pc := 20) (tgt := 54) dX12_narrow_20 (by decide) ?_
        exact v_lret (pc := 54) dX12_narrow_54 rfl (Nat.le_of_ble_eq_true rfl) (Nat.le_of_ble_eq_true rfl) ⟨by first | omega | rfl | (exact (if_pos (x_cmp0.mp c42)).symm) | (exact (if_neg (fun q => c42 (x_cmp0.mpr q))).symm), rfl⟩
    · refine v_lload_n (pc := 4) dX12_narrow_4 rfl rfl ?_
      refine v_l2i (pc := 5) dX12_narrow_5 ?_
      refine v_i2b (pc := 6) dX12_narrow_6 ?_
      refine v_i2l (pc := 7) dX12_narrow_7 ?_
      refine v_goto (pc := 8) (tgt := 54) dX12_narrow_8 (by decide) ?_
      exact v_lret (pc := 54) dX12_narrow_54 rfl (Nat.le_of_ble_eq_true rfl) (Nat.le_of_ble_eq_true rfl) ⟨by first | omega | rfl | (exact (if_pos (x_cmp0.mp c42)).symm) | (exact (if_neg (fun q => c42 (x_cmp0.mpr q))).symm), rfl⟩
theorem MTp_one {I : Nat → Nat → Int32} {J : Nat → Nat → Int64} {t : Nat → TP} (h : MTp I J t) {k j s : Nat} {z : Int64} (hk : k < 6) (he : (t k).1 = some s) (hj : j < (t k).2.1) (h60 : (t k).2.1 ≤ 60) :
    MTp I (v_u J 89 (60 * k + j) z) (w_put t (some (k, some s, (t k).2.1, fun q => if q = j then z else (t k).2.2 q))) := by
  intro i hi
  by_cases e : i = k
  · subst e
    refine ⟨?_, ?_, fun q hq => ?_⟩
    · show _ = o_s (if i = i then _ else t i).1
      rw [if_pos rfl]; exact (h i hi).1.trans (by rw [he])
    · show _ = nI (if i = i then _ else t i).2.1
      rw [if_pos rfl]; exact (h i hi).2.1
    · show _ = (if i = i then _ else t i).2.2 q
      rw [if_pos rfl]
      show _ = if q = j then z else (t i).2.2 q
      by_cases e2 : q = j
      · subst e2; rw [if_pos rfl]; exact v_u_same
      · rw [if_neg e2, v_u_k (by omega)]; exact (h i hi).2.2 q hq
  · have e1 : ∀ T, w_put t (some (k, T)) i = t i := fun T => if_neg e
    rw [e1]
    exact ⟨(h i hi).1, (h i hi).2.1, fun q hq => (v_u_k (by omega)).trans ((h i hi).2.2 q hq)⟩
abbrev rm_X12_item : Room := { frames := 2, cells := 0, slots := 0, locals := 44 }
set_option maxRecDepth 20000 in
theorem c_X12_item (G : v_G) (l : Launch) {K : Nat × v_TY} {I : Nat → Nat → Int32} {J : Nat → Nat → Int64} {R : Nat → Nat → Option Nat} (hL : Lay K R) {tt ii : Int32} {z : Int64} {tp : Nat → TP} (h : MTp I J tp) (hv : TV tp) : v_M G l yX12_item cX12_item 5 (some .int) rm_X12_item [.ref 55, .int tt, .int ii, .long z] (K, I, J, R) (v_Qi G (fun (x : Int32) (M' : v_MM) => x = (w_item tp tt ii z).1 ∧ ∃ I' J', M' = (K, I', J', R) ∧ MTp I' J' (w_put tp (w_item tp tt ii z).2) ∧ mT I J I' J')) := by
  refine v_of [some (.ref 55), some (.int tt), some (.int ii), some (.long z), none] (by decide) (Nat.le_of_ble_eq_true rfl) (Nat.le_of_ble_eq_true rfl) rfl ?_
  refine v_aload_n (pc := 0) dX12_item_0 rfl rfl ?_
  refine v_iload_n (pc := 1) dX12_item_1 rfl rfl ?_
  refine v_ci (pc := 2) (v_rV (c_X12_isTape G l hL) rfl kV_X12_353 (v_rcO (li_55 hL) rfl (by decide)) ⟨Nat.le_of_ble_eq_true rfl, Nat.le_of_ble_eq_true rfl⟩ ⟨Nat.le_of_ble_eq_true rfl, Nat.le_of_ble_eq_true rfl⟩ dX12_item_2 (Nat.le_of_ble_eq_true rfl)) (fun x2 M2 h2 => ?_)
  obtain ⟨rfl, rfl⟩ := h2
  refine v_if_neP (pc := 5) (tgt := 10) dX12_item_5 (by decide) (fun c5 => ?_) (fun c5 => ?_)
  · obtain ⟨t, ht, et, e1⟩ := x_nat_i c5 (by decide)
    subst et
    have hh := h t ht
    obtain ⟨hv60, hv5, hv0, -⟩ := hv t ht
    rcases eo : (tp t).1 with - | s <;> rw [eo] at hh hv5 hv0
    · refine v_aload_n (pc := 10) dX12_item_10 rfl rfl ?_
      refine v_getH (pc := 11) fg_X12_184_12 dX12_item_11 (li_55 hL) (lr_55_57 hL) ?_
      refine v_iload_n (pc := 14) dX12_item_14 rfl rfl ?_
      refine v_ialoadN (pc := 15) dX12_item_15 (li_87 hL) ⟨by omega, by omega⟩ hh.1 ?_
      refine v_if_ge (pc := 16) (tgt := 22) dX12_item_16 (by decide) (fun c16 => ?_) (fun c16 => ?_)
      · exact absurd c16 (show ¬ (0 : Int32) ≤ -1 by decide)
      · refine v_bipush (pc := 19) (v := -11) dX12_item_19 (by decide) ?_
        exact v_iret (pc := 21) dX12_item_21 rfl rfl (Nat.le_of_ble_eq_true rfl) (Nat.le_of_ble_eq_true rfl) ⟨by simp only [w_item, e1, eo], I, J, rfl, by simp only [w_item, e1, eo]; exact h, mT_rf⟩
    · have hs5 := hv5 s rfl
      have hs : I 87 t = nI s := hh.1
      refine v_aload_n (pc := 10) dX12_item_10 rfl rfl ?_
      refine v_getH (pc := 11) fg_X12_184_12 dX12_item_11 (li_55 hL) (lr_55_57 hL) ?_
      refine v_iload_n (pc := 14) dX12_item_14 rfl rfl ?_
      refine v_ialoadN (pc := 15) dX12_item_15 (li_87 hL) ⟨by omega, by omega⟩ hs ?_
      refine v_if_geN (pc := 16) (tgt := 22) (by omega) dX12_item_16 (by decide) ?_
      refine v_aload_n (pc := 22) dX12_item_22 rfl rfl ?_
      refine v_iload_n (pc := 23) dX12_item_23 rfl rfl ?_
      refine v_iconst (pc := 24) (v := nI 0) dX12_item_24 (by decide) ?_
      refine v_aload_n (pc := 25) dX12_item_25 rfl rfl ?_
      refine v_getH (pc := 26) fg_X12_187_12 dX12_item_26 (li_55 hL) (lr_55_58 hL) ?_
      refine v_iload_n (pc := 29) dX12_item_29 rfl rfl ?_
      refine v_ialoadN (pc := 30) dX12_item_30 (li_88 hL) ⟨by omega, by omega⟩ hh.2.1 ?_
      refine v_iconst (pc := 31) (v := nI 1) dX12_item_31 (by decide) ?_
      refine v_isub (pc := 32) dX12_item_32 ?_
      refine v_ci (pc := 33) (v_rV (c_X12_in G l hL) rfl kV_X12_197 (v_rcO (li_55 hL) rfl (by decide)) ⟨Nat.le_of_ble_eq_true rfl, Nat.le_of_ble_eq_true rfl⟩ ⟨Nat.le_of_ble_eq_true rfl, Nat.le_of_ble_eq_true rfl⟩ dX12_item_33 (Nat.le_of_ble_eq_true rfl)) (fun x33 M33 h33 => ?_)
      obtain ⟨rfl, rfl⟩ := h33
      refine v_if_neP (pc := 36) (tgt := 42) dX12_item_36 (by decide) (fun c36 => ?_) (fun c36 => ?_)
      · obtain ⟨j, hj, rfl, e3⟩ := x_nat_i ((x_le1 (by omega)).mp c36) (by omega)
        refine v_aload_n (pc := 42) dX12_item_42 rfl rfl ?_
        refine v_getH (pc := 43) fg_X12_190_12 dX12_item_43 (li_55 hL) (lr_55_59 hL) ?_
        refine v_bipush (pc := 46) (v := nI 60) dX12_item_46 (by decide) ?_
        refine v_iload_n (pc := 48) dX12_item_48 rfl rfl ?_
        refine v_imulN (pc := 49) dX12_item_49 ?_
        refine v_iload_n (pc := 50) dX12_item_50 rfl rfl ?_
        refine v_iaddN (pc := 51) dX12_item_51 ?_
        refine v_aload_n (pc := 52) dX12_item_52 rfl rfl ?_
        refine v_aload_n (pc := 53) dX12_item_53 rfl rfl ?_
        refine v_getH (pc := 54) fg_X12_184_12 dX12_item_54 (li_55 hL) (lr_55_57 hL) ?_
        refine v_iload_n (pc := 57) dX12_item_57 rfl rfl ?_
        refine v_ialoadN (pc := 58) dX12_item_58 (li_87 hL) ⟨by omega, by omega⟩ hs ?_
        refine v_lload_n (pc := 59) dX12_item_59 rfl rfl ?_
        refine v_cl (pc := 60) (v_rV (c_X12_narrow G l hL (hv5 s rfl)) rfl kV_X12_380 (v_rcO (li_55 hL) rfl (by decide)) ⟨Nat.le_of_ble_eq_true rfl, Nat.le_of_ble_eq_true rfl⟩ ⟨Nat.le_of_ble_eq_true rfl, Nat.le_of_ble_eq_true rfl⟩ dX12_item_60 (Nat.le_of_ble_eq_true rfl)) (fun x60 M60 h60 => ?_)
        obtain ⟨rfl, rfl⟩ := h60
        refine v_lastoreN (pc := 63) dX12_item_63 (li_89 hL) ⟨by omega, by omega⟩ ?_
        refine v_iconst (pc := 64) (v := nI 1) dX12_item_64 (by decide) ?_
        exact v_iret (pc := 65) dX12_item_65 rfl rfl (Nat.le_of_ble_eq_true rfl) (Nat.le_of_ble_eq_true rfl) (by first | exact ⟨by simp only [w_item, e1, eo, e3], I, J, rfl, by simp only [w_item, e1, eo, e3]; exact h, mT_rf⟩ | exact ⟨by simp only [w_item, e1, eo, e3]; rfl, _, _, rfl, by simp only [w_item, e1, eo, e3]; exact MTp_one h ht eo hj hv60, ⟨fun _ _ _ _ => rfl, fun a c n _ => v_u_h n⟩⟩)
      · have e3 := x_nat_n (fun q => c36 ((x_le1 (by omega)).mpr q))
        refine v_bipush (pc := 39) (v := -13) dX12_item_39 (by decide) ?_
        exact v_iret (pc := 41) dX12_item_41 rfl rfl (Nat.le_of_ble_eq_true rfl) (Nat.le_of_ble_eq_true rfl) (by first | exact ⟨by simp only [w_item, e1, eo, e3], I, J, rfl, by simp only [w_item, e1, eo, e3]; exact h, mT_rf⟩ | exact ⟨by simp only [w_item, e1, eo, e3]; rfl, _, _, rfl, by simp only [w_item, e1, eo, e3]; exact MTp_one h ht eo hj hv60, ⟨fun _ _ _ _ => rfl, fun a c n _ => v_u_h n⟩⟩)
  · have e1 := x_nat_n c5
    refine v_iconst (pc := 8) (v := -1) dX12_item_8 (by decide) ?_
    exact v_iret (pc := 9) dX12_item_9 rfl rfl (Nat.le_of_ble_eq_true rfl) (Nat.le_of_ble_eq_true rfl) ⟨by simp only [w_item, e1], I, J, rfl, by simp only [w_item, e1]; exact h, mT_rf⟩
abbrev rm_X12_read : Room := { frames := 2, cells := 0, slots := 0, locals := 44 }
set_option maxRecDepth 20000 in
theorem c_X12_read (G : v_G) (l : Launch) {K : Nat × v_TY} {I : Nat → Nat → Int32} {J : Nat → Nat → Int64} {R : Nat → Nat → Option Nat} (hL : Lay K R) {tt ii : Int32} {tp : Nat → TP} (h : MTp I J tp) (hv : TV tp) : v_M G l yX12_read cX12_read 3 (some .long) rm_X12_read [.ref 55, .int tt, .int ii] (K, I, J, R) (v_Ql G (fun (x : Int64) (M' : v_MM) => x = s_read tp tt ii ∧ M' = (K, I, J, R))) := by
  refine v_of [some (.ref 55), some (.int tt), some (.int ii)] (by decide) (Nat.le_of_ble_eq_true rfl) (Nat.le_of_ble_eq_true rfl) rfl ?_
  refine v_aload_n (pc := 0) dX12_read_0 rfl rfl ?_
  refine v_iload_n (pc := 1) dX12_read_1 rfl rfl ?_
  refine v_ci (pc := 2) (v_rV (c_X12_isTape G l hL) rfl kV_X12_353 (v_rcO (li_55 hL) rfl (by decide)) ⟨Nat.le_of_ble_eq_true rfl, Nat.le_of_ble_eq_true rfl⟩ ⟨Nat.le_of_ble_eq_true rfl, Nat.le_of_ble_eq_true rfl⟩ dX12_read_2 (Nat.le_of_ble_eq_true rfl)) (fun x2 M2 h2 => ?_)
  obtain ⟨rfl, rfl⟩ := h2
  refine v_if_eqP (pc := 5) (tgt := 34) dX12_read_5 (by decide) (fun c5 => ?_) (fun c5 => ?_)
  · have e1 := x_nat_n c5
    refine v_ldc2 (pc := 34) ld_X12_347 dX12_read_34 ?_
    refine v_goto (pc := 37) (tgt := 51) dX12_read_37 (by decide) ?_
    exact v_lret (pc := 51) dX12_read_51 rfl (Nat.le_of_ble_eq_true rfl) (Nat.le_of_ble_eq_true rfl) ⟨by simp only [s_read, e1]; rfl, rfl⟩
  · obtain ⟨t, ht, et, e1⟩ := x_nat_i c5 (by decide)
    subst et
    have hh := h t ht
    obtain ⟨hv60, hv5, hv0, -⟩ := hv t ht
    rcases eo : (tp t).1 with - | s <;> rw [eo] at hh hv5 hv0
    · refine v_aload_n (pc := 8) dX12_read_8 rfl rfl ?_
      refine v_getH (pc := 9) fg_X12_184_12 dX12_read_9 (li_55 hL) (lr_55_57 hL) ?_
      refine v_iload_n (pc := 12) dX12_read_12 rfl rfl ?_
      refine v_ialoadN (pc := 13) dX12_read_13 (li_87 hL) ⟨by omega, by omega⟩ hh.1 ?_
      refine v_if_lt (pc := 14) (tgt := 34) dX12_read_14 (by decide) (fun c14 => ?_) (fun c14 => ?_)
      · refine v_ldc2 (pc := 34) ld_X12_347 dX12_read_34 ?_
        refine v_goto (pc := 37) (tgt := 51) dX12_read_37 (by decide) ?_
        exact v_lret (pc := 51) dX12_read_51 rfl (Nat.le_of_ble_eq_true rfl) (Nat.le_of_ble_eq_true rfl) ⟨by simp only [s_read, e1, eo]; rfl, rfl⟩
      · exact absurd (show (-1 : Int32) < 0 by decide) c14
    · have hs5 := hv5 s rfl
      have hs : I 87 t = nI s := hh.1
      refine v_aload_n (pc := 8) dX12_read_8 rfl rfl ?_
      refine v_getH (pc := 9) fg_X12_184_12 dX12_read_9 (li_55 hL) (lr_55_57 hL) ?_
      refine v_iload_n (pc := 12) dX12_read_12 rfl rfl ?_
      refine v_ialoadN (pc := 13) dX12_read_13 (li_87 hL) ⟨by omega, by omega⟩ hs ?_
      refine v_if_ltN (pc := 14) (tgt := 34) (by omega) dX12_read_14 (by decide) ?_
      refine v_aload_n (pc := 17) dX12_read_17 rfl rfl ?_
      refine v_iload_n (pc := 18) dX12_read_18 rfl rfl ?_
      refine v_iconst (pc := 19) (v := nI 0) dX12_read_19 (by decide) ?_
      refine v_aload_n (pc := 20) dX12_read_20 rfl rfl ?_
      refine v_getH (pc := 21) fg_X12_187_12 dX12_read_21 (li_55 hL) (lr_55_58 hL) ?_
      refine v_iload_n (pc := 24) dX12_read_24 rfl rfl ?_
      refine v_ialoadN (pc := 25) dX12_read_25 (li_88 hL) ⟨by omega, by omega⟩ hh.2.1 ?_
      refine v_iconst (pc := 26) (v := nI 1) dX12_read_26 (by decide) ?_
      refine v_isub (pc := 27) dX12_read_27 ?_
      refine v_ci (pc := 28) (v_rV (c_X12_in G l hL) rfl kV_X12_197 (v_rcO (li_55 hL) rfl (by decide)) ⟨Nat.le_of_ble_eq_true rfl, Nat.le_of_ble_eq_true rfl⟩ ⟨Nat.le_of_ble_eq_true rfl, Nat.le_of_ble_eq_true rfl⟩ dX12_read_28 (Nat.le_of_ble_eq_true rfl)) (fun x28 M28 h28 => ?_)
      obtain ⟨rfl, rfl⟩ := h28
      refine v_if_neP (pc := 31) (tgt := 40) dX12_read_31 (by decide) (fun c31 => ?_) (fun c31 => ?_)
      · obtain ⟨j, hj, rfl, e3⟩ := x_nat_i ((x_le1 (by omega)).mp c31) (by omega)
        refine v_aload_n (pc := 40) dX12_read_40 rfl rfl ?_
        refine v_getH (pc := 41) fg_X12_190_12 dX12_read_41 (li_55 hL) (lr_55_59 hL) ?_
        refine v_bipush (pc := 44) (v := nI 60) dX12_read_44 (by decide) ?_
        refine v_iload_n (pc := 46) dX12_read_46 rfl rfl ?_
        refine v_imulN (pc := 47) dX12_read_47 ?_
        refine v_iload_n (pc := 48) dX12_read_48 rfl rfl ?_
        refine v_iaddN (pc := 49) dX12_read_49 ?_
        refine v_laloadN (pc := 50) dX12_read_50 (li_89 hL) ⟨by omega, by omega⟩ (hh.2.2 j (by omega)) ?_
        exact v_lret (pc := 51) dX12_read_51 rfl (Nat.le_of_ble_eq_true rfl) (Nat.le_of_ble_eq_true rfl) ⟨by simp only [s_read, e1, eo, e3]; first | done | rfl, rfl⟩
      · have e3 := x_nat_n (fun q => c31 ((x_le1 (by omega)).mpr q))
        refine v_ldc2 (pc := 34) ld_X12_347 dX12_read_34 ?_
        refine v_goto (pc := 37) (tgt := 51) dX12_read_37 (by decide) ?_
        exact v_lret (pc := 51) dX12_read_51 rfl (Nat.le_of_ble_eq_true rfl) (Nat.le_of_ble_eq_true rfl) ⟨by simp only [s_read, e1, eo, e3]; first | done | rfl, rfl⟩
