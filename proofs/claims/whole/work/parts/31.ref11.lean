/-! THE REFERENCE: calls that change the village, by their cells -/
theorem mK_turns {I : Nat → Nat → Int32} {b : BS} {a c : Nat} (h : ∀ i, i < 7 → I 58 i = nI (b_m b i)) (ha : a < 7) (hc : c < 7) (hac : a ≠ c) : mK I (v_u (v_u I 58 a (nI (b_m b a ^^^ 2 ^ c))) 58 c (nI (b_m b c ^^^ 2 ^ a))) (b_flip b a c) := by
  refine ⟨fun x z n => by rw [v_u_h n, v_u_h n], fun i hi => ?_, fun i hi => by rw [v_u_k (by omega), v_u_k (by omega)]⟩
  show _ = nI (if i = a then b_m b a ^^^ 2 ^ c else if i = c then b_m b c ^^^ 2 ^ a else b_m b i)
  by_cases e1 : i = a
  · subst e1; rw [v_u_k hac, v_u_same, if_pos rfl]
  · by_cases e2 : i = c
    · subst e2; rw [v_u_same, if_neg e1, if_pos rfl]
    · rw [v_u_k e2, v_u_k e1, if_neg e1, if_neg e2]; exact h i hi
abbrev rm_X12_person : Room := { frames := 1, cells := 0, slots := 0, locals := 24 }
set_option maxRecDepth 20000 in
theorem c_X12_person (G : v_G) (l : Launch) {K : Nat × v_TY} {I : Nat → Nat → Int32} {J : Nat → Nat → Int64} {R : Nat → Nat → Option Nat} (hL : Lay K R) {kk vv : Int32} {n : Nat} (h : I 55 0 = nI n) (hn : n ≤ 6) : v_M G l yX12_person cX12_person 3 (some .int) rm_X12_person [.ref 55, .int kk, .int vv] (K, I, J, R) (v_Qi G (fun (x : Int32) (M' : v_MM) => ((x_nat kk 7 = none ∧ x = -1 ∧ M' = (K, I, J, R)) ∨ ((∃ k, x_nat kk 7 = some k) ∧ x_nat vv 10 = none ∧ x = -2 ∧ M' = (K, I, J, R)) ∨ ((∃ k, x_nat kk 7 = some k) ∧ (∃ v, x_nat vv 10 = some v) ∧ n = 6 ∧ x = -4 ∧ M' = (K, I, J, R)) ∨ (∃ k v, k < 7 ∧ v < 10 ∧ x_nat kk 7 = some k ∧ x_nat vv 10 = some v ∧ n < 6 ∧ x = nI n ∧ M' = (K, v_u (w_lay I n (nI k) (nI v)) 55 0 (nI (n + 1)), J, R))))) := by
  refine v_of [some (.ref 55), some (.int kk), some (.int vv)] (by decide) (Nat.le_of_ble_eq_true rfl) (Nat.le_of_ble_eq_true rfl) rfl ?_
  refine v_aload_n (pc := 0) dX12_person_0 rfl rfl ?_
  refine v_iload_n (pc := 1) dX12_person_1 rfl rfl ?_
  refine v_iconst (pc := 2) (v := nI 0) dX12_person_2 (by decide) ?_
  refine v_bipush (pc := 3) (v := nI 6) dX12_person_3 (by decide) ?_
  refine v_ci (pc := 5) (v_rV (c_X12_in G l hL) rfl kV_X12_197 (v_rcO (li_55 hL) rfl (by decide)) ⟨Nat.le_of_ble_eq_true rfl, Nat.le_of_ble_eq_true rfl⟩ ⟨Nat.le_of_ble_eq_true rfl, Nat.le_of_ble_eq_true rfl⟩ dX12_person_5 (Nat.le_of_ble_eq_true rfl)) (fun x5 M5 h5 => ?_)
  obtain ⟨rfl, rfl⟩ := h5
  refine v_if_neP (pc := 8) (tgt := 13) dX12_person_8 (by decide) (fun c8 => ?_) (fun c8 => ?_)
  · obtain ⟨k, hk, qk, e1⟩ := x_nat_i (v_in_iff (m := 6) (by decide) |>.mp c8) (by decide)
    subst qk
    refine v_aload_n (pc := 13) dX12_person_13 rfl rfl ?_
    refine v_iload_n (pc := 14) dX12_person_14 rfl rfl ?_
    refine v_iconst (pc := 15) (v := nI 0) dX12_person_15 (by decide) ?_
    refine v_bipush (pc := 16) (v := nI 9) dX12_person_16 (by decide) ?_
    refine v_ci (pc := 18) (v_rV (c_X12_in G l hL) rfl kV_X12_197 (v_rcO (li_55 hL) rfl (by decide)) ⟨Nat.le_of_ble_eq_true rfl, Nat.le_of_ble_eq_true rfl⟩ ⟨Nat.le_of_ble_eq_true rfl, Nat.le_of_ble_eq_true rfl⟩ dX12_person_18 (Nat.le_of_ble_eq_true rfl)) (fun x18 M18 h18 => ?_)
    obtain ⟨rfl, rfl⟩ := h18
    refine v_if_neP (pc := 21) (tgt := 27) dX12_person_21 (by decide) (fun c21 => ?_) (fun c21 => ?_)
    · obtain ⟨v, hv, qv, e2⟩ := x_nat_i (v_in_iff (m := 9) (by decide) |>.mp c21) (by decide)
      subst qv
      refine v_aload_n (pc := 27) dX12_person_27 rfl rfl ?_
      refine v_getV (pc := 28) fg_X12_7_12 dX12_person_28 (li_55 hL) h ?_
      refine v_bipush (pc := 31) (v := nI 6) dX12_person_31 (by decide) ?_
      refine v_icmp_neN (pc := 33) (tgt := 39) ⟨by omega, by omega⟩ dX12_person_33 (by decide) (fun c33 => ?_) (fun c33 => ?_)
      · refine v_aload_n (pc := 39) dX12_person_39 rfl rfl ?_
        refine v_aload_n (pc := 40) dX12_person_40 rfl rfl ?_
        refine v_getV (pc := 41) fg_X12_7_12 dX12_person_41 (li_55 hL) h ?_
        refine v_iload_n (pc := 44) dX12_person_44 rfl rfl ?_
        refine v_iload_n (pc := 45) dX12_person_45 rfl rfl ?_
        refine v_cv (pc := 46) (v_rV (c_X12_lay G l hL (by omega)) rfl kV_X12_209 (v_rcO (li_55 hL) rfl (by decide)) ⟨Nat.le_of_ble_eq_true rfl, Nat.le_of_ble_eq_true rfl⟩ ⟨Nat.le_of_ble_eq_true rfl, Nat.le_of_ble_eq_true rfl⟩ dX12_person_46 (Nat.le_of_ble_eq_true rfl)) (fun M46 h46 => ?_)
        subst h46
        refine v_aload_n (pc := 49) dX12_person_49 rfl rfl ?_
        refine v_dup (pc := 50) dX12_person_50 rfl ?_
        refine v_getV (pc := 51) fg_X12_7_12 dX12_person_51 (li_55 hL) h ?_
        refine v_iconst (pc := 54) (v := nI 1) dX12_person_54 (by decide) ?_
        refine v_iaddN (pc := 55) dX12_person_55 ?_
        refine v_putI (pc := 56) pg_X12_7_12 (fun h => by cases h) dX12_person_56 (li_55 hL) rfl rfl ?_
        refine v_aload_n (pc := 59) dX12_person_59 rfl rfl ?_
        refine v_getV (pc := 60) fg_X12_7_12 dX12_person_60 (li_55 hL) v_u_same ?_
        refine v_iconst (pc := 63) (v := nI 1) dX12_person_63 (by decide) ?_
        refine v_isubN (pc := 64) (by omega) dX12_person_64 ?_
        exact v_iret (pc := 65) dX12_person_65 rfl rfl (Nat.le_of_ble_eq_true rfl) (Nat.le_of_ble_eq_true rfl) (by first | exact Or.inl ⟨e1, rfl, rfl⟩ | exact Or.inr (Or.inl ⟨⟨k, e1⟩, e2, rfl, rfl⟩) | exact Or.inr (Or.inr (Or.inl ⟨⟨k, e1⟩, ⟨v, e2⟩, by omega, rfl, rfl⟩)) | exact Or.inr (Or.inr (Or.inr ⟨k, v, hk, hv, e1, e2, by omega, rfl, rfl⟩)))
      · refine v_bipush (pc := 36) (v := -4) dX12_person_36 (by decide) ?_
        exact v_iret (pc := 38) dX12_person_38 rfl rfl (Nat.le_of_ble_eq_true rfl) (Nat.le_of_ble_eq_true rfl) (by first | exact Or.inl ⟨e1, rfl, rfl⟩ | exact Or.inr (Or.inl ⟨⟨k, e1⟩, e2, rfl, rfl⟩) | exact Or.inr (Or.inr (Or.inl ⟨⟨k, e1⟩, ⟨v, e2⟩, by omega, rfl, rfl⟩)) | exact Or.inr (Or.inr (Or.inr ⟨k, v, hk, hv, e1, e2, by omega, rfl, rfl⟩)))
    · have e2 := x_nat_n (fun z => c21 (v_in_iff (m := 9) (by decide) |>.mpr z))
      refine v_bipush (pc := 24) (v := -2) dX12_person_24 (by decide) ?_
      exact v_iret (pc := 26) dX12_person_26 rfl rfl (Nat.le_of_ble_eq_true rfl) (Nat.le_of_ble_eq_true rfl) (by first | exact Or.inl ⟨e1, rfl, rfl⟩ | exact Or.inr (Or.inl ⟨⟨k, e1⟩, e2, rfl, rfl⟩) | exact Or.inr (Or.inr (Or.inl ⟨⟨k, e1⟩, ⟨v, e2⟩, by omega, rfl, rfl⟩)) | exact Or.inr (Or.inr (Or.inr ⟨k, v, hk, hv, e1, e2, by omega, rfl, rfl⟩)))
  · have e1 := x_nat_n (fun z => c8 (v_in_iff (m := 6) (by decide) |>.mpr z))
    refine v_iconst (pc := 11) (v := -1) dX12_person_11 (by decide) ?_
    exact v_iret (pc := 12) dX12_person_12 rfl rfl (Nat.le_of_ble_eq_true rfl) (Nat.le_of_ble_eq_true rfl) (by first | exact Or.inl ⟨e1, rfl, rfl⟩ | exact Or.inr (Or.inl ⟨⟨k, e1⟩, e2, rfl, rfl⟩) | exact Or.inr (Or.inr (Or.inl ⟨⟨k, e1⟩, ⟨v, e2⟩, by omega, rfl, rfl⟩)) | exact Or.inr (Or.inr (Or.inr ⟨k, v, hk, hv, e1, e2, by omega, rfl, rfl⟩)))
abbrev rm_X12_friends : Room := { frames := 2, cells := 0, slots := 0, locals := 44 }
set_option maxRecDepth 20000 in
theorem c_X12_friends (G : v_G) (l : Launch) {K : Nat × v_TY} {I : Nat → Nat → Int32} {J : Nat → Nat → Int64} {R : Nat → Nat → Option Nat} (hL : Lay K R) {aa cc : Int32} {ar : Bool} {b : BS} (h : I 55 0 = nI (b_n b)) (hn : b_n b ≤ 6) (hm : ∀ i, i < 7 → I 58 i = nI (b_m b i)) : v_M G l yX12_friends cX12_friends 5 (some .int) rm_X12_friends [.ref 55, .int aa, .int cc, .int (v_p (ar = true))] (K, I, J, R) (v_Qi G (fun (x : Int32) (M' : v_MM) => (((x_nat aa (b_n b) = none ∨ x_nat cc (b_n b) = none) ∧ x = -1 ∧ M' = (K, I, J, R)) ∨ ((∃ a, x_nat aa (b_n b) = some a ∧ x_nat cc (b_n b) = some a) ∧ x = -2 ∧ M' = (K, I, J, R)) ∨ (∃ a c, a < b_n b ∧ c < b_n b ∧ a ≠ c ∧ x_nat aa (b_n b) = some a ∧ x_nat cc (b_n b) = some c ∧ x = nI (if (b_m b a).testBit c = true then 1 else 0) ∧ ∃ I', M' = (K, I', J, R) ∧ (((b_m b a).testBit c = ar ∧ I' = I) ∨ ((b_m b a).testBit c ≠ ar ∧ mK I I' (b_flip b a c))))))) := by
  refine v_of [some (.ref 55), some (.int aa), some (.int cc), some (.int (v_p (ar = true))), none] (by decide) (Nat.le_of_ble_eq_true rfl) (Nat.le_of_ble_eq_true rfl) rfl ?_
  refine v_aload_n (pc := 0) dX12_friends_0 rfl rfl ?_
  refine v_iload_n (pc := 1) dX12_friends_1 rfl rfl ?_
  refine v_ci (pc := 2) (v_rV (c_X12_isPerson G l hL h (by omega)) rfl kV_X12_213 (v_rcO (li_55 hL) rfl (by decide)) ⟨Nat.le_of_ble_eq_true rfl, Nat.le_of_ble_eq_true rfl⟩ ⟨Nat.le_of_ble_eq_true rfl, Nat.le_of_ble_eq_true rfl⟩ dX12_friends_2 (Nat.le_of_ble_eq_true rfl)) (fun x2 M2 h2 => ?_)
  obtain ⟨rfl, rfl⟩ := h2
  refine v_if_eqP (pc := 5) (tgt := 16) dX12_friends_5 (by decide) (fun c5 => ?_) (fun c5 => ?_)
  · have e1 := x_nat_n c5
    refine v_iconst (pc := 16) (v := -1) dX12_friends_16 (by decide) ?_
    exact v_iret (pc := 17) dX12_friends_17 rfl rfl (Nat.le_of_ble_eq_true rfl) (Nat.le_of_ble_eq_true rfl) (by first | exact Or.inl ⟨Or.inl e1, rfl, rfl⟩ | exact Or.inl ⟨Or.inr e2, rfl, rfl⟩ | exact Or.inr (Or.inl ⟨⟨a, e1, by rw [e2, c20]⟩, rfl, rfl⟩) | exact Or.inr (Or.inr ⟨a, c, by omega, by omega, by omega, e1, e2, by first | rw [if_pos c53] | rw [if_neg c53], _, rfl, by first | exact Or.inl ⟨c42, rfl⟩ | exact Or.inr ⟨c42, mK_turns hm (by omega) (by omega) (by omega)⟩⟩))
  · obtain ⟨a, ha, ea, e1⟩ := x_nat_i c5 (by omega)
    refine v_aload_n (pc := 8) dX12_friends_8 rfl rfl ?_
    refine v_iload_n (pc := 9) dX12_friends_9 rfl rfl ?_
    refine v_ci (pc := 10) (v_rV (c_X12_isPerson G l hL h (by omega)) rfl kV_X12_213 (v_rcO (li_55 hL) rfl (by decide)) ⟨Nat.le_of_ble_eq_true rfl, Nat.le_of_ble_eq_true rfl⟩ ⟨Nat.le_of_ble_eq_true rfl, Nat.le_of_ble_eq_true rfl⟩ dX12_friends_10 (Nat.le_of_ble_eq_true rfl)) (fun x10 M10 h10 => ?_)
    obtain ⟨rfl, rfl⟩ := h10
    refine v_if_neP (pc := 13) (tgt := 18) dX12_friends_13 (by decide) (fun c13 => ?_) (fun c13 => ?_)
    · obtain ⟨c, hc, ec, e2⟩ := x_nat_i c13 (by omega)
      subst ea; subst ec
      refine v_iload_n (pc := 18) dX12_friends_18 rfl rfl ?_
      refine v_iload_n (pc := 19) dX12_friends_19 rfl rfl ?_
      refine v_icmp_neN (pc := 20) (tgt := 26) ⟨by omega, by omega⟩ dX12_friends_20 (by decide) (fun c20 => ?_) (fun c20 => ?_)
      · refine v_aload_n (pc := 26) dX12_friends_26 rfl rfl ?_
        refine v_aload_n (pc := 27) dX12_friends_27 rfl rfl ?_
        refine v_getH (pc := 28) fg_X12_26_12 dX12_friends_28 (li_55 hL) (lr_55_5 hL) ?_
        refine v_iload_n (pc := 31) dX12_friends_31 rfl rfl ?_
        refine v_ialoadN (pc := 32) dX12_friends_32 (li_58 hL) ⟨by omega, by omega⟩ (hm a (by omega)) ?_
        refine v_iload_n (pc := 33) dX12_friends_33 rfl rfl ?_
        refine v_ci (pc := 34) (v_rV (c_X12_has G l hL (by omega)) rfl kV_X12_217 (v_rcO (li_55 hL) rfl (by decide)) ⟨Nat.le_of_ble_eq_true rfl, Nat.le_of_ble_eq_true rfl⟩ ⟨Nat.le_of_ble_eq_true rfl, Nat.le_of_ble_eq_true rfl⟩ dX12_friends_34 (Nat.le_of_ble_eq_true rfl)) (fun x34 M34 h34 => ?_)
        obtain ⟨rfl, rfl⟩ := h34
        refine v_istore (pc := 37) dX12_friends_37 (by decide) rfl ?_
        refine v_iload (pc := 39) dX12_friends_39 rfl ?_
        refine v_iload_n (pc := 41) dX12_friends_41 rfl rfl ?_
        refine v_icmp_eq (pc := 42) (tgt := 51) dX12_friends_42 (by decide) (fun c42 => ?_) (fun c42 => ?_)
        · rw [w_bt (by omega), v_pb] at c42
          refine v_iload (pc := 51) dX12_friends_51 rfl ?_
          refine v_if_eqP (pc := 53) (tgt := 60) dX12_friends_53 (by decide) (fun c53 => ?_) (fun c53 => ?_)
          · rw [w_bt (by omega)] at c53
            refine v_iconst (pc := 60) (v := nI 0) dX12_friends_60 (by decide) ?_
            exact v_iret (pc := 61) dX12_friends_61 rfl rfl (Nat.le_of_ble_eq_true rfl) (Nat.le_of_ble_eq_true rfl) (by first | exact Or.inl ⟨Or.inl e1, rfl, rfl⟩ | exact Or.inl ⟨Or.inr e2, rfl, rfl⟩ | exact Or.inr (Or.inl ⟨⟨a, e1, by rw [e2, c20]⟩, rfl, rfl⟩) | exact Or.inr (Or.inr ⟨a, c, by omega, by omega, by omega, e1, e2, by first | rw [if_pos c53] | rw [if_neg c53], _, rfl, by first | exact Or.inl ⟨c42, rfl⟩ | exact Or.inr ⟨c42, mK_turns hm (by omega) (by omega) (by omega)⟩⟩))
          · rw [w_bt (by omega)] at c53
            refine v_iconst (pc := 56) (v := nI 1) dX12_friends_56 (by decide) ?_
            refine v_goto (pc := 57) (tgt := 61) dX12_friends_57 (by decide) ?_
            exact v_iret (pc := 61) dX12_friends_61 rfl rfl (Nat.le_of_ble_eq_true rfl) (Nat.le_of_ble_eq_true rfl) (by first | exact Or.inl ⟨Or.inl e1, rfl, rfl⟩ | exact Or.inl ⟨Or.inr e2, rfl, rfl⟩ | exact Or.inr (Or.inl ⟨⟨a, e1, by rw [e2, c20]⟩, rfl, rfl⟩) | exact Or.inr (Or.inr ⟨a, c, by omega, by omega, by omega, e1, e2, by first | rw [if_pos c53] | rw [if_neg c53], _, rfl, by first | exact Or.inl ⟨c42, rfl⟩ | exact Or.inr ⟨c42, mK_turns hm (by omega) (by omega) (by omega)⟩⟩))
        · rw [w_bt (by omega), v_pb] at c42
          refine v_aload_n (pc := 45) dX12_friends_45 rfl rfl ?_
          refine v_iload_n (pc := 46) dX12_friends_46 rfl rfl ?_
          refine v_iload_n (pc := 47) dX12_friends_47 rfl rfl ?_
          refine v_cv (pc := 48) (v_rV (c_X12_turns G l hL hm ⟨by omega, by omega, by omega⟩) rfl kV_X12_221 (v_rcO (li_55 hL) rfl (by decide)) ⟨Nat.le_of_ble_eq_true rfl, Nat.le_of_ble_eq_true rfl⟩ ⟨Nat.le_of_ble_eq_true rfl, Nat.le_of_ble_eq_true rfl⟩ dX12_friends_48 (Nat.le_of_ble_eq_true rfl)) (fun M48 h48 => ?_)
          subst h48
          refine v_iload (pc := 51) dX12_friends_51 rfl ?_
          refine v_if_eqP (pc := 53) (tgt := 60) dX12_friends_53 (by decide) (fun c53 => ?_) (fun c53 => ?_)
          · rw [w_bt (by omega)] at c53
            refine v_iconst (pc := 60) (v := nI 0) dX12_friends_60 (by decide) ?_
            exact v_iret (pc := 61) dX12_friends_61 rfl rfl (Nat.le_of_ble_eq_true rfl) (Nat.le_of_ble_eq_true rfl) (by first | exact Or.inl ⟨Or.inl e1, rfl, rfl⟩ | exact Or.inl ⟨Or.inr e2, rfl, rfl⟩ | exact Or.inr (Or.inl ⟨⟨a, e1, by rw [e2, c20]⟩, rfl, rfl⟩) | exact Or.inr (Or.inr ⟨a, c, by omega, by omega, by omega, e1, e2, by first | rw [if_pos c53] | rw [if_neg c53], _, rfl, by first | exact Or.inl ⟨c42, rfl⟩ | exact Or.inr ⟨c42, mK_turns hm (by omega) (by omega) (by omega)⟩⟩))
          · rw [w_bt (by omega)] at c53
            refine v_iconst (pc := 56) (v := nI 1) dX12_friends_56 (by decide) ?_
            refine v_goto (pc := 57) (tgt := 61) dX12_friends_57 (by decide) ?_
            exact v_iret (pc := 61) dX12_friends_61 rfl rfl (Nat.le_of_ble_eq_true rfl) (Nat.le_of_ble_eq_true rfl) (by first | exact Or.inl ⟨Or.inl e1, rfl, rfl⟩ | exact Or.inl ⟨Or.inr e2, rfl, rfl⟩ | exact Or.inr (Or.inl ⟨⟨a, e1, by rw [e2, c20]⟩, rfl, rfl⟩) | exact Or.inr (Or.inr ⟨a, c, by omega, by omega, by omega, e1, e2, by first | rw [if_pos c53] | rw [if_neg c53], _, rfl, by first | exact Or.inl ⟨c42, rfl⟩ | exact Or.inr ⟨c42, mK_turns hm (by omega) (by omega) (by omega)⟩⟩))
      · refine v_bipush (pc := 23) (v := -2) dX12_friends_23 (by decide) ?_
        exact v_iret (pc := 25) dX12_friends_25 rfl rfl (Nat.le_of_ble_eq_true rfl) (Nat.le_of_ble_eq_true rfl) (by first | exact Or.inl ⟨Or.inl e1, rfl, rfl⟩ | exact Or.inl ⟨Or.inr e2, rfl, rfl⟩ | exact Or.inr (Or.inl ⟨⟨a, e1, by rw [e2, c20]⟩, rfl, rfl⟩) | exact Or.inr (Or.inr ⟨a, c, by omega, by omega, by omega, e1, e2, by first | rw [if_pos c53] | rw [if_neg c53], _, rfl, by first | exact Or.inl ⟨c42, rfl⟩ | exact Or.inr ⟨c42, mK_turns hm (by omega) (by omega) (by omega)⟩⟩))
    · have e2 := x_nat_n c13
      refine v_iconst (pc := 16) (v := -1) dX12_friends_16 (by decide) ?_
      exact v_iret (pc := 17) dX12_friends_17 rfl rfl (Nat.le_of_ble_eq_true rfl) (Nat.le_of_ble_eq_true rfl) (by first | exact Or.inl ⟨Or.inl e1, rfl, rfl⟩ | exact Or.inl ⟨Or.inr e2, rfl, rfl⟩ | exact Or.inr (Or.inl ⟨⟨a, e1, by rw [e2, c20]⟩, rfl, rfl⟩) | exact Or.inr (Or.inr ⟨a, c, by omega, by omega, by omega, e1, e2, by first | rw [if_pos c53] | rw [if_neg c53], _, rfl, by first | exact Or.inl ⟨c42, rfl⟩ | exact Or.inr ⟨c42, mK_turns hm (by omega) (by omega) (by omega)⟩⟩))
abbrev rm_X12_row : Room := { frames := 2, cells := 0, slots := 0, locals := 44 }
set_option maxRecDepth 20000 in
theorem c_X12_row (G : v_G) (l : Launch) {K : Nat × v_TY} {I : Nat → Nat → Int32} {J : Nat → Nat → Int64} {R : Nat → Nat → Option Nat} (hL : Lay K R) {pp jj dd : Int32} {b : BS} (h : I 55 0 = nI (b_n b)) (hn : b_n b ≤ 6) (hk : ∀ i, i < 7 → I 56 i = nI (b_k b i)) (hk6 : ∀ i, b_k b i ≤ 6) (hr : ∀ j, j < 28 → I 59 j = nI (b_r b j)) : v_M G l yX12_row cX12_row 5 (some .int) rm_X12_row [.ref 55, .int pp, .int jj, .int dd] (K, I, J, R) (v_Qi G (fun (x : Int32) (M' : v_MM) => (((x_nat pp (b_n b) = none ∨ x_nat jj 4 = none) ∧ x = -1 ∧ M' = (K, I, J, R)) ∨ ((∃ i, x_nat pp (b_n b) = some i) ∧ (∃ i, x_nat jj 4 = some i) ∧ x_nat dd 4 = none ∧ x = -2 ∧ M' = (K, I, J, R)) ∨ ((∃ i, x_nat pp (b_n b) = some i ∧ b_k b i ≠ 6) ∧ (∃ i, x_nat jj 4 = some i) ∧ (∃ i, x_nat dd 4 = some i) ∧ x = -3 ∧ M' = (K, I, J, R)) ∨ (∃ i j d, i < b_n b ∧ j < 4 ∧ d < 4 ∧ x_nat pp (b_n b) = some i ∧ x_nat jj 4 = some j ∧ x_nat dd 4 = some d ∧ b_k b i = 6 ∧ x = nI (b_r b (4 * i + j)) ∧ M' = (K, v_u I 59 (4 * i + j) (nI d), J, R))))) := by
  refine v_of [some (.ref 55), some (.int pp), some (.int jj), some (.int dd), none] (by decide) (Nat.le_of_ble_eq_true rfl) (Nat.le_of_ble_eq_true rfl) rfl ?_
  refine v_aload_n (pc := 0) dX12_row_0 rfl rfl ?_
  refine v_iload_n (pc := 1) dX12_row_1 rfl rfl ?_
  refine v_ci (pc := 2) (v_rV (c_X12_isPerson G l hL h (by omega)) rfl kV_X12_213 (v_rcO (li_55 hL) rfl (by decide)) ⟨Nat.le_of_ble_eq_true rfl, Nat.le_of_ble_eq_true rfl⟩ ⟨Nat.le_of_ble_eq_true rfl, Nat.le_of_ble_eq_true rfl⟩ dX12_row_2 (Nat.le_of_ble_eq_true rfl)) (fun x2 M2 h2 => ?_)
  obtain ⟨rfl, rfl⟩ := h2
  refine v_if_eqP (pc := 5) (tgt := 18) dX12_row_5 (by decide) (fun c5 => ?_) (fun c5 => ?_)
  · have e1 := x_nat_n c5
    refine v_iconst (pc := 18) (v := -1) dX12_row_18 (by decide) ?_
    exact v_iret (pc := 19) dX12_row_19 rfl rfl (Nat.le_of_ble_eq_true rfl) (Nat.le_of_ble_eq_true rfl) (by first | exact Or.inl ⟨Or.inl e1, rfl, rfl⟩ | exact Or.inl ⟨Or.inr e2, rfl, rfl⟩ | exact Or.inr (Or.inl ⟨⟨i, e1⟩, ⟨j, e2⟩, e3, rfl, rfl⟩) | exact Or.inr (Or.inr (Or.inl ⟨⟨i, e1, c41⟩, ⟨j, e2⟩, ⟨d, e3⟩, rfl, rfl⟩)) | exact Or.inr (Or.inr (Or.inr ⟨i, j, d, hi, hj, hd, e1, e2, e3, c41, rfl, rfl⟩)))
  · obtain ⟨i, hi, ei, e1⟩ := x_nat_i c5 (by omega)
    subst ei
    refine v_aload_n (pc := 8) dX12_row_8 rfl rfl ?_
    refine v_iload_n (pc := 9) dX12_row_9 rfl rfl ?_
    refine v_iconst (pc := 10) (v := nI 0) dX12_row_10 (by decide) ?_
    refine v_iconst (pc := 11) (v := nI 3) dX12_row_11 (by decide) ?_
    refine v_ci (pc := 12) (v_rV (c_X12_in G l hL) rfl kV_X12_197 (v_rcO (li_55 hL) rfl (by decide)) ⟨Nat.le_of_ble_eq_true rfl, Nat.le_of_ble_eq_true rfl⟩ ⟨Nat.le_of_ble_eq_true rfl, Nat.le_of_ble_eq_true rfl⟩ dX12_row_12 (Nat.le_of_ble_eq_true rfl)) (fun x12 M12 h12 => ?_)
    obtain ⟨rfl, rfl⟩ := h12
    refine v_if_neP (pc := 15) (tgt := 20) dX12_row_15 (by decide) (fun c15 => ?_) (fun c15 => ?_)
    · obtain ⟨j, hj, qj, e2⟩ := x_nat_i (v_in_iff (m := 3) (by decide) |>.mp c15) (by decide)
      subst qj
      refine v_aload_n (pc := 20) dX12_row_20 rfl rfl ?_
      refine v_iload_n (pc := 21) dX12_row_21 rfl rfl ?_
      refine v_iconst (pc := 22) (v := nI 0) dX12_row_22 (by decide) ?_
      refine v_iconst (pc := 23) (v := nI 3) dX12_row_23 (by decide) ?_
      refine v_ci (pc := 24) (v_rV (c_X12_in G l hL) rfl kV_X12_197 (v_rcO (li_55 hL) rfl (by decide)) ⟨Nat.le_of_ble_eq_true rfl, Nat.le_of_ble_eq_true rfl⟩ ⟨Nat.le_of_ble_eq_true rfl, Nat.le_of_ble_eq_true rfl⟩ dX12_row_24 (Nat.le_of_ble_eq_true rfl)) (fun x24 M24 h24 => ?_)
      obtain ⟨rfl, rfl⟩ := h24
      refine v_if_neP (pc := 27) (tgt := 33) dX12_row_27 (by decide) (fun c27 => ?_) (fun c27 => ?_)
      · obtain ⟨d, hd, qd, e3⟩ := x_nat_i (v_in_iff (m := 3) (by decide) |>.mp c27) (by decide)
        subst qd
        have hki := hk6 i
        refine v_aload_n (pc := 33) dX12_row_33 rfl rfl ?_
        refine v_getH (pc := 34) fg_X12_19_12 dX12_row_34 (li_55 hL) (lr_55_3 hL) ?_
        refine v_iload_n (pc := 37) dX12_row_37 rfl rfl ?_
        refine v_ialoadN (pc := 38) dX12_row_38 (li_56 hL) ⟨by omega, by omega⟩ (hk i (by omega)) ?_
        refine v_bipush (pc := 39) (v := nI 6) dX12_row_39 (by decide) ?_
        refine v_icmp_eqN (pc := 41) (tgt := 47) ⟨by omega, by omega⟩ dX12_row_41 (by decide) (fun c41 => ?_) (fun c41 => ?_)
        · refine v_aload_n (pc := 47) dX12_row_47 rfl rfl ?_
          refine v_getH (pc := 48) fg_X12_29_12 dX12_row_48 (li_55 hL) (lr_55_6 hL) ?_
          refine v_iconst (pc := 51) (v := nI 4) dX12_row_51 (by decide) ?_
          refine v_iload_n (pc := 52) dX12_row_52 rfl rfl ?_
          refine v_imulN (pc := 53) dX12_row_53 ?_
          refine v_iload_n (pc := 54) dX12_row_54 rfl rfl ?_
          refine v_iaddN (pc := 55) dX12_row_55 ?_
          refine v_ialoadN (pc := 56) dX12_row_56 (li_59 hL) ⟨by omega, by omega⟩ (hr (4 * i + j) (by omega)) ?_
          refine v_istore (pc := 57) dX12_row_57 (by decide) rfl ?_
          refine v_aload_n (pc := 59) dX12_row_59 rfl rfl ?_
          refine v_getH (pc := 60) fg_X12_29_12 dX12_row_60 (li_55 hL) (lr_55_6 hL) ?_
          refine v_iconst (pc := 63) (v := nI 4) dX12_row_63 (by decide) ?_
          refine v_iload_n (pc := 64) dX12_row_64 rfl rfl ?_
          refine v_imulN (pc := 65) dX12_row_65 ?_
          refine v_iload_n (pc := 66) dX12_row_66 rfl rfl ?_
          refine v_iaddN (pc := 67) dX12_row_67 ?_
          refine v_iload_n (pc := 68) dX12_row_68 rfl rfl ?_
          refine v_iastoreN (pc := 69) dX12_row_69 (li_59 hL) ⟨by omega, by omega⟩ ?_
          refine v_iload (pc := 70) dX12_row_70 rfl ?_
          exact v_iret (pc := 72) dX12_row_72 rfl rfl (Nat.le_of_ble_eq_true rfl) (Nat.le_of_ble_eq_true rfl) (by first | exact Or.inl ⟨Or.inl e1, rfl, rfl⟩ | exact Or.inl ⟨Or.inr e2, rfl, rfl⟩ | exact Or.inr (Or.inl ⟨⟨i, e1⟩, ⟨j, e2⟩, e3, rfl, rfl⟩) | exact Or.inr (Or.inr (Or.inl ⟨⟨i, e1, c41⟩, ⟨j, e2⟩, ⟨d, e3⟩, rfl, rfl⟩)) | exact Or.inr (Or.inr (Or.inr ⟨i, j, d, hi, hj, hd, e1, e2, e3, c41, rfl, rfl⟩)))
        · refine v_bipush (pc := 44) (v := -3) dX12_row_44 (by decide) ?_
          exact v_iret (pc := 46) dX12_row_46 rfl rfl (Nat.le_of_ble_eq_true rfl) (Nat.le_of_ble_eq_true rfl) (by first | exact Or.inl ⟨Or.inl e1, rfl, rfl⟩ | exact Or.inl ⟨Or.inr e2, rfl, rfl⟩ | exact Or.inr (Or.inl ⟨⟨i, e1⟩, ⟨j, e2⟩, e3, rfl, rfl⟩) | exact Or.inr (Or.inr (Or.inl ⟨⟨i, e1, c41⟩, ⟨j, e2⟩, ⟨d, e3⟩, rfl, rfl⟩)) | exact Or.inr (Or.inr (Or.inr ⟨i, j, d, hi, hj, hd, e1, e2, e3, c41, rfl, rfl⟩)))
      · have e3 := x_nat_n (fun z => c27 (v_in_iff (m := 3) (by decide) |>.mpr z))
        refine v_bipush (pc := 30) (v := -2) dX12_row_30 (by decide) ?_
        exact v_iret (pc := 32) dX12_row_32 rfl rfl (Nat.le_of_ble_eq_true rfl) (Nat.le_of_ble_eq_true rfl) (by first | exact Or.inl ⟨Or.inl e1, rfl, rfl⟩ | exact Or.inl ⟨Or.inr e2, rfl, rfl⟩ | exact Or.inr (Or.inl ⟨⟨i, e1⟩, ⟨j, e2⟩, e3, rfl, rfl⟩) | exact Or.inr (Or.inr (Or.inl ⟨⟨i, e1, c41⟩, ⟨j, e2⟩, ⟨d, e3⟩, rfl, rfl⟩)) | exact Or.inr (Or.inr (Or.inr ⟨i, j, d, hi, hj, hd, e1, e2, e3, c41, rfl, rfl⟩)))
    · have e2 := x_nat_n (fun z => c15 (v_in_iff (m := 3) (by decide) |>.mpr z))
      refine v_iconst (pc := 18) (v := -1) dX12_row_18 (by decide) ?_
      exact v_iret (pc := 19) dX12_row_19 rfl rfl (Nat.le_of_ble_eq_true rfl) (Nat.le_of_ble_eq_true rfl) (by first | exact Or.inl ⟨Or.inl e1, rfl, rfl⟩ | exact Or.inl ⟨Or.inr e2, rfl, rfl⟩ | exact Or.inr (Or.inl ⟨⟨i, e1⟩, ⟨j, e2⟩, e3, rfl, rfl⟩) | exact Or.inr (Or.inr (Or.inl ⟨⟨i, e1, c41⟩, ⟨j, e2⟩, ⟨d, e3⟩, rfl, rfl⟩)) | exact Or.inr (Or.inr (Or.inr ⟨i, j, d, hi, hj, hd, e1, e2, e3, c41, rfl, rfl⟩)))
abbrev rm_X12_complain : Room := { frames := 2, cells := 0, slots := 0, locals := 44 }
set_option maxRecDepth 20000 in
theorem c_X12_complain (G : v_G) (l : Launch) {K : Nat × v_TY} {I : Nat → Nat → Int32} {J : Nat → Nat → Int64} {R : Nat → Nat → Option Nat} (hL : Lay K R) {pp dd : Int32} {n : Nat} {cm : Nat → Nat} (h : I 55 0 = nI n) (hn : n ≤ 6) (hc : ∀ i, i < 7 → I 60 i = nI (cm i)) : v_M G l yX12_complain cX12_complain 4 (some .int) rm_X12_complain [.ref 55, .int pp, .int dd] (K, I, J, R) (v_Qi G (fun (x : Int32) (M' : v_MM) => ((x_nat pp n = none ∧ x = -1 ∧ M' = (K, I, J, R)) ∨ ((∃ i, x_nat pp n = some i) ∧ x_nat dd 6 = none ∧ x = -2 ∧ M' = (K, I, J, R)) ∨ (∃ i d, i < n ∧ d < 6 ∧ x_nat pp n = some i ∧ x_nat dd 6 = some d ∧ x = nI (cm i) ∧ M' = (K, v_u I 60 i (nI d), J, R))))) := by
  refine v_of [some (.ref 55), some (.int pp), some (.int dd), none] (by decide) (Nat.le_of_ble_eq_true rfl) (Nat.le_of_ble_eq_true rfl) rfl ?_
  refine v_aload_n (pc := 0) dX12_complain_0 rfl rfl ?_
  refine v_iload_n (pc := 1) dX12_complain_1 rfl rfl ?_
  refine v_ci (pc := 2) (v_rV (c_X12_isPerson G l hL h (by omega)) rfl kV_X12_213 (v_rcO (li_55 hL) rfl (by decide)) ⟨Nat.le_of_ble_eq_true rfl, Nat.le_of_ble_eq_true rfl⟩ ⟨Nat.le_of_ble_eq_true rfl, Nat.le_of_ble_eq_true rfl⟩ dX12_complain_2 (Nat.le_of_ble_eq_true rfl)) (fun x2 M2 h2 => ?_)
  obtain ⟨rfl, rfl⟩ := h2
  refine v_if_neP (pc := 5) (tgt := 10) dX12_complain_5 (by decide) (fun c5 => ?_) (fun c5 => ?_)
  · obtain ⟨i, hi, ei, e1⟩ := x_nat_i c5 (by omega)
    subst ei
    refine v_aload_n (pc := 10) dX12_complain_10 rfl rfl ?_
    refine v_iload_n (pc := 11) dX12_complain_11 rfl rfl ?_
    refine v_iconst (pc := 12) (v := nI 0) dX12_complain_12 (by decide) ?_
    refine v_iconst (pc := 13) (v := nI 5) dX12_complain_13 (by decide) ?_
    refine v_ci (pc := 14) (v_rV (c_X12_in G l hL) rfl kV_X12_197 (v_rcO (li_55 hL) rfl (by decide)) ⟨Nat.le_of_ble_eq_true rfl, Nat.le_of_ble_eq_true rfl⟩ ⟨Nat.le_of_ble_eq_true rfl, Nat.le_of_ble_eq_true rfl⟩ dX12_complain_14 (Nat.le_of_ble_eq_true rfl)) (fun x14 M14 h14 => ?_)
    obtain ⟨rfl, rfl⟩ := h14
    refine v_if_neP (pc := 17) (tgt := 23) dX12_complain_17 (by decide) (fun c17 => ?_) (fun c17 => ?_)
    · obtain ⟨d, hd, qd, e2⟩ := x_nat_i (v_in_iff (m := 5) (by decide) |>.mp c17) (by decide)
      subst qd
      refine v_aload_n (pc := 23) dX12_complain_23 rfl rfl ?_
      refine v_getH (pc := 24) fg_X12_32_12 dX12_complain_24 (li_55 hL) (lr_55_7 hL) ?_
      refine v_iload_n (pc := 27) dX12_complain_27 rfl rfl ?_
      refine v_ialoadN (pc := 28) dX12_complain_28 (li_60 hL) ⟨by omega, by omega⟩ (hc i (by omega)) ?_
      refine v_istore_n (pc := 29) dX12_complain_29 rfl (by decide) rfl ?_
      refine v_aload_n (pc := 30) dX12_complain_30 rfl rfl ?_
      refine v_getH (pc := 31) fg_X12_32_12 dX12_complain_31 (li_55 hL) (lr_55_7 hL) ?_
      refine v_iload_n (pc := 34) dX12_complain_34 rfl rfl ?_
      refine v_iload_n (pc := 35) dX12_complain_35 rfl rfl ?_
      refine v_iastoreN (pc := 36) dX12_complain_36 (li_60 hL) ⟨by omega, by omega⟩ ?_
      refine v_iload_n (pc := 37) dX12_complain_37 rfl rfl ?_
      exact v_iret (pc := 38) dX12_complain_38 rfl rfl (Nat.le_of_ble_eq_true rfl) (Nat.le_of_ble_eq_true rfl) (by first | exact Or.inl ⟨e1, rfl, rfl⟩ | exact Or.inr (Or.inl ⟨⟨i, e1⟩, e2, rfl, rfl⟩) | exact Or.inr (Or.inr ⟨i, d, hi, hd, e1, e2, rfl, rfl⟩))
    · have e2 := x_nat_n (fun z => c17 (v_in_iff (m := 5) (by decide) |>.mpr z))
      refine v_bipush (pc := 20) (v := -2) dX12_complain_20 (by decide) ?_
      exact v_iret (pc := 22) dX12_complain_22 rfl rfl (Nat.le_of_ble_eq_true rfl) (Nat.le_of_ble_eq_true rfl) (by first | exact Or.inl ⟨e1, rfl, rfl⟩ | exact Or.inr (Or.inl ⟨⟨i, e1⟩, e2, rfl, rfl⟩) | exact Or.inr (Or.inr ⟨i, d, hi, hd, e1, e2, rfl, rfl⟩))
  · have e1 := x_nat_n c5
    refine v_iconst (pc := 8) (v := -1) dX12_complain_8 (by decide) ?_
    exact v_iret (pc := 9) dX12_complain_9 rfl rfl (Nat.le_of_ble_eq_true rfl) (Nat.le_of_ble_eq_true rfl) (by first | exact Or.inl ⟨e1, rfl, rfl⟩ | exact Or.inr (Or.inl ⟨⟨i, e1⟩, e2, rfl, rfl⟩) | exact Or.inr (Or.inr ⟨i, d, hi, hd, e1, e2, rfl, rfl⟩))
abbrev rm_X12_wish : Room := { frames := 2, cells := 0, slots := 0, locals := 44 }
set_option maxRecDepth 20000 in
theorem c_X12_wish (G : v_G) (l : Launch) {K : Nat × v_TY} {I : Nat → Nat → Int32} {J : Nat → Nat → Int64} {R : Nat → Nat → Option Nat} (hL : Lay K R) {pp : Int32} {ar : Bool} {n w : Nat} (h : I 55 0 = nI n) (hn : n ≤ 6) (hw : I 55 34 = nI w) (hw6 : w ≤ 6) : v_M G l yX12_wish cX12_wish 3 (some .int) rm_X12_wish [.ref 55, .int pp, .int (v_p (ar = true))] (K, I, J, R) (v_Qi G (fun (x : Int32) (M' : v_MM) => ((pp = -1 ∧ x = 0 ∧ M' = (K, v_u I 55 34 (nI 0), J, R)) ∨ (pp ≠ -1 ∧ x_nat pp (w_pr n) = none ∧ x = -1 ∧ M' = (K, I, J, R)) ∨ (pp ≠ -1 ∧ (∃ i, x_nat pp (w_pr n) = some i) ∧ w = 6 ∧ x = -4 ∧ M' = (K, I, J, R)) ∨ (∃ i, i < w_pr n ∧ pp ≠ -1 ∧ x_nat pp (w_pr n) = some i ∧ w < 6 ∧ x = nI (w + 1) ∧ M' = (K, v_u (v_u (v_u I 73 w (nI i)) 76 w (v_p (ar = true))) 55 34 (nI (w + 1)), J, R))))) := by
  refine v_of [some (.ref 55), some (.int pp), some (.int (v_p (ar = true)))] (by decide) (Nat.le_of_ble_eq_true rfl) (Nat.le_of_ble_eq_true rfl) rfl ?_
  have h15 := w_pr_lt n (by omega)
  refine v_iload_n (pc := 0) dX12_wish_0 rfl rfl ?_
  refine v_iconst (pc := 1) (v := -1) dX12_wish_1 (by decide) ?_
  refine v_icmp_ne (pc := 2) (tgt := 12) dX12_wish_2 (by decide) (fun c2 => ?_) (fun c2 => ?_)
  · refine v_aload_n (pc := 12) dX12_wish_12 rfl rfl ?_
    refine v_iload_n (pc := 13) dX12_wish_13 rfl rfl ?_
    refine v_ci (pc := 14) (v_rV (c_X12_isPair G l hL h (by omega)) rfl kV_X12_310 (v_rcO (li_55 hL) rfl (by decide)) ⟨Nat.le_of_ble_eq_true rfl, Nat.le_of_ble_eq_true rfl⟩ ⟨Nat.le_of_ble_eq_true rfl, Nat.le_of_ble_eq_true rfl⟩ dX12_wish_14 (Nat.le_of_ble_eq_true rfl)) (fun x14 M14 h14 => ?_)
    obtain ⟨rfl, rfl⟩ := h14
    refine v_if_neP (pc := 17) (tgt := 22) dX12_wish_17 (by decide) (fun c17 => ?_) (fun c17 => ?_)
    · obtain ⟨i, hi, ei, e1⟩ := x_nat_i c17 (by omega)
      refine v_aload_n (pc := 22) dX12_wish_22 rfl rfl ?_
      refine v_getV (pc := 23) fg_X12_114_12 dX12_wish_23 (li_55 hL) hw ?_
      refine v_bipush (pc := 26) (v := nI 6) dX12_wish_26 (by decide) ?_
      refine v_icmp_neN (pc := 28) (tgt := 34) ⟨by omega, by omega⟩ dX12_wish_28 (by decide) (fun c28 => ?_) (fun c28 => ?_)
      · refine v_aload_n (pc := 34) dX12_wish_34 rfl rfl ?_
        refine v_getH (pc := 35) fg_X12_120_12 dX12_wish_35 (li_55 hL) (lr_55_36 hL) ?_
        refine v_aload_n (pc := 38) dX12_wish_38 rfl rfl ?_
        refine v_getV (pc := 39) fg_X12_114_12 dX12_wish_39 (li_55 hL) hw ?_
        refine v_iload_n (pc := 42) dX12_wish_42 rfl rfl ?_
        refine v_iastoreN (pc := 43) dX12_wish_43 (li_73 hL) ⟨by omega, by omega⟩ ?_
        refine v_aload_n (pc := 44) dX12_wish_44 rfl rfl ?_
        refine v_getH (pc := 45) fg_X12_129_12 dX12_wish_45 (li_55 hL) (lr_55_39 hL) ?_
        refine v_aload_n (pc := 48) dX12_wish_48 rfl rfl ?_
        refine v_getV (pc := 49) fg_X12_114_12 dX12_wish_49 (li_55 hL) ((v_u_h (by decide)).trans hw) ?_
        refine v_iload_n (pc := 52) dX12_wish_52 rfl rfl ?_
        refine v_zastoreN (pc := 53) dX12_wish_53 (li_76 hL) ⟨by omega, by omega⟩ v_p_nar ?_
        refine v_aload_n (pc := 54) dX12_wish_54 rfl rfl ?_
        refine v_dup (pc := 55) dX12_wish_55 rfl ?_
        refine v_getV (pc := 56) fg_X12_114_12 dX12_wish_56 (li_55 hL) ((v_u_h (by decide)).trans ((v_u_h (by decide)).trans hw)) ?_
        refine v_iconst (pc := 59) (v := nI 1) dX12_wish_59 (by decide) ?_
        refine v_iaddN (pc := 60) dX12_wish_60 ?_
        refine v_putI (pc := 61) pg_X12_114_12 (fun h => by cases h) dX12_wish_61 (li_55 hL) rfl rfl ?_
        refine v_aload_n (pc := 64) dX12_wish_64 rfl rfl ?_
        refine v_getV (pc := 65) fg_X12_114_12 dX12_wish_65 (li_55 hL) v_u_same ?_
        exact v_iret (pc := 68) dX12_wish_68 rfl rfl (Nat.le_of_ble_eq_true rfl) (Nat.le_of_ble_eq_true rfl) (by first | exact Or.inl ⟨c2, rfl, rfl⟩ | exact Or.inr (Or.inl ⟨c2, e1, rfl, rfl⟩) | exact Or.inr (Or.inr (Or.inl ⟨c2, ⟨i, e1⟩, by omega, rfl, rfl⟩)) | exact Or.inr (Or.inr (Or.inr ⟨i, hi, c2, e1, by omega, rfl, by rw [← ei]⟩)))
      · refine v_bipush (pc := 31) (v := -4) dX12_wish_31 (by decide) ?_
        exact v_iret (pc := 33) dX12_wish_33 rfl rfl (Nat.le_of_ble_eq_true rfl) (Nat.le_of_ble_eq_true rfl) (by first | exact Or.inl ⟨c2, rfl, rfl⟩ | exact Or.inr (Or.inl ⟨c2, e1, rfl, rfl⟩) | exact Or.inr (Or.inr (Or.inl ⟨c2, ⟨i, e1⟩, by omega, rfl, rfl⟩)) | exact Or.inr (Or.inr (Or.inr ⟨i, hi, c2, e1, by omega, rfl, by rw [← ei]⟩)))
    · have e1 := x_nat_n c17
      refine v_iconst (pc := 20) (v := -1) dX12_wish_20 (by decide) ?_
      exact v_iret (pc := 21) dX12_wish_21 rfl rfl (Nat.le_of_ble_eq_true rfl) (Nat.le_of_ble_eq_true rfl) (by first | exact Or.inl ⟨c2, rfl, rfl⟩ | exact Or.inr (Or.inl ⟨c2, e1, rfl, rfl⟩) | exact Or.inr (Or.inr (Or.inl ⟨c2, ⟨i, e1⟩, by omega, rfl, rfl⟩)) | exact Or.inr (Or.inr (Or.inr ⟨i, hi, c2, e1, by omega, rfl, by rw [← ei]⟩)))
  · refine v_aload_n (pc := 5) dX12_wish_5 rfl rfl ?_
    refine v_iconst (pc := 6) (v := nI 0) dX12_wish_6 (by decide) ?_
    refine v_putI (pc := 7) pg_X12_114_12 (fun h => by cases h) dX12_wish_7 (li_55 hL) rfl rfl ?_
    refine v_iconst (pc := 10) (v := nI 0) dX12_wish_10 (by decide) ?_
    exact v_iret (pc := 11) dX12_wish_11 rfl rfl (Nat.le_of_ble_eq_true rfl) (Nat.le_of_ble_eq_true rfl) (by first | exact Or.inl ⟨c2, rfl, rfl⟩ | exact Or.inr (Or.inl ⟨c2, e1, rfl, rfl⟩) | exact Or.inr (Or.inr (Or.inl ⟨c2, ⟨i, e1⟩, by omega, rfl, rfl⟩)) | exact Or.inr (Or.inr (Or.inr ⟨i, hi, c2, e1, by omega, rfl, by rw [← ei]⟩)))
abbrev rm_X12_book : Room := { frames := 2, cells := 0, slots := 0, locals := 44 }
set_option maxRecDepth 20000 in
theorem c_X12_book (G : v_G) (l : Launch) {K : Nat × v_TY} {I : Nat → Nat → Int32} {J : Nat → Nat → Int64} {R : Nat → Nat → Option Nat} (hL : Lay K R) {pp dd : Int32} {n w : Nat} (h : I 55 0 = nI n) (hn : n ≤ 6) (hw : I 55 35 = nI w) (hw6 : w ≤ 12) : v_M G l yX12_book cX12_book 3 (some .int) rm_X12_book [.ref 55, .int pp, .int dd] (K, I, J, R) (v_Qi G (fun (x : Int32) (M' : v_MM) => ((pp = -1 ∧ x = 0 ∧ M' = (K, v_u I 55 35 (nI 0), J, R)) ∨ (pp ≠ -1 ∧ x_nat pp (w_pr n) = none ∧ x = -1 ∧ M' = (K, I, J, R)) ∨ (pp ≠ -1 ∧ (∃ i, x_nat pp (w_pr n) = some i) ∧ x_nat dd 100 = none ∧ x = -2 ∧ M' = (K, I, J, R)) ∨ (pp ≠ -1 ∧ (∃ i, x_nat pp (w_pr n) = some i) ∧ (∃ d, x_nat dd 100 = some d) ∧ w = 12 ∧ x = -4 ∧ M' = (K, I, J, R)) ∨ (∃ i d, i < w_pr n ∧ d < 100 ∧ pp ≠ -1 ∧ x_nat pp (w_pr n) = some i ∧ x_nat dd 100 = some d ∧ w < 12 ∧ x = nI (w + 1) ∧ M' = (K, v_u (v_u (v_u I 74 w (nI i)) 75 w (nI d)) 55 35 (nI (w + 1)), J, R))))) := by
  refine v_of [some (.ref 55), some (.int pp), some (.int dd)] (by decide) (Nat.le_of_ble_eq_true rfl) (Nat.le_of_ble_eq_true rfl) rfl ?_
  have h15 := w_pr_lt n (by omega)
  refine v_iload_n (pc := 0) dX12_book_0 rfl rfl ?_
  refine v_iconst (pc := 1) (v := -1) dX12_book_1 (by decide) ?_
  refine v_icmp_ne (pc := 2) (tgt := 12) dX12_book_2 (by decide) (fun c2 => ?_) (fun c2 => ?_)
  · refine v_aload_n (pc := 12) dX12_book_12 rfl rfl ?_
    refine v_iload_n (pc := 13) dX12_book_13 rfl rfl ?_
    refine v_ci (pc := 14) (v_rV (c_X12_isPair G l hL h (by omega)) rfl kV_X12_310 (v_rcO (li_55 hL) rfl (by decide)) ⟨Nat.le_of_ble_eq_true rfl, Nat.le_of_ble_eq_true rfl⟩ ⟨Nat.le_of_ble_eq_true rfl, Nat.le_of_ble_eq_true rfl⟩ dX12_book_14 (Nat.le_of_ble_eq_true rfl)) (fun x14 M14 h14 => ?_)
    obtain ⟨rfl, rfl⟩ := h14
    refine v_if_neP (pc := 17) (tgt := 22) dX12_book_17 (by decide) (fun c17 => ?_) (fun c17 => ?_)
    · obtain ⟨i, hi, ei, e1⟩ := x_nat_i c17 (by omega)
      refine v_aload_n (pc := 22) dX12_book_22 rfl rfl ?_
      refine v_iload_n (pc := 23) dX12_book_23 rfl rfl ?_
      refine v_iconst (pc := 24) (v := nI 0) dX12_book_24 (by decide) ?_
      refine v_bipush (pc := 25) (v := nI 99) dX12_book_25 (by decide) ?_
      refine v_ci (pc := 27) (v_rV (c_X12_in G l hL) rfl kV_X12_197 (v_rcO (li_55 hL) rfl (by decide)) ⟨Nat.le_of_ble_eq_true rfl, Nat.le_of_ble_eq_true rfl⟩ ⟨Nat.le_of_ble_eq_true rfl, Nat.le_of_ble_eq_true rfl⟩ dX12_book_27 (Nat.le_of_ble_eq_true rfl)) (fun x27 M27 h27 => ?_)
      obtain ⟨rfl, rfl⟩ := h27
      refine v_if_neP (pc := 30) (tgt := 36) dX12_book_30 (by decide) (fun c30 => ?_) (fun c30 => ?_)
      · obtain ⟨d, hd, qd, e2⟩ := x_nat_i (v_in_iff (m := 99) (by decide) |>.mp c30) (by decide)
        subst qd
        refine v_aload_n (pc := 36) dX12_book_36 rfl rfl ?_
        refine v_getV (pc := 37) fg_X12_117_12 dX12_book_37 (li_55 hL) hw ?_
        refine v_bipush (pc := 40) (v := nI 12) dX12_book_40 (by decide) ?_
        refine v_icmp_neN (pc := 42) (tgt := 48) ⟨by omega, by omega⟩ dX12_book_42 (by decide) (fun c42 => ?_) (fun c42 => ?_)
        · refine v_aload_n (pc := 48) dX12_book_48 rfl rfl ?_
          refine v_getH (pc := 49) fg_X12_123_12 dX12_book_49 (li_55 hL) (lr_55_37 hL) ?_
          refine v_aload_n (pc := 52) dX12_book_52 rfl rfl ?_
          refine v_getV (pc := 53) fg_X12_117_12 dX12_book_53 (li_55 hL) hw ?_
          refine v_iload_n (pc := 56) dX12_book_56 rfl rfl ?_
          refine v_iastoreN (pc := 57) dX12_book_57 (li_74 hL) ⟨by omega, by omega⟩ ?_
          refine v_aload_n (pc := 58) dX12_book_58 rfl rfl ?_
          refine v_getH (pc := 59) fg_X12_126_12 dX12_book_59 (li_55 hL) (lr_55_38 hL) ?_
          refine v_aload_n (pc := 62) dX12_book_62 rfl rfl ?_
          refine v_getV (pc := 63) fg_X12_117_12 dX12_book_63 (li_55 hL) ((v_u_h (by decide)).trans hw) ?_
          refine v_iload_n (pc := 66) dX12_book_66 rfl rfl ?_
          refine v_iastoreN (pc := 67) dX12_book_67 (li_75 hL) ⟨by omega, by omega⟩ ?_
          refine v_aload_n (pc := 68) dX12_book_68 rfl rfl ?_
          refine v_dup (pc := 69) dX12_book_69 rfl ?_
          refine v_getV (pc := 70) fg_X12_117_12 dX12_book_70 (li_55 hL) ((v_u_h (by decide)).trans ((v_u_h (by decide)).trans hw)) ?_
          refine v_iconst (pc := 73) (v := nI 1) dX12_book_73 (by decide) ?_
          refine v_iaddN (pc := 74) dX12_book_74 ?_
          refine v_putI (pc := 75) pg_X12_117_12 (fun h => by cases h) dX12_book_75 (li_55 hL) rfl rfl ?_
          refine v_aload_n (pc := 78) dX12_book_78 rfl rfl ?_
          refine v_getV (pc := 79) fg_X12_117_12 dX12_book_79 (li_55 hL) v_u_same ?_
          exact v_iret (pc := 82) dX12_book_82 rfl rfl (Nat.le_of_ble_eq_true rfl) (Nat.le_of_ble_eq_true rfl) (by first | exact Or.inl ⟨c2, rfl, rfl⟩ | exact Or.inr (Or.inl ⟨c2, e1, rfl, rfl⟩) | exact Or.inr (Or.inr (Or.inl ⟨c2, ⟨i, e1⟩, e2, rfl, rfl⟩)) | exact Or.inr (Or.inr (Or.inr (Or.inl ⟨c2, ⟨i, e1⟩, ⟨d, e2⟩, by omega, rfl, rfl⟩))) | exact Or.inr (Or.inr (Or.inr (Or.inr ⟨i, d, hi, hd, c2, e1, e2, by omega, rfl, by rw [← ei]⟩))))
        · refine v_bipush (pc := 45) (v := -4) dX12_book_45 (by decide) ?_
          exact v_iret (pc := 47) dX12_book_47 rfl rfl (Nat.le_of_ble_eq_true rfl) (Nat.le_of_ble_eq_true rfl) (by first | exact Or.inl ⟨c2, rfl, rfl⟩ | exact Or.inr (Or.inl ⟨c2, e1, rfl, rfl⟩) | exact Or.inr (Or.inr (Or.inl ⟨c2, ⟨i, e1⟩, e2, rfl, rfl⟩)) | exact Or.inr (Or.inr (Or.inr (Or.inl ⟨c2, ⟨i, e1⟩, ⟨d, e2⟩, by omega, rfl, rfl⟩))) | exact Or.inr (Or.inr (Or.inr (Or.inr ⟨i, d, hi, hd, c2, e1, e2, by omega, rfl, by rw [← ei]⟩))))
      · have e2 := x_nat_n (fun z => c30 (v_in_iff (m := 99) (by decide) |>.mpr z))
        refine v_bipush (pc := 33) (v := -2) dX12_book_33 (by decide) ?_
        exact v_iret (pc := 35) dX12_book_35 rfl rfl (Nat.le_of_ble_eq_true rfl) (Nat.le_of_ble_eq_true rfl) (by first | exact Or.inl ⟨c2, rfl, rfl⟩ | exact Or.inr (Or.inl ⟨c2, e1, rfl, rfl⟩) | exact Or.inr (Or.inr (Or.inl ⟨c2, ⟨i, e1⟩, e2, rfl, rfl⟩)) | exact Or.inr (Or.inr (Or.inr (Or.inl ⟨c2, ⟨i, e1⟩, ⟨d, e2⟩, by omega, rfl, rfl⟩))) | exact Or.inr (Or.inr (Or.inr (Or.inr ⟨i, d, hi, hd, c2, e1, e2, by omega, rfl, by rw [← ei]⟩))))
    · have e1 := x_nat_n c17
      refine v_iconst (pc := 20) (v := -1) dX12_book_20 (by decide) ?_
      exact v_iret (pc := 21) dX12_book_21 rfl rfl (Nat.le_of_ble_eq_true rfl) (Nat.le_of_ble_eq_true rfl) (by first | exact Or.inl ⟨c2, rfl, rfl⟩ | exact Or.inr (Or.inl ⟨c2, e1, rfl, rfl⟩) | exact Or.inr (Or.inr (Or.inl ⟨c2, ⟨i, e1⟩, e2, rfl, rfl⟩)) | exact Or.inr (Or.inr (Or.inr (Or.inl ⟨c2, ⟨i, e1⟩, ⟨d, e2⟩, by omega, rfl, rfl⟩))) | exact Or.inr (Or.inr (Or.inr (Or.inr ⟨i, d, hi, hd, c2, e1, e2, by omega, rfl, by rw [← ei]⟩))))
  · refine v_aload_n (pc := 5) dX12_book_5 rfl rfl ?_
    refine v_iconst (pc := 6) (v := nI 0) dX12_book_6 (by decide) ?_
    refine v_putI (pc := 7) pg_X12_117_12 (fun h => by cases h) dX12_book_7 (li_55 hL) rfl rfl ?_
    refine v_iconst (pc := 10) (v := nI 0) dX12_book_10 (by decide) ?_
    exact v_iret (pc := 11) dX12_book_11 rfl rfl (Nat.le_of_ble_eq_true rfl) (Nat.le_of_ble_eq_true rfl) (by first | exact Or.inl ⟨c2, rfl, rfl⟩ | exact Or.inr (Or.inl ⟨c2, e1, rfl, rfl⟩) | exact Or.inr (Or.inr (Or.inl ⟨c2, ⟨i, e1⟩, e2, rfl, rfl⟩)) | exact Or.inr (Or.inr (Or.inr (Or.inl ⟨c2, ⟨i, e1⟩, ⟨d, e2⟩, by omega, rfl, rfl⟩))) | exact Or.inr (Or.inr (Or.inr (Or.inr ⟨i, d, hi, hd, c2, e1, e2, by omega, rfl, by rw [← ei]⟩))))
