/-! THE CLASS: what calls change -/
theorem tie_if : ∀ m, m < 64 → ∀ j, j < 6 → ∀ ar : Bool, s_tie ar m j = if m.testBit j = ar then m else m ^^^ 2 ^ j := by decide +kernel
theorem x_lim {z : Int32} {n : Nat} (hn : n < 1000) : (¬ z < 0 ∧ z ≤ nI n) ↔ vp_in z (n + 1) := by
  rw [vp_in_iff, Int32.lt_iff_toInt_lt, Int32.le_iff_toInt_le, nI_toInt (by omega)]
  have e : (0 : Int32).toInt = 0 := rfl
  rw [e]; omega
abbrev rm_X11_person : Room := { frames := 5, cells := 1, slots := 3, locals := 111 }
set_option maxRecDepth 20000 in
theorem c_X11_person (G : v_G) (l : Launch) {K : Nat × v_TY} {I : Nat → Nat → Int32} {J : Nat → Nat → Int64} {R : Nat → Nat → Option Nat} (hL : Lay K R) {kk vv : Int32} {b : BS} {hm : Nat} {p : CLS} (hv : CV K I R 1 b hm p) (hf : HF b hm) (hK : 91 ≤ K.1 ∧ K.1 < 900000) : v_M G l yX11_person cX11_person 3 (some .int) rm_X11_person [.ref 0, .int kk, .int vv] (K, I, J, R) (v_Qi G (fun (x : Int32) (M' : v_MM) => ((x_nat kk 7 = none ∧ x = -1 ∧ M' = (K, I, J, R)) ∨ ((∃ k, x_nat kk 7 = some k) ∧ x_nat vv 10 = none ∧ x = -2 ∧ M' = (K, I, J, R)) ∨ ((∃ k, x_nat kk 7 = some k) ∧ (∃ v, x_nat vv 10 = some v) ∧ b_n b = 6 ∧ x = -4 ∧ M' = (K, I, J, R)) ∨ (∃ k v, k < 7 ∧ v < 10 ∧ x_nat kk 7 = some k ∧ x_nat vv 10 = some v ∧ b_n b < 6 ∧ x = nI (b_n b) ∧ M' = (v_k K (p_ci k) 0, w_cj (w_p3 (v_z I K.1 0) K.1 k (b_n b) v) 1 (b_n b) hm, v_z J K.1 0, v_u (v_z R K.1 none) (1 + 1) (b_n b) (some K.1)))))) := by
  refine v_of [some (.ref 0), some (.int kk), some (.int vv)] (by decide) (Nat.le_of_ble_eq_true rfl) (Nat.le_of_ble_eq_true rfl) rfl ?_
  have hB := hv.2.1
  have hn6 := hB.1
  have h15 := pr15 hn6
  have he := ve_now (p := p) hB hf
  refine v_iload_n (pc := 0) dX11_person_0 rfl rfl ?_
  refine v_if_lt (pc := 1) (tgt := 10) dX11_person_1 (by decide) (fun c1 => ?_) (fun c1 => ?_)
  · have e1 : x_nat kk 7 = none := x_nat_n (fun z => (x_n7.mpr z).1 c1)
    refine v_iconst (pc := 10) (v := -1) dX11_person_10 (by decide) ?_
    exact v_iret (pc := 11) dX11_person_11 rfl rfl (Nat.le_of_ble_eq_true rfl) (Nat.le_of_ble_eq_true rfl) (by first | exact Or.inl ⟨e1, rfl, rfl⟩ | exact Or.inr (Or.inl ⟨⟨_, e1⟩, e3, rfl, rfl⟩) | exact Or.inr (Or.inr (Or.inl ⟨⟨_, e1⟩, ⟨_, e3⟩, by omega, rfl, rfl⟩)) | exact Or.inr (Or.inr (Or.inr ⟨k, v, hk, hv9, e1, e3, by omega, rfl, rfl⟩)))
  · refine v_iload_n (pc := 4) dX11_person_4 rfl rfl ?_
    refine v_bipush (pc := 5) (v := nI 6) dX11_person_5 (by decide) ?_
    refine v_icmp_le (pc := 7) (tgt := 12) dX11_person_7 (by decide) (fun c7 => ?_) (fun c7 => ?_)
    · obtain ⟨k, hk, rfl, e1⟩ := x_nat_i (x_n7.mp ⟨c1, c7⟩) (by decide)
      refine v_iload_n (pc := 12) dX11_person_12 rfl rfl ?_
      refine v_if_lt (pc := 13) (tgt := 22) dX11_person_13 (by decide) (fun c13 => ?_) (fun c13 => ?_)
      · have e3 : x_nat vv 10 = none := x_nat_n (fun z => (x_n10.mpr z).1 c13)
        refine v_bipush (pc := 22) (v := -2) dX11_person_22 (by decide) ?_
        exact v_iret (pc := 24) dX11_person_24 rfl rfl (Nat.le_of_ble_eq_true rfl) (Nat.le_of_ble_eq_true rfl) (by first | exact Or.inl ⟨e1, rfl, rfl⟩ | exact Or.inr (Or.inl ⟨⟨_, e1⟩, e3, rfl, rfl⟩) | exact Or.inr (Or.inr (Or.inl ⟨⟨_, e1⟩, ⟨_, e3⟩, by omega, rfl, rfl⟩)) | exact Or.inr (Or.inr (Or.inr ⟨k, v, hk, hv9, e1, e3, by omega, rfl, rfl⟩)))
      · refine v_iload_n (pc := 16) dX11_person_16 rfl rfl ?_
        refine v_bipush (pc := 17) (v := nI 9) dX11_person_17 (by decide) ?_
        refine v_icmp_le (pc := 19) (tgt := 25) dX11_person_19 (by decide) (fun c19 => ?_) (fun c19 => ?_)
        · obtain ⟨v, hv9, rfl, e3⟩ := x_nat_i (x_n10.mp ⟨c13, c19⟩) (by decide)
          refine v_aload_n (pc := 25) dX11_person_25 rfl rfl ?_
          refine v_getH (pc := 26) fg_X11_12_11 dX11_person_26 (li_0 hL) (lr_0_0 hL) ?_
          refine v_getV (pc := 29) fg_X11_56_9 dX11_person_29 (li_1 hL) hv.1.1 ?_
          refine v_bipush (pc := 32) (v := nI 6) dX11_person_32 (by decide) ?_
          refine v_icmp_ltN (pc := 34) (tgt := 40) ⟨by omega, by omega⟩ dX11_person_34 (by decide) (fun c34 => ?_) (fun c34 => ?_)
          · refine v_aload_n (pc := 40) dX11_person_40 rfl rfl ?_
            refine v_getH (pc := 41) fg_X11_12_11 dX11_person_41 (li_0 hL) (lr_0_0 hL) ?_
            refine v_iload_n (pc := 44) dX11_person_44 rfl rfl ?_
            refine v_aload_n (pc := 45) dX11_person_45 rfl rfl ?_
            refine v_getH (pc := 46) fg_X11_12_11 dX11_person_46 (li_0 hL) (lr_0_0 hL) ?_
            refine v_getV (pc := 49) fg_X11_56_9 dX11_person_49 (li_1 hL) hv.1.1 ?_
            refine v_iload_n (pc := 52) dX11_person_52 rfl rfl ?_
            refine v_cr (pc := 53) (v_rS (c_X11_newPerson G l (k := k) (i := b_n b) (w := v) (by omega) hK.2) rfl kS_X11_60 ⟨Nat.le_of_ble_eq_true rfl, Nat.le_of_ble_eq_true rfl⟩ ⟨Nat.le_of_ble_eq_true rfl, Nat.le_of_ble_eq_true rfl⟩ dX11_person_53 (Nat.le_of_ble_eq_true rfl)) (fun x53 M53 h53 => ?_)
            obtain ⟨rfl, rfl⟩ := h53
            have hv5 : CV (v_k K (p_ci k) 0) (w_p3 (v_z I K.1 0) K.1 k (b_n b) v) (v_z R K.1 none) 1 b hm p := CV_up hv (Or.inl rfl) hK.1 UPK_k (fun a z l => p3_o (by omega)) (fun a z l => v_z_h (by omega))
            have hL5 : Lay (v_k K (p_ci k) 0) (v_z R K.1 none) := Lay_up hL UPK_k (fun a z l => v_z_h (by omega))
            refine v_cv (pc := 56) (v_rV (c_X9_join G l hL5 (Or.inl rfl) (a := K.1) (ci := p_ci k) (n := b_n b) (hm := hm) (hv5.1.1) (by omega) hv5.1.2.1 v_is_new (p_cst k)) rfl kV_X11_64 (v_rcO (li_1 hL5) rfl (by decide)) ⟨Nat.le_of_ble_eq_true rfl, Nat.le_of_ble_eq_true rfl⟩ ⟨Nat.le_of_ble_eq_true rfl, Nat.le_of_ble_eq_true rfl⟩ dX11_person_56 (Nat.le_of_ble_eq_true rfl)) (fun M56 h56 => ?_)
            subst h56
            have hL6 : Lay (v_k K (p_ci k) 0) (v_u (v_z R K.1 none) (1 + 1) (b_n b) (some K.1)) := Lay_1 hL5 (Or.inl rfl)
            have hL := hL6
            refine v_aload_n (pc := 59) dX11_person_59 rfl rfl ?_
            refine v_getH (pc := 60) fg_X11_12_11 dX11_person_60 (li_0 hL) (lr_0_0 hL) ?_
            refine v_getV (pc := 63) fg_X11_56_9 dX11_person_63 (li_1 hL) (show _ = nI (b_n b + 1) from v_u_same) ?_
            refine v_iconst (pc := 66) (v := nI 1) dX11_person_66 (by decide) ?_
            refine v_isubN (pc := 67) (by omega) dX11_person_67 ?_
            exact v_iret (pc := 68) dX11_person_68 rfl rfl (Nat.le_of_ble_eq_true rfl) (Nat.le_of_ble_eq_true rfl) (by first | exact Or.inl ⟨e1, rfl, rfl⟩ | exact Or.inr (Or.inl ⟨⟨_, e1⟩, e3, rfl, rfl⟩) | exact Or.inr (Or.inr (Or.inl ⟨⟨_, e1⟩, ⟨_, e3⟩, by omega, rfl, rfl⟩)) | exact Or.inr (Or.inr (Or.inr ⟨k, v, hk, hv9, e1, e3, by omega, rfl, rfl⟩)))
          · refine v_bipush (pc := 37) (v := -4) dX11_person_37 (by decide) ?_
            exact v_iret (pc := 39) dX11_person_39 rfl rfl (Nat.le_of_ble_eq_true rfl) (Nat.le_of_ble_eq_true rfl) (by first | exact Or.inl ⟨e1, rfl, rfl⟩ | exact Or.inr (Or.inl ⟨⟨_, e1⟩, e3, rfl, rfl⟩) | exact Or.inr (Or.inr (Or.inl ⟨⟨_, e1⟩, ⟨_, e3⟩, by omega, rfl, rfl⟩)) | exact Or.inr (Or.inr (Or.inr ⟨k, v, hk, hv9, e1, e3, by omega, rfl, rfl⟩)))
        · have e3 : x_nat vv 10 = none := x_nat_n (fun z => c19 (x_n10.mpr z).2)
          refine v_bipush (pc := 22) (v := -2) dX11_person_22 (by decide) ?_
          exact v_iret (pc := 24) dX11_person_24 rfl rfl (Nat.le_of_ble_eq_true rfl) (Nat.le_of_ble_eq_true rfl) (by first | exact Or.inl ⟨e1, rfl, rfl⟩ | exact Or.inr (Or.inl ⟨⟨_, e1⟩, e3, rfl, rfl⟩) | exact Or.inr (Or.inr (Or.inl ⟨⟨_, e1⟩, ⟨_, e3⟩, by omega, rfl, rfl⟩)) | exact Or.inr (Or.inr (Or.inr ⟨k, v, hk, hv9, e1, e3, by omega, rfl, rfl⟩)))
    · have e1 : x_nat kk 7 = none := x_nat_n (fun z => c7 (x_n7.mpr z).2)
      refine v_iconst (pc := 10) (v := -1) dX11_person_10 (by decide) ?_
      exact v_iret (pc := 11) dX11_person_11 rfl rfl (Nat.le_of_ble_eq_true rfl) (Nat.le_of_ble_eq_true rfl) (by first | exact Or.inl ⟨e1, rfl, rfl⟩ | exact Or.inr (Or.inl ⟨⟨_, e1⟩, e3, rfl, rfl⟩) | exact Or.inr (Or.inr (Or.inl ⟨⟨_, e1⟩, ⟨_, e3⟩, by omega, rfl, rfl⟩)) | exact Or.inr (Or.inr (Or.inr ⟨k, v, hk, hv9, e1, e3, by omega, rfl, rfl⟩)))
abbrev rm_X11_friends : Room := { frames := 2, cells := 0, slots := 0, locals := 43 }
set_option maxRecDepth 20000 in
theorem c_X11_friends (G : v_G) (l : Launch) {K : Nat × v_TY} {I : Nat → Nat → Int32} {J : Nat → Nat → Int64} {R : Nat → Nat → Option Nat} (hL : Lay K R) {pp qq : Int32} {ar : Bool} {b : BS} {hm : Nat} (hC : CB0 I 1 b hm) (hB : VB b) : v_M G l yX11_friends cX11_friends 6 (some .int) rm_X11_friends [.ref 0, .int pp, .int qq, .int (v_p (ar = true))] (K, I, J, R) (v_Qi G (fun (x : Int32) (M' : v_MM) => (((x_nat pp (b_n b) = none ∨ x_nat qq (b_n b) = none) ∧ x = -1 ∧ M' = (K, I, J, R)) ∨ ((∃ a, x_nat pp (b_n b) = some a ∧ x_nat qq (b_n b) = some a) ∧ x = -2 ∧ M' = (K, I, J, R)) ∨ (∃ a c, a < b_n b ∧ c < b_n b ∧ a ≠ c ∧ x_nat pp (b_n b) = some a ∧ x_nat qq (b_n b) = some c ∧ x = nI (if (b_m b a).testBit c = true then 1 else 0) ∧ ∃ I', M' = (K, I', J, R) ∧ cK 1 I I' (if (b_m b a).testBit c = ar then b else b_flip b a c))))) := by
  refine v_of [some (.ref 0), some (.int pp), some (.int qq), some (.int (v_p (ar = true))), none, none] (by decide) (Nat.le_of_ble_eq_true rfl) (Nat.le_of_ble_eq_true rfl) rfl ?_
  have hn6 := hB.1
  refine v_aload_n (pc := 0) dX11_friends_0 rfl rfl ?_
  refine v_iload_n (pc := 1) dX11_friends_1 rfl rfl ?_
  refine v_iload_n (pc := 2) dX11_friends_2 rfl rfl ?_
  refine v_ci (pc := 3) (v_rV (c_X11_refusalOfTwo G l hL hC.1 (by omega)) rfl kV_X11_94 (v_rcO (li_0 hL) rfl (by decide)) ⟨Nat.le_of_ble_eq_true rfl, Nat.le_of_ble_eq_true rfl⟩ ⟨Nat.le_of_ble_eq_true rfl, Nat.le_of_ble_eq_true rfl⟩ dX11_friends_3 (Nat.le_of_ble_eq_true rfl)) (fun x3 M3 h3 => ?_)
  obtain ⟨rfl, rfl⟩ := h3
  rcases rf_cases (show b_n b < 2 ^ 31 by omega) pp qq with ⟨er, e1⟩ | ⟨er, a, ha, e1, e2⟩ | ⟨er, a, c, ha, hc, hac, rfl, rfl, e1, e2⟩
  all_goals rw [er]
  · refine v_istore (pc := 6) dX11_friends_6 (by decide) rfl ?_
    refine v_iload (pc := 8) dX11_friends_8 rfl ?_
    refine v_if_eq (pc := 10) (tgt := 16) dX11_friends_10 (by decide) (fun c10 => ?_) (fun c10 => ?_)
    · exact absurd c10 (by decide)
    · refine v_iload (pc := 13) dX11_friends_13 rfl ?_
      exact v_iret (pc := 15) dX11_friends_15 rfl rfl (Nat.le_of_ble_eq_true rfl) (Nat.le_of_ble_eq_true rfl) (Or.inl ⟨e1, rfl, rfl⟩)
  · refine v_istore (pc := 6) dX11_friends_6 (by decide) rfl ?_
    refine v_iload (pc := 8) dX11_friends_8 rfl ?_
    refine v_if_eq (pc := 10) (tgt := 16) dX11_friends_10 (by decide) (fun c10 => ?_) (fun c10 => ?_)
    · exact absurd c10 (by decide)
    · refine v_iload (pc := 13) dX11_friends_13 rfl ?_
      exact v_iret (pc := 15) dX11_friends_15 rfl rfl (Nat.le_of_ble_eq_true rfl) (Nat.le_of_ble_eq_true rfl) (Or.inr (Or.inl ⟨⟨a, e1, e2⟩, rfl, rfl⟩))
  · refine v_istore (pc := 6) dX11_friends_6 (by decide) rfl ?_
    refine v_iload (pc := 8) dX11_friends_8 rfl ?_
    refine v_if_eq (pc := 10) (tgt := 16) dX11_friends_10 (by decide) (fun c10 => ?_) (fun c10 => ?_)
    · refine v_aload_n (pc := 16) dX11_friends_16 rfl rfl ?_
      refine v_getH (pc := 17) fg_X11_12_11 dX11_friends_17 (li_0 hL) (lr_0_0 hL) ?_
      refine v_iload_n (pc := 20) dX11_friends_20 rfl rfl ?_
      refine v_iload_n (pc := 21) dX11_friends_21 rfl rfl ?_
      refine v_ci (pc := 22) (v_rV (c_X9_areTied G l hL (Or.inl rfl) (hC.2.2.2.1 a (by omega)) ⟨by omega, by omega⟩) rfl kV_X11_97 (v_rcO (li_1 hL) rfl (by decide)) ⟨Nat.le_of_ble_eq_true rfl, Nat.le_of_ble_eq_true rfl⟩ ⟨Nat.le_of_ble_eq_true rfl, Nat.le_of_ble_eq_true rfl⟩ dX11_friends_22 (Nat.le_of_ble_eq_true rfl)) (fun x22 M22 h22 => ?_)
      obtain ⟨rfl, rfl⟩ := h22
      refine v_ci (pc := 25) (v_rS (c_X11_asNumber G l (a := (b_m b a).testBit c)) rfl kS_X11_101 ⟨Nat.le_of_ble_eq_true rfl, Nat.le_of_ble_eq_true rfl⟩ ⟨Nat.le_of_ble_eq_true rfl, Nat.le_of_ble_eq_true rfl⟩ dX11_friends_25 (Nat.le_of_ble_eq_true rfl)) (fun x25 M25 h25 => ?_)
      obtain ⟨rfl, rfl⟩ := h25
      refine v_istore (pc := 28) dX11_friends_28 (by decide) rfl ?_
      refine v_aload_n (pc := 30) dX11_friends_30 rfl rfl ?_
      refine v_getH (pc := 31) fg_X11_12_11 dX11_friends_31 (li_0 hL) (lr_0_0 hL) ?_
      refine v_iload_n (pc := 34) dX11_friends_34 rfl rfl ?_
      refine v_iload_n (pc := 35) dX11_friends_35 rfl rfl ?_
      refine v_iload_n (pc := 36) dX11_friends_36 rfl rfl ?_
      refine v_cv (pc := 37) (v_rV (c_X9_tie G l hL (Or.inl rfl) (ar := ar) (km := b_m b) hC.2.2.2.1 (fun i => hB.2.2.2.2.1 i) ⟨by omega, by omega, hac⟩) rfl kV_X11_105 (v_rcO (li_1 hL) rfl (by decide)) ⟨Nat.le_of_ble_eq_true rfl, Nat.le_of_ble_eq_true rfl⟩ ⟨Nat.le_of_ble_eq_true rfl, Nat.le_of_ble_eq_true rfl⟩ dX11_friends_37 (Nat.le_of_ble_eq_true rfl)) (fun M37 h37 => ?_)
      subst h37
      refine v_iload (pc := 40) dX11_friends_40 rfl ?_
      exact v_iret (pc := 42) dX11_friends_42 rfl rfl (Nat.le_of_ble_eq_true rfl) (Nat.le_of_ble_eq_true rfl) (Or.inr (Or.inr ⟨a, c, ha, hc, hac, e1, e2, rfl, _, rfl, fun x z n => by rw [v_u_h n, v_u_h n], fun i hi => by
        have t1 := tie_if _ (hB.2.2.2.2.1 a) c (by omega) ar
        have t2 := tie_if _ (hB.2.2.2.2.1 c) a (by omega) ar
        rw [hB.2.2.2.2.2.2.1 c a] at t2
        by_cases e : (b_m b a).testBit c = ar
        · rw [if_pos e] at t1 t2 ⊢
          rw [t1, t2]
          by_cases c2 : i = c
          · rw [c2, v_u_same]
          · by_cases c1 : i = a
            · rw [c1, v_u_k (by omega), v_u_same]
            · rw [v_u_k c2, v_u_k c1]; exact hC.2.2.2.1 i hi
        · rw [if_neg e] at t1 t2 ⊢
          rw [t1, t2]
          show _ = nI (if i = a then b_m b a ^^^ 2 ^ c else if i = c then b_m b c ^^^ 2 ^ a else b_m b i)
          by_cases c1 : i = a
          · rw [if_pos c1, c1, v_u_k (by omega), v_u_same]
          · rw [if_neg c1]
            by_cases c2 : i = c
            · rw [if_pos c2, c2, v_u_same]
            · rw [if_neg c2, v_u_k c2, v_u_k c1]; exact hC.2.2.2.1 i hi⟩))
    · exact absurd rfl c10
abbrev rm_X11_year : Room := { frames := 0, cells := 0, slots := 0, locals := 0 }
set_option maxRecDepth 20000 in
theorem c_X11_year (G : v_G) (l : Launch) {K : Nat × v_TY} {I : Nat → Nat → Int32} {J : Nat → Nat → Int64} {R : Nat → Nat → Option Nat} (hL : Lay K R) {y : Nat} (h : I 1 2 = nI y) (hy : y ≤ 999) : v_M G l yX11_year cX11_year 1 (some .int) rm_X11_year [.ref 0] (K, I, J, R) (v_Qi G (fun (x : Int32) (M' : v_MM) => ((y = 999 ∧ x = -3 ∧ M' = (K, I, J, R)) ∨ (y < 999 ∧ x = nI (y + 1) ∧ M' = (K, v_u I 1 2 (nI (y + 1)), J, R))))) := by
  refine v_of [some (.ref 0)] (by decide) (Nat.le_of_ble_eq_true rfl) (Nat.le_of_ble_eq_true rfl) rfl ?_
  refine v_aload_n (pc := 0) dX11_year_0 rfl rfl ?_
  refine v_getH (pc := 1) fg_X11_12_11 dX11_year_1 (li_0 hL) (lr_0_0 hL) ?_
  refine v_getV (pc := 4) fg_X11_159_9 dX11_year_4 (li_1 hL) h ?_
  refine v_sipush (pc := 7) (v := nI 999) dX11_year_7 (by decide) ?_
  refine v_icmp_ltN (pc := 10) (tgt := 16) ⟨by omega, by omega⟩ dX11_year_10 (by decide) (fun c10 => ?_) (fun c10 => ?_)
  · refine v_aload_n (pc := 16) dX11_year_16 rfl rfl ?_
    refine v_getH (pc := 17) fg_X11_12_11 dX11_year_17 (li_0 hL) (lr_0_0 hL) ?_
    refine v_dup (pc := 20) dX11_year_20 rfl ?_
    refine v_getV (pc := 21) fg_X11_159_9 dX11_year_21 (li_1 hL) h ?_
    refine v_iconst (pc := 24) (v := nI 1) dX11_year_24 (by decide) ?_
    refine v_iaddN (pc := 25) dX11_year_25 ?_
    refine v_putI (pc := 26) pg_X11_159_9 (fun h => by cases h) dX11_year_26 (li_1 hL) rfl rfl ?_
    refine v_aload_n (pc := 29) dX11_year_29 rfl rfl ?_
    refine v_getH (pc := 30) fg_X11_12_11 dX11_year_30 (li_0 hL) (lr_0_0 hL) ?_
    refine v_getV (pc := 33) fg_X11_159_9 dX11_year_33 (li_1 hL) v_u_same ?_
    exact v_iret (pc := 36) dX11_year_36 rfl rfl (Nat.le_of_ble_eq_true rfl) (Nat.le_of_ble_eq_true rfl) (by first | exact Or.inl ⟨by omega, rfl, rfl⟩ | exact Or.inr ⟨by omega, rfl, rfl⟩)
  · refine v_bipush (pc := 13) (v := -3) dX11_year_13 (by decide) ?_
    exact v_iret (pc := 15) dX11_year_15 rfl rfl (Nat.le_of_ble_eq_true rfl) (Nat.le_of_ble_eq_true rfl) (by first | exact Or.inl ⟨by omega, rfl, rfl⟩ | exact Or.inr ⟨by omega, rfl, rfl⟩)
abbrev rm_X11_complain : Room := { frames := 1, cells := 0, slots := 0, locals := 21 }
set_option maxRecDepth 20000 in
theorem c_X11_complain (G : v_G) (l : Launch) {K : Nat × v_TY} {I : Nat → Nat → Int32} {J : Nat → Nat → Int64} {R : Nat → Nat → Option Nat} (hL : Lay K R) {pp dd : Int32} {n : Nat} {cm : Nat → Nat} (h : I 1 0 = nI n) (hn : n ≤ 6) (hc : ∀ i, i < 6 → I 5 i = nI (cm i)) : v_M G l yX11_complain cX11_complain 4 (some .int) rm_X11_complain [.ref 0, .int pp, .int dd] (K, I, J, R) (v_Qi G (fun (x : Int32) (M' : v_MM) => ((x_nat pp n = none ∧ x = -1 ∧ M' = (K, I, J, R)) ∨ ((∃ i, x_nat pp n = some i) ∧ x_nat dd 6 = none ∧ x = -2 ∧ M' = (K, I, J, R)) ∨ (∃ i d, i < n ∧ d < 6 ∧ x_nat pp n = some i ∧ x_nat dd 6 = some d ∧ x = nI (cm i) ∧ M' = (K, v_u I 5 i (nI d), J, R))))) := by
  refine v_of [some (.ref 0), some (.int pp), some (.int dd), none] (by decide) (Nat.le_of_ble_eq_true rfl) (Nat.le_of_ble_eq_true rfl) rfl ?_
  refine v_aload_n (pc := 0) dX11_complain_0 rfl rfl ?_
  refine v_getH (pc := 1) fg_X11_12_11 dX11_complain_1 (li_0 hL) (lr_0_0 hL) ?_
  refine v_iload_n (pc := 4) dX11_complain_4 rfl rfl ?_
  refine v_ci (pc := 5) (v_rV (c_X9_hasPerson G l hL (Or.inl rfl) h (by omega)) rfl kV_X11_201 (v_rcO (li_1 hL) rfl (by decide)) ⟨Nat.le_of_ble_eq_true rfl, Nat.le_of_ble_eq_true rfl⟩ ⟨Nat.le_of_ble_eq_true rfl, Nat.le_of_ble_eq_true rfl⟩ dX11_complain_5 (Nat.le_of_ble_eq_true rfl)) (fun x5 M5 h5 => ?_)
  obtain ⟨rfl, rfl⟩ := h5
  refine v_if_neP (pc := 8) (tgt := 13) dX11_complain_8 (by decide) (fun c8 => ?_) (fun c8 => ?_)
  · obtain ⟨i, hi, rfl, e1⟩ := x_nat_i c8 (by omega)
    refine v_iload_n (pc := 13) dX11_complain_13 rfl rfl ?_
    refine v_if_lt (pc := 14) (tgt := 22) dX11_complain_14 (by decide) (fun c14 => ?_) (fun c14 => ?_)
    · have e2 : x_nat dd 6 = none := x_nat_n (fun z => ((x_lim (n := 5) (by decide)).mpr z).1 c14)
      refine v_bipush (pc := 22) (v := -2) dX11_complain_22 (by decide) ?_
      exact v_iret (pc := 24) dX11_complain_24 rfl rfl (Nat.le_of_ble_eq_true rfl) (Nat.le_of_ble_eq_true rfl) (by first | exact Or.inl ⟨e1, rfl, rfl⟩ | exact Or.inr (Or.inl ⟨⟨_, e1⟩, e2, rfl, rfl⟩) | exact Or.inr (Or.inr ⟨i, d, hi, hd, e1, e2, rfl, rfl⟩))
    · refine v_iload_n (pc := 17) dX11_complain_17 rfl rfl ?_
      refine v_iconst (pc := 18) (v := nI 5) dX11_complain_18 (by decide) ?_
      refine v_icmp_le (pc := 19) (tgt := 25) dX11_complain_19 (by decide) (fun c19 => ?_) (fun c19 => ?_)
      · obtain ⟨d, hd, rfl, e2⟩ := x_nat_i ((x_lim (n := 5) (by decide)).mp ⟨c14, c19⟩) (by decide)
        refine v_aload_n (pc := 25) dX11_complain_25 rfl rfl ?_
        refine v_getH (pc := 26) fg_X11_12_11 dX11_complain_26 (li_0 hL) (lr_0_0 hL) ?_
        refine v_getH (pc := 29) fg_X11_91_9 dX11_complain_29 (li_1 hL) (lr_1_7 hL) ?_
        refine v_iload_n (pc := 32) dX11_complain_32 rfl rfl ?_
        refine v_ialoadN (pc := 33) dX11_complain_33 (li_5 hL) ⟨by omega, by omega⟩ (hc i (by omega)) ?_
        refine v_istore_n (pc := 34) dX11_complain_34 rfl (by decide) rfl ?_
        refine v_aload_n (pc := 35) dX11_complain_35 rfl rfl ?_
        refine v_getH (pc := 36) fg_X11_12_11 dX11_complain_36 (li_0 hL) (lr_0_0 hL) ?_
        refine v_getH (pc := 39) fg_X11_91_9 dX11_complain_39 (li_1 hL) (lr_1_7 hL) ?_
        refine v_iload_n (pc := 42) dX11_complain_42 rfl rfl ?_
        refine v_iload_n (pc := 43) dX11_complain_43 rfl rfl ?_
        refine v_iastoreN (pc := 44) dX11_complain_44 (li_5 hL) ⟨by omega, by omega⟩ ?_
        refine v_iload_n (pc := 45) dX11_complain_45 rfl rfl ?_
        exact v_iret (pc := 46) dX11_complain_46 rfl rfl (Nat.le_of_ble_eq_true rfl) (Nat.le_of_ble_eq_true rfl) (by first | exact Or.inl ⟨e1, rfl, rfl⟩ | exact Or.inr (Or.inl ⟨⟨_, e1⟩, e2, rfl, rfl⟩) | exact Or.inr (Or.inr ⟨i, d, hi, hd, e1, e2, rfl, rfl⟩))
      · have e2 : x_nat dd 6 = none := x_nat_n (fun z => c19 ((x_lim (n := 5) (by decide)).mpr z).2)
        refine v_bipush (pc := 22) (v := -2) dX11_complain_22 (by decide) ?_
        exact v_iret (pc := 24) dX11_complain_24 rfl rfl (Nat.le_of_ble_eq_true rfl) (Nat.le_of_ble_eq_true rfl) (by first | exact Or.inl ⟨e1, rfl, rfl⟩ | exact Or.inr (Or.inl ⟨⟨_, e1⟩, e2, rfl, rfl⟩) | exact Or.inr (Or.inr ⟨i, d, hi, hd, e1, e2, rfl, rfl⟩))
  · have e1 := x_nat_n c8
    refine v_iconst (pc := 11) (v := -1) dX11_complain_11 (by decide) ?_
    exact v_iret (pc := 12) dX11_complain_12 rfl rfl (Nat.le_of_ble_eq_true rfl) (Nat.le_of_ble_eq_true rfl) (by first | exact Or.inl ⟨e1, rfl, rfl⟩ | exact Or.inr (Or.inl ⟨⟨_, e1⟩, e2, rfl, rfl⟩) | exact Or.inr (Or.inr ⟨i, d, hi, hd, e1, e2, rfl, rfl⟩))
abbrev rm_X11_wish : Room := { frames := 2, cells := 0, slots := 0, locals := 41 }
set_option maxRecDepth 20000 in
theorem c_X11_wish (G : v_G) (l : Launch) {K : Nat × v_TY} {I : Nat → Nat → Int32} {J : Nat → Nat → Int64} {R : Nat → Nat → Option Nat} (hL : Lay K R) {pp : Int32} {ar : Bool} {n w : Nat} (h : I 1 0 = nI n) (hn : n ≤ 6) (hw : I 1 8 = nI w) (hw6 : w ≤ 6) : v_M G l yX11_wish cX11_wish 3 (some .int) rm_X11_wish [.ref 0, .int pp, .int (v_p (ar = true))] (K, I, J, R) (v_Qi G (fun (x : Int32) (M' : v_MM) => ((pp = -1 ∧ x = 0 ∧ M' = (K, v_u I 1 8 (nI 0), J, R)) ∨ (pp ≠ -1 ∧ x_nat pp (w_pr n) = none ∧ x = -1 ∧ M' = (K, I, J, R)) ∨ (pp ≠ -1 ∧ (∃ i, x_nat pp (w_pr n) = some i) ∧ w = 6 ∧ x = -4 ∧ M' = (K, I, J, R)) ∨ (∃ i, i < w_pr n ∧ pp ≠ -1 ∧ x_nat pp (w_pr n) = some i ∧ w < 6 ∧ x = nI (w + 1) ∧ M' = (K, v_u (v_u (v_u I 6 w (nI i)) 7 w (nI (if ar = true then 1 else 0))) 1 8 (nI (w + 1)), J, R))))) := by
  refine v_of [some (.ref 0), some (.int pp), some (.int (v_p (ar = true)))] (by decide) (Nat.le_of_ble_eq_true rfl) (Nat.le_of_ble_eq_true rfl) rfl ?_
  have h15 := pr15 hn
  refine v_iload_n (pc := 0) dX11_wish_0 rfl rfl ?_
  refine v_iconst (pc := 1) (v := -1) dX11_wish_1 (by decide) ?_
  refine v_icmp_ne (pc := 2) (tgt := 15) dX11_wish_2 (by decide) (fun c2 => ?_) (fun c2 => ?_)
  · refine v_aload_n (pc := 15) dX11_wish_15 rfl rfl ?_
    refine v_getH (pc := 16) fg_X11_12_11 dX11_wish_16 (li_0 hL) (lr_0_0 hL) ?_
    refine v_iload_n (pc := 19) dX11_wish_19 rfl rfl ?_
    refine v_ci (pc := 20) (v_rV (c_X9_hasPair G l hL (Or.inl rfl) h (by omega)) rfl kV_X11_117 (v_rcO (li_1 hL) rfl (by decide)) ⟨Nat.le_of_ble_eq_true rfl, Nat.le_of_ble_eq_true rfl⟩ ⟨Nat.le_of_ble_eq_true rfl, Nat.le_of_ble_eq_true rfl⟩ dX11_wish_20 (Nat.le_of_ble_eq_true rfl)) (fun x20 M20 h20 => ?_)
    obtain ⟨rfl, rfl⟩ := h20
    refine v_if_neP (pc := 23) (tgt := 28) dX11_wish_23 (by decide) (fun c23 => ?_) (fun c23 => ?_)
    · obtain ⟨i, hi, rfl, e1⟩ := x_nat_i c23 (by omega)
      refine v_aload_n (pc := 28) dX11_wish_28 rfl rfl ?_
      refine v_getH (pc := 29) fg_X11_12_11 dX11_wish_29 (li_0 hL) (lr_0_0 hL) ?_
      refine v_getV (pc := 32) fg_X11_225_9 dX11_wish_32 (li_1 hL) hw ?_
      refine v_bipush (pc := 35) (v := nI 6) dX11_wish_35 (by decide) ?_
      refine v_icmp_ltN (pc := 37) (tgt := 43) ⟨by omega, by omega⟩ dX11_wish_37 (by decide) (fun c37 => ?_) (fun c37 => ?_)
      · refine v_aload_n (pc := 43) dX11_wish_43 rfl rfl ?_
        refine v_getH (pc := 44) fg_X11_12_11 dX11_wish_44 (li_0 hL) (lr_0_0 hL) ?_
        refine v_getH (pc := 47) fg_X11_228_9 dX11_wish_47 (li_1 hL) (lr_1_9 hL) ?_
        refine v_aload_n (pc := 50) dX11_wish_50 rfl rfl ?_
        refine v_getH (pc := 51) fg_X11_12_11 dX11_wish_51 (li_0 hL) (lr_0_0 hL) ?_
        refine v_getV (pc := 54) fg_X11_225_9 dX11_wish_54 (li_1 hL) hw ?_
        refine v_iload_n (pc := 57) dX11_wish_57 rfl rfl ?_
        refine v_iastoreN (pc := 58) dX11_wish_58 (li_6 hL) ⟨by omega, by omega⟩ ?_
        refine v_aload_n (pc := 59) dX11_wish_59 rfl rfl ?_
        refine v_getH (pc := 60) fg_X11_12_11 dX11_wish_60 (li_0 hL) (lr_0_0 hL) ?_
        refine v_getH (pc := 63) fg_X11_231_9 dX11_wish_63 (li_1 hL) (lr_1_10 hL) ?_
        refine v_aload_n (pc := 66) dX11_wish_66 rfl rfl ?_
        refine v_getH (pc := 67) fg_X11_12_11 dX11_wish_67 (li_0 hL) (lr_0_0 hL) ?_
        refine v_getV (pc := 70) fg_X11_225_9 dX11_wish_70 (li_1 hL) ((v_u_h (by decide)).trans hw) ?_
        refine v_iload_n (pc := 73) dX11_wish_73 rfl rfl ?_
        refine v_ci (pc := 74) (v_rS (c_X11_asNumber G l (a := ar)) rfl kS_X11_101 ⟨Nat.le_of_ble_eq_true rfl, Nat.le_of_ble_eq_true rfl⟩ ⟨Nat.le_of_ble_eq_true rfl, Nat.le_of_ble_eq_true rfl⟩ dX11_wish_74 (Nat.le_of_ble_eq_true rfl)) (fun x74 M74 h74 => ?_)
        obtain ⟨rfl, rfl⟩ := h74
        refine v_iastoreN (pc := 77) dX11_wish_77 (li_7 hL) ⟨by omega, by omega⟩ ?_
        refine v_aload_n (pc := 78) dX11_wish_78 rfl rfl ?_
        refine v_getH (pc := 79) fg_X11_12_11 dX11_wish_79 (li_0 hL) (lr_0_0 hL) ?_
        refine v_dup (pc := 82) dX11_wish_82 rfl ?_
        refine v_getV (pc := 83) fg_X11_225_9 dX11_wish_83 (li_1 hL) ((v_u_h (by decide)).trans ((v_u_h (by decide)).trans hw)) ?_
        refine v_iconst (pc := 86) (v := nI 1) dX11_wish_86 (by decide) ?_
        refine v_iaddN (pc := 87) dX11_wish_87 ?_
        refine v_putI (pc := 88) pg_X11_225_9 (fun h => by cases h) dX11_wish_88 (li_1 hL) rfl rfl ?_
        refine v_aload_n (pc := 91) dX11_wish_91 rfl rfl ?_
        refine v_getH (pc := 92) fg_X11_12_11 dX11_wish_92 (li_0 hL) (lr_0_0 hL) ?_
        refine v_getV (pc := 95) fg_X11_225_9 dX11_wish_95 (li_1 hL) v_u_same ?_
        exact v_iret (pc := 98) dX11_wish_98 rfl rfl (Nat.le_of_ble_eq_true rfl) (Nat.le_of_ble_eq_true rfl) (by first | exact Or.inl ⟨c2, rfl, rfl⟩ | exact Or.inr (Or.inl ⟨c2, e1, rfl, rfl⟩) | exact Or.inr (Or.inr (Or.inl ⟨c2, ⟨_, e1⟩, by omega, rfl, rfl⟩)) | exact Or.inr (Or.inr (Or.inr ⟨i, hi, c2, e1, by omega, rfl, rfl⟩)))
      · refine v_bipush (pc := 40) (v := -4) dX11_wish_40 (by decide) ?_
        exact v_iret (pc := 42) dX11_wish_42 rfl rfl (Nat.le_of_ble_eq_true rfl) (Nat.le_of_ble_eq_true rfl) (by first | exact Or.inl ⟨c2, rfl, rfl⟩ | exact Or.inr (Or.inl ⟨c2, e1, rfl, rfl⟩) | exact Or.inr (Or.inr (Or.inl ⟨c2, ⟨_, e1⟩, by omega, rfl, rfl⟩)) | exact Or.inr (Or.inr (Or.inr ⟨i, hi, c2, e1, by omega, rfl, rfl⟩)))
    · have e1 := x_nat_n c23
      refine v_iconst (pc := 26) (v := -1) dX11_wish_26 (by decide) ?_
      exact v_iret (pc := 27) dX11_wish_27 rfl rfl (Nat.le_of_ble_eq_true rfl) (Nat.le_of_ble_eq_true rfl) (by first | exact Or.inl ⟨c2, rfl, rfl⟩ | exact Or.inr (Or.inl ⟨c2, e1, rfl, rfl⟩) | exact Or.inr (Or.inr (Or.inl ⟨c2, ⟨_, e1⟩, by omega, rfl, rfl⟩)) | exact Or.inr (Or.inr (Or.inr ⟨i, hi, c2, e1, by omega, rfl, rfl⟩)))
  · refine v_aload_n (pc := 5) dX11_wish_5 rfl rfl ?_
    refine v_getH (pc := 6) fg_X11_12_11 dX11_wish_6 (li_0 hL) (lr_0_0 hL) ?_
    refine v_iconst (pc := 9) (v := nI 0) dX11_wish_9 (by decide) ?_
    refine v_putI (pc := 10) pg_X11_225_9 (fun h => by cases h) dX11_wish_10 (li_1 hL) rfl rfl ?_
    refine v_iconst (pc := 13) (v := nI 0) dX11_wish_13 (by decide) ?_
    exact v_iret (pc := 14) dX11_wish_14 rfl rfl (Nat.le_of_ble_eq_true rfl) (Nat.le_of_ble_eq_true rfl) (by first | exact Or.inl ⟨c2, rfl, rfl⟩ | exact Or.inr (Or.inl ⟨c2, e1, rfl, rfl⟩) | exact Or.inr (Or.inr (Or.inl ⟨c2, ⟨_, e1⟩, by omega, rfl, rfl⟩)) | exact Or.inr (Or.inr (Or.inr ⟨i, hi, c2, e1, by omega, rfl, rfl⟩)))
abbrev rm_X11_book : Room := { frames := 2, cells := 0, slots := 0, locals := 41 }
set_option maxRecDepth 20000 in
theorem c_X11_book (G : v_G) (l : Launch) {K : Nat × v_TY} {I : Nat → Nat → Int32} {J : Nat → Nat → Int64} {R : Nat → Nat → Option Nat} (hL : Lay K R) {pp dd : Int32} {n w : Nat} (h : I 1 0 = nI n) (hn : n ≤ 6) (hw : I 1 11 = nI w) (hw6 : w ≤ 12) : v_M G l yX11_book cX11_book 3 (some .int) rm_X11_book [.ref 0, .int pp, .int dd] (K, I, J, R) (v_Qi G (fun (x : Int32) (M' : v_MM) => ((pp = -1 ∧ x = 0 ∧ M' = (K, v_u I 1 11 (nI 0), J, R)) ∨ (pp ≠ -1 ∧ x_nat pp (w_pr n) = none ∧ x = -1 ∧ M' = (K, I, J, R)) ∨ (pp ≠ -1 ∧ (∃ i, x_nat pp (w_pr n) = some i) ∧ x_nat dd 100 = none ∧ x = -2 ∧ M' = (K, I, J, R)) ∨ (pp ≠ -1 ∧ (∃ i, x_nat pp (w_pr n) = some i) ∧ (∃ d, x_nat dd 100 = some d) ∧ w = 12 ∧ x = -4 ∧ M' = (K, I, J, R)) ∨ (∃ i d, i < w_pr n ∧ d < 100 ∧ pp ≠ -1 ∧ x_nat pp (w_pr n) = some i ∧ x_nat dd 100 = some d ∧ w < 12 ∧ x = nI (w + 1) ∧ M' = (K, v_u (v_u (v_u I 8 w (nI i)) 9 w (nI d)) 1 11 (nI (w + 1)), J, R))))) := by
  refine v_of [some (.ref 0), some (.int pp), some (.int dd)] (by decide) (Nat.le_of_ble_eq_true rfl) (Nat.le_of_ble_eq_true rfl) rfl ?_
  have h15 := pr15 hn
  refine v_iload_n (pc := 0) dX11_book_0 rfl rfl ?_
  refine v_iconst (pc := 1) (v := -1) dX11_book_1 (by decide) ?_
  refine v_icmp_ne (pc := 2) (tgt := 15) dX11_book_2 (by decide) (fun c2 => ?_) (fun c2 => ?_)
  · refine v_aload_n (pc := 15) dX11_book_15 rfl rfl ?_
    refine v_getH (pc := 16) fg_X11_12_11 dX11_book_16 (li_0 hL) (lr_0_0 hL) ?_
    refine v_iload_n (pc := 19) dX11_book_19 rfl rfl ?_
    refine v_ci (pc := 20) (v_rV (c_X9_hasPair G l hL (Or.inl rfl) h (by omega)) rfl kV_X11_117 (v_rcO (li_1 hL) rfl (by decide)) ⟨Nat.le_of_ble_eq_true rfl, Nat.le_of_ble_eq_true rfl⟩ ⟨Nat.le_of_ble_eq_true rfl, Nat.le_of_ble_eq_true rfl⟩ dX11_book_20 (Nat.le_of_ble_eq_true rfl)) (fun x20 M20 h20 => ?_)
    obtain ⟨rfl, rfl⟩ := h20
    refine v_if_neP (pc := 23) (tgt := 28) dX11_book_23 (by decide) (fun c23 => ?_) (fun c23 => ?_)
    · obtain ⟨i, hi, rfl, e1⟩ := x_nat_i c23 (by omega)
      refine v_iload_n (pc := 28) dX11_book_28 rfl rfl ?_
      refine v_if_lt (pc := 29) (tgt := 38) dX11_book_29 (by decide) (fun c29 => ?_) (fun c29 => ?_)
      · have e2 : x_nat dd 100 = none := x_nat_n (fun z => ((x_lim (n := 99) (by decide)).mpr z).1 c29)
        refine v_bipush (pc := 38) (v := -2) dX11_book_38 (by decide) ?_
        exact v_iret (pc := 40) dX11_book_40 rfl rfl (Nat.le_of_ble_eq_true rfl) (Nat.le_of_ble_eq_true rfl) (by first | exact Or.inl ⟨c2, rfl, rfl⟩ | exact Or.inr (Or.inl ⟨c2, e1, rfl, rfl⟩) | exact Or.inr (Or.inr (Or.inl ⟨c2, ⟨_, e1⟩, e2, rfl, rfl⟩)) | exact Or.inr (Or.inr (Or.inr (Or.inl ⟨c2, ⟨_, e1⟩, ⟨_, e2⟩, by omega, rfl, rfl⟩))) | exact Or.inr (Or.inr (Or.inr (Or.inr ⟨i, d, hi, hd, c2, e1, e2, by omega, rfl, rfl⟩))))
      · refine v_iload_n (pc := 32) dX11_book_32 rfl rfl ?_
        refine v_bipush (pc := 33) (v := nI 99) dX11_book_33 (by decide) ?_
        refine v_icmp_le (pc := 35) (tgt := 41) dX11_book_35 (by decide) (fun c35 => ?_) (fun c35 => ?_)
        · obtain ⟨d, hd, rfl, e2⟩ := x_nat_i ((x_lim (n := 99) (by decide)).mp ⟨c29, c35⟩) (by decide)
          refine v_aload_n (pc := 41) dX11_book_41 rfl rfl ?_
          refine v_getH (pc := 42) fg_X11_12_11 dX11_book_42 (li_0 hL) (lr_0_0 hL) ?_
          refine v_getV (pc := 45) fg_X11_234_9 dX11_book_45 (li_1 hL) hw ?_
          refine v_bipush (pc := 48) (v := nI 12) dX11_book_48 (by decide) ?_
          refine v_icmp_ltN (pc := 50) (tgt := 56) ⟨by omega, by omega⟩ dX11_book_50 (by decide) (fun c50 => ?_) (fun c50 => ?_)
          · refine v_aload_n (pc := 56) dX11_book_56 rfl rfl ?_
            refine v_getH (pc := 57) fg_X11_12_11 dX11_book_57 (li_0 hL) (lr_0_0 hL) ?_
            refine v_getH (pc := 60) fg_X11_237_9 dX11_book_60 (li_1 hL) (lr_1_12 hL) ?_
            refine v_aload_n (pc := 63) dX11_book_63 rfl rfl ?_
            refine v_getH (pc := 64) fg_X11_12_11 dX11_book_64 (li_0 hL) (lr_0_0 hL) ?_
            refine v_getV (pc := 67) fg_X11_234_9 dX11_book_67 (li_1 hL) hw ?_
            refine v_iload_n (pc := 70) dX11_book_70 rfl rfl ?_
            refine v_iastoreN (pc := 71) dX11_book_71 (li_8 hL) ⟨by omega, by omega⟩ ?_
            refine v_aload_n (pc := 72) dX11_book_72 rfl rfl ?_
            refine v_getH (pc := 73) fg_X11_12_11 dX11_book_73 (li_0 hL) (lr_0_0 hL) ?_
            refine v_getH (pc := 76) fg_X11_240_9 dX11_book_76 (li_1 hL) (lr_1_13 hL) ?_
            refine v_aload_n (pc := 79) dX11_book_79 rfl rfl ?_
            refine v_getH (pc := 80) fg_X11_12_11 dX11_book_80 (li_0 hL) (lr_0_0 hL) ?_
            refine v_getV (pc := 83) fg_X11_234_9 dX11_book_83 (li_1 hL) ((v_u_h (by decide)).trans hw) ?_
            refine v_iload_n (pc := 86) dX11_book_86 rfl rfl ?_
            refine v_iastoreN (pc := 87) dX11_book_87 (li_9 hL) ⟨by omega, by omega⟩ ?_
            refine v_aload_n (pc := 88) dX11_book_88 rfl rfl ?_
            refine v_getH (pc := 89) fg_X11_12_11 dX11_book_89 (li_0 hL) (lr_0_0 hL) ?_
            refine v_dup (pc := 92) dX11_book_92 rfl ?_
            refine v_getV (pc := 93) fg_X11_234_9 dX11_book_93 (li_1 hL) ((v_u_h (by decide)).trans ((v_u_h (by decide)).trans hw)) ?_
            refine v_iconst (pc := 96) (v := nI 1) dX11_book_96 (by decide) ?_
            refine v_iaddN (pc := 97) dX11_book_97 ?_
            refine v_putI (pc := 98) pg_X11_234_9 (fun h => by cases h) dX11_book_98 (li_1 hL) rfl rfl ?_
            refine v_aload_n (pc := 101) dX11_book_101 rfl rfl ?_
            refine v_getH (pc := 102) fg_X11_12_11 dX11_book_102 (li_0 hL) (lr_0_0 hL) ?_
            refine v_getV (pc := 105) fg_X11_234_9 dX11_book_105 (li_1 hL) v_u_same ?_
            exact v_iret (pc := 108) dX11_book_108 rfl rfl (Nat.le_of_ble_eq_true rfl) (Nat.le_of_ble_eq_true rfl) (by first | exact Or.inl ⟨c2, rfl, rfl⟩ | exact Or.inr (Or.inl ⟨c2, e1, rfl, rfl⟩) | exact Or.inr (Or.inr (Or.inl ⟨c2, ⟨_, e1⟩, e2, rfl, rfl⟩)) | exact Or.inr (Or.inr (Or.inr (Or.inl ⟨c2, ⟨_, e1⟩, ⟨_, e2⟩, by omega, rfl, rfl⟩))) | exact Or.inr (Or.inr (Or.inr (Or.inr ⟨i, d, hi, hd, c2, e1, e2, by omega, rfl, rfl⟩))))
          · refine v_bipush (pc := 53) (v := -4) dX11_book_53 (by decide) ?_
            exact v_iret (pc := 55) dX11_book_55 rfl rfl (Nat.le_of_ble_eq_true rfl) (Nat.le_of_ble_eq_true rfl) (by first | exact Or.inl ⟨c2, rfl, rfl⟩ | exact Or.inr (Or.inl ⟨c2, e1, rfl, rfl⟩) | exact Or.inr (Or.inr (Or.inl ⟨c2, ⟨_, e1⟩, e2, rfl, rfl⟩)) | exact Or.inr (Or.inr (Or.inr (Or.inl ⟨c2, ⟨_, e1⟩, ⟨_, e2⟩, by omega, rfl, rfl⟩))) | exact Or.inr (Or.inr (Or.inr (Or.inr ⟨i, d, hi, hd, c2, e1, e2, by omega, rfl, rfl⟩))))
        · have e2 : x_nat dd 100 = none := x_nat_n (fun z => c35 ((x_lim (n := 99) (by decide)).mpr z).2)
          refine v_bipush (pc := 38) (v := -2) dX11_book_38 (by decide) ?_
          exact v_iret (pc := 40) dX11_book_40 rfl rfl (Nat.le_of_ble_eq_true rfl) (Nat.le_of_ble_eq_true rfl) (by first | exact Or.inl ⟨c2, rfl, rfl⟩ | exact Or.inr (Or.inl ⟨c2, e1, rfl, rfl⟩) | exact Or.inr (Or.inr (Or.inl ⟨c2, ⟨_, e1⟩, e2, rfl, rfl⟩)) | exact Or.inr (Or.inr (Or.inr (Or.inl ⟨c2, ⟨_, e1⟩, ⟨_, e2⟩, by omega, rfl, rfl⟩))) | exact Or.inr (Or.inr (Or.inr (Or.inr ⟨i, d, hi, hd, c2, e1, e2, by omega, rfl, rfl⟩))))
    · have e1 := x_nat_n c23
      refine v_iconst (pc := 26) (v := -1) dX11_book_26 (by decide) ?_
      exact v_iret (pc := 27) dX11_book_27 rfl rfl (Nat.le_of_ble_eq_true rfl) (Nat.le_of_ble_eq_true rfl) (by first | exact Or.inl ⟨c2, rfl, rfl⟩ | exact Or.inr (Or.inl ⟨c2, e1, rfl, rfl⟩) | exact Or.inr (Or.inr (Or.inl ⟨c2, ⟨_, e1⟩, e2, rfl, rfl⟩)) | exact Or.inr (Or.inr (Or.inr (Or.inl ⟨c2, ⟨_, e1⟩, ⟨_, e2⟩, by omega, rfl, rfl⟩))) | exact Or.inr (Or.inr (Or.inr (Or.inr ⟨i, d, hi, hd, c2, e1, e2, by omega, rfl, rfl⟩))))
  · refine v_aload_n (pc := 5) dX11_book_5 rfl rfl ?_
    refine v_getH (pc := 6) fg_X11_12_11 dX11_book_6 (li_0 hL) (lr_0_0 hL) ?_
    refine v_iconst (pc := 9) (v := nI 0) dX11_book_9 (by decide) ?_
    refine v_putI (pc := 10) pg_X11_234_9 (fun h => by cases h) dX11_book_10 (li_1 hL) rfl rfl ?_
    refine v_iconst (pc := 13) (v := nI 0) dX11_book_13 (by decide) ?_
    exact v_iret (pc := 14) dX11_book_14 rfl rfl (Nat.le_of_ble_eq_true rfl) (Nat.le_of_ble_eq_true rfl) (by first | exact Or.inl ⟨c2, rfl, rfl⟩ | exact Or.inr (Or.inl ⟨c2, e1, rfl, rfl⟩) | exact Or.inr (Or.inr (Or.inl ⟨c2, ⟨_, e1⟩, e2, rfl, rfl⟩)) | exact Or.inr (Or.inr (Or.inr (Or.inl ⟨c2, ⟨_, e1⟩, ⟨_, e2⟩, by omega, rfl, rfl⟩))) | exact Or.inr (Or.inr (Or.inr (Or.inr ⟨i, d, hi, hd, c2, e1, e2, by omega, rfl, rfl⟩))))
abbrev rm_X11_trace : Room := { frames := 0, cells := 0, slots := 0, locals := 0 }
set_option maxRecDepth 20000 in
theorem c_X11_trace (G : v_G) (l : Launch) {K : Nat × v_TY} {I : Nat → Nat → Int32} {J : Nat → Nat → Int64} {R : Nat → Nat → Option Nat} (hL : Lay K R) {ii : Int32} {t : List Nat} (h1 : I 39 1 = nI t.length) (hl : t.length ≤ 20) (h2 : ∀ (j x : Nat), t[j]? = some x → I 40 j = nI x) : v_M G l yX11_trace cX11_trace 2 (some .int) rm_X11_trace [.ref 0, .int ii] (K, I, J, R) (v_Qi G (fun (x : Int32) (M' : v_MM) => x = s_trace t ii ∧ M' = (K, I, J, R))) := by
  refine v_of [some (.ref 0), some (.int ii)] (by decide) (Nat.le_of_ble_eq_true rfl) (Nat.le_of_ble_eq_true rfl) rfl ?_
  refine v_iload_n (pc := 0) dX11_trace_0 rfl rfl ?_
  refine v_if_lt (pc := 1) (tgt := 21) dX11_trace_1 (by decide) (fun c1 => ?_) (fun c1 => ?_)
  · have e2 : x_nat ii (min 20 t.length) = none := x_nat_n (fun z => by have := vp_in_iff.mp z; have e := Int32.lt_iff_toInt_lt.mp c1; have e0 : (0 : Int32).toInt = 0 := rfl; omega)
    refine v_iconst (pc := 21) (v := -1) dX11_trace_21 (by decide) ?_
    exact v_iret (pc := 22) dX11_trace_22 rfl rfl (Nat.le_of_ble_eq_true rfl) (Nat.le_of_ble_eq_true rfl) ⟨by first | (simp only [s_trace, e2, e4]; done) | (simp only [s_trace, e2]; done), rfl⟩
  · refine v_iload_n (pc := 4) dX11_trace_4 rfl rfl ?_
    refine v_aload_n (pc := 5) dX11_trace_5 rfl rfl ?_
    refine v_getH (pc := 6) fg_X11_44_11 dX11_trace_6 (li_0 hL) (lr_0_9 hL) ?_
    refine v_getV (pc := 9) fg_X11_263_8 dX11_trace_9 (li_39 hL) h1 ?_
    refine v_icmp_ge (pc := 12) (tgt := 21) dX11_trace_12 (by decide) (fun c12 => ?_) (fun c12 => ?_)
    · have e2 : x_nat ii (min 20 t.length) = none := x_nat_n (fun z => by have := vp_in_iff.mp z; have e := Int32.le_iff_toInt_le.mp c12; rw [nI_toInt (by omega)] at e; omega)
      refine v_iconst (pc := 21) (v := -1) dX11_trace_21 (by decide) ?_
      exact v_iret (pc := 22) dX11_trace_22 rfl rfl (Nat.le_of_ble_eq_true rfl) (Nat.le_of_ble_eq_true rfl) ⟨by first | (simp only [s_trace, e2, e4]; done) | (simp only [s_trace, e2]; done), rfl⟩
    · refine v_iload_n (pc := 15) dX11_trace_15 rfl rfl ?_
      refine v_bipush (pc := 16) (v := nI 20) dX11_trace_16 (by decide) ?_
      refine v_icmp_lt (pc := 18) (tgt := 23) dX11_trace_18 (by decide) (fun c18 => ?_) (fun c18 => ?_)
      · obtain ⟨j, hj, rfl, e2⟩ := x_nat_i (p := ii) (n := min 20 t.length) (vp_in_iff.mpr (by have a1 := Int.not_lt.mp (fun z => c1 (Int32.lt_iff_toInt_lt.mpr z)); have a2 := Int.not_le.mp (fun z => c12 (Int32.le_iff_toInt_le.mpr z)); have e0 : (0 : Int32).toInt = 0 := rfl; rw [nI_toInt (by omega)] at a2; have a3 := Int32.lt_iff_toInt_lt.mp c18; rw [nI_toInt (by omega)] at a3; omega)) (by omega)
        obtain ⟨q, hqi⟩ : ∃ q, t[j]? = some q := ⟨_, List.getElem?_eq_getElem (show j < t.length by omega)⟩
        have e4 : t.getD j 0 = q := by rw [List.getD_eq_getElem?_getD, hqi]; rfl
        refine v_aload_n (pc := 23) dX11_trace_23 rfl rfl ?_
        refine v_getH (pc := 24) fg_X11_44_11 dX11_trace_24 (li_0 hL) (lr_0_9 hL) ?_
        refine v_getH (pc := 27) fg_X11_276_8 dX11_trace_27 (li_39 hL) (lr_39_0 hL) ?_
        refine v_iload_n (pc := 30) dX11_trace_30 rfl rfl ?_
        refine v_ialoadN (pc := 31) dX11_trace_31 (li_40 hL) ⟨by omega, by omega⟩ (h2 j q hqi) ?_
        exact v_iret (pc := 32) dX11_trace_32 rfl rfl (Nat.le_of_ble_eq_true rfl) (Nat.le_of_ble_eq_true rfl) ⟨by first | (simp only [s_trace, e2, e4]; done) | (simp only [s_trace, e2]; done), rfl⟩
      · have e2 : x_nat ii (min 20 t.length) = none := x_nat_n (fun z => by have := vp_in_iff.mp z; have e := Int.not_lt.mp (fun z => c18 (Int32.lt_iff_toInt_lt.mpr z)); rw [nI_toInt (by omega)] at e; omega)
        refine v_iconst (pc := 21) (v := -1) dX11_trace_21 (by decide) ?_
        exact v_iret (pc := 22) dX11_trace_22 rfl rfl (Nat.le_of_ble_eq_true rfl) (Nat.le_of_ble_eq_true rfl) ⟨by first | (simp only [s_trace, e2, e4]; done) | (simp only [s_trace, e2]; done), rfl⟩
abbrev rm_X11_count : Room := { frames := 0, cells := 0, slots := 0, locals := 0 }
set_option maxRecDepth 20000 in
theorem c_X11_count (G : v_G) (l : Launch) {K : Nat × v_TY} {I : Nat → Nat → Int32} {J : Nat → Nat → Int64} {R : Nat → Nat → Option Nat} (hL : Lay K R) {ww : Int32} {n t w k f r : Nat} (h0 : I 1 0 = nI n) (h1 : I 0 5 = nI t) (h2 : I 1 8 = nI w) (h3 : I 1 11 = nI k) (h4 : I 0 7 = nI f) (h5 : I 39 1 = nI r) : v_M G l yX11_count cX11_count 2 (some .int) rm_X11_count [.ref 0, .int ww] (K, I, J, R) (v_Qi G (fun (x : Int32) (M' : v_MM) => x = s_count n t w k f r ww ∧ M' = (K, I, J, R))) := by
  refine v_of [some (.ref 0), some (.int ww)] (by decide) (Nat.le_of_ble_eq_true rfl) (Nat.le_of_ble_eq_true rfl) rfl ?_
  refine v_iload_n (pc := 0) dX11_count_0 rfl rfl ?_
  rcases x_sw6 ww with rfl | rfl | rfl | rfl | rfl | rfl | ⟨e2, e3⟩
  · have e2 : x_nat (nI 0) 6 = some 0 := rfl
    refine v_tableIn (pc := 1) (tgt := 40) dX11_count_1 (by decide) (by decide) rfl (by decide) ?_
    refine v_aload_n (pc := 40) dX11_count_40 rfl rfl ?_
    refine v_getH (pc := 41) fg_X11_12_11 dX11_count_41 (li_0 hL) (lr_0_0 hL) ?_
    refine v_getV (pc := 44) fg_X11_56_9 dX11_count_44 (li_1 hL) h0 ?_
    exact v_iret (pc := 47) dX11_count_47 rfl rfl (Nat.le_of_ble_eq_true rfl) (Nat.le_of_ble_eq_true rfl) ⟨by simp only [s_count, e2], rfl⟩
  · have e2 : x_nat (nI 1) 6 = some 1 := rfl
    refine v_tableIn (pc := 1) (tgt := 48) dX11_count_1 (by decide) (by decide) rfl (by decide) ?_
    refine v_aload_n (pc := 48) dX11_count_48 rfl rfl ?_
    refine v_getV (pc := 49) fg_X11_146_11 dX11_count_49 (li_0 hL) h1 ?_
    exact v_iret (pc := 52) dX11_count_52 rfl rfl (Nat.le_of_ble_eq_true rfl) (Nat.le_of_ble_eq_true rfl) ⟨by simp only [s_count, e2], rfl⟩
  · have e2 : x_nat (nI 2) 6 = some 2 := rfl
    refine v_tableIn (pc := 1) (tgt := 53) dX11_count_1 (by decide) (by decide) rfl (by decide) ?_
    refine v_aload_n (pc := 53) dX11_count_53 rfl rfl ?_
    refine v_getH (pc := 54) fg_X11_12_11 dX11_count_54 (li_0 hL) (lr_0_0 hL) ?_
    refine v_getV (pc := 57) fg_X11_225_9 dX11_count_57 (li_1 hL) h2 ?_
    exact v_iret (pc := 60) dX11_count_60 rfl rfl (Nat.le_of_ble_eq_true rfl) (Nat.le_of_ble_eq_true rfl) ⟨by simp only [s_count, e2], rfl⟩
  · have e2 : x_nat (nI 3) 6 = some 3 := rfl
    refine v_tableIn (pc := 1) (tgt := 61) dX11_count_1 (by decide) (by decide) rfl (by decide) ?_
    refine v_aload_n (pc := 61) dX11_count_61 rfl rfl ?_
    refine v_getH (pc := 62) fg_X11_12_11 dX11_count_62 (li_0 hL) (lr_0_0 hL) ?_
    refine v_getV (pc := 65) fg_X11_234_9 dX11_count_65 (li_1 hL) h3 ?_
    exact v_iret (pc := 68) dX11_count_68 rfl rfl (Nat.le_of_ble_eq_true rfl) (Nat.le_of_ble_eq_true rfl) ⟨by simp only [s_count, e2], rfl⟩
  · have e2 : x_nat (nI 4) 6 = some 4 := rfl
    refine v_tableIn (pc := 1) (tgt := 69) dX11_count_1 (by decide) (by decide) rfl (by decide) ?_
    refine v_aload_n (pc := 69) dX11_count_69 rfl rfl ?_
    refine v_getV (pc := 70) fg_X11_143_11 dX11_count_70 (li_0 hL) h4 ?_
    exact v_iret (pc := 73) dX11_count_73 rfl rfl (Nat.le_of_ble_eq_true rfl) (Nat.le_of_ble_eq_true rfl) ⟨by simp only [s_count, e2], rfl⟩
  · have e2 : x_nat (nI 5) 6 = some 5 := rfl
    refine v_tableIn (pc := 1) (tgt := 74) dX11_count_1 (by decide) (by decide) rfl (by decide) ?_
    refine v_aload_n (pc := 74) dX11_count_74 rfl rfl ?_
    refine v_getH (pc := 75) fg_X11_44_11 dX11_count_75 (li_0 hL) (lr_0_9 hL) ?_
    refine v_getV (pc := 78) fg_X11_263_8 dX11_count_78 (li_39 hL) h5 ?_
    exact v_iret (pc := 81) dX11_count_81 rfl rfl (Nat.le_of_ble_eq_true rfl) (Nat.le_of_ble_eq_true rfl) ⟨by simp only [s_count, e2], rfl⟩
  · refine v_tableOut (pc := 1) (tgt := 82) dX11_count_1 e3 (by decide) ?_
    refine v_bipush (pc := 82) (v := -2) dX11_count_82 (by decide) ?_
    exact v_iret (pc := 84) dX11_count_84 rfl rfl (Nat.le_of_ble_eq_true rfl) (Nat.le_of_ble_eq_true rfl) ⟨by simp only [s_count, e2], rfl⟩
