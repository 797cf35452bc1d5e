def NB (K : Nat × v_TY) (I : Nat → Nat → Int32) (J : Nat → Nat → Int64) (R : Nat → Nat → Option Nat) (K' : Nat × v_TY) (I' : Nat → Nat → Int32) (J' : Nat → Nat → Int64) (R' : Nat → Nat → Option Nat) : Prop := Lay K' R' ∧ UPK K K' ∧ K'.1 ≤ K.1 + 1 ∧ (∀ a z, a < K.1 → ¬ m_cr a → I' a z = I a z) ∧ (∀ a z, a < K.1 → a ≠ 21 → a ≠ 22 → R' a z = R a z) ∧ ∀ a z, a < K.1 → J' a z = J a z
theorem NB_rf {K : Nat × v_TY} {I : Nat → Nat → Int32} {J : Nat → Nat → Int64} {R : Nat → Nat → Option Nat} (hL : Lay K R) : NB K I J R K I J R := ⟨hL, UPK_rf, Nat.le_succ _, fun _ _ _ _ => rfl, fun _ _ _ _ _ => rfl, fun _ _ _ => rfl⟩
theorem NB_R {K K' : Nat × v_TY} {I I' I'' : Nat → Nat → Int32} {J J' : Nat → Nat → Int64} {R R' : Nat → Nat → Option Nat} (h : NB K I J R K' I' J' R') (j : cR I' I'') : NB K I J R K' I'' J' R' := ⟨h.1, h.2.1, h.2.2.1, fun a z l n => (j a z n).trans (h.2.2.2.1 a z l n), h.2.2.2.2⟩
theorem BFm {K : Nat × v_TY} {I I1 : Nat → Nat → Int32} {J : Nat → Nat → Int64} {R R1 : Nat → Nat → Option Nat} {b : BS} {hm k v : Nat} {p : CLS} (hL : Lay K R1) (hv : CV K I1 R1 21 b hm p) (j : cR I I1) (j2 : cRR R R1) (hK : 91 ≤ K.1) (hf : HF b hm) (hn : b_n b < 6) (hk : k ≤ 6) (hvv : v ≤ 9) (hz : ∀ j, 4 * b_n b ≤ j → b_r b j = 0) :
    ∃ K5 I5 J5 R5, ((v_k K (p_ci k) 0, w_cj (w_p3 (v_z I1 K.1 0) K.1 k (b_n b) v) 21 (b_n b) hm, v_z J K.1 0, v_u (v_z R1 K.1 none) (21 + 1) (b_n b) (some K.1)) : v_MM) = (K5, I5, J5, R5) ∧ CV K5 I5 R5 21 (b_jn b k v 0) (hm ||| 2 ^ b_n b) p ∧ NB K I J R K5 I5 J5 R5 := by
  have u : UPK K (v_k K (p_ci k) 0) := UPK_k
  have h1 : CV (v_k K (p_ci k) 0) (w_p3 (v_z I1 K.1 0) K.1 k (b_n b) v) (v_z R1 K.1 none) 21 b hm p := CV_up hv (Or.inr (Or.inr rfl)) hK u (fun a z l => p3_o (by omega)) (fun a z l => v_z_h (by omega))
  have hL1 : Lay (v_k K (p_ci k) 0) (v_z R1 K.1 none) := Lay_up hL u (fun a z l => v_z_h (by omega))
  refine ⟨_, _, _, _, rfl, CV_join h1 (Or.inr (Or.inr rfl)) hf hn hk hvv hz (PS_np hK), Lay_1 hL1 (Or.inr (Or.inr rfl)), u, Nat.le_refl _, fun a z l n => ?_, fun a z l n1 n2 => ?_, fun a z l => v_z_h (by omega)⟩
  · have e : w_cj (w_p3 (v_z I1 K.1 0) K.1 k (b_n b) v) 21 (b_n b) hm a z = w_p3 (v_z I1 K.1 0) K.1 k (b_n b) v a z := by
      have n' : ¬ (21 ≤ a ∧ a ≤ 30) := fun q => n (Or.inr (Or.inl q))
      unfold w_cj
      rw [v_u_h (by omega), v_u_h (by omega), if_neg (by omega), v_u_h (by omega), v_u_h (by omega)]
    rw [e, p3_o (by omega)]
    exact j a z n
  · rw [v_u_h (by omega), v_z_h (by omega)]
    exact j2 a z n1 n2
theorem x_n7 {z : Int32} : (¬ z < 0 ∧ z ≤ nI 6) ↔ vp_in z 7 := by
  rw [vp_in_iff, Int32.lt_iff_toInt_lt, Int32.le_iff_toInt_le, nI_toInt (by omega)]
  have e : (0 : Int32).toInt = 0 := rfl
  rw [e]; omega
theorem x_n10 {z : Int32} : (¬ z < 0 ∧ z ≤ nI 9) ↔ vp_in z 10 := by
  rw [vp_in_iff, Int32.lt_iff_toInt_lt, Int32.le_iff_toInt_le, nI_toInt (by omega)]
  have e : (0 : Int32).toInt = 0 := rfl
  rw [e]; omega
abbrev rm_X11_befriends : Room := { frames := 13, cells := 1, slots := 3, locals := 612 }
set_option maxRecDepth 20000 in
theorem c_X11_befriends (G : v_G) (l : Launch) {K : Nat × v_TY} {I : Nat → Nat → Int32} {J : Nat → Nat → Int64} {R : Nat → Nat → Option Nat} (hL : Lay K R) {kk vv ww : Int32} {b : BS} {hm : Nat} {p : CLS} (hv : CV K I R 1 b hm p) (hf : HF b hm) (hA : CPA K R 1) (hz : ∀ j, 4 * b_n b ≤ j → b_r b j = 0) (hK : 91 ≤ K.1 ∧ K.1 < 900000) : v_M G l yX11_befriends cX11_befriends 9 (some .int) rm_X11_befriends [.ref 0, .int kk, .int vv, .int ww] (K, I, J, R) (v_Qi G (fun (x : Int32) (M' : v_MM) => x = s_befr b p kk vv ww ∧ ∃ K' I' J' R', M' = (K', I', J', R') ∧ NB K I J R K' I' J' R')) := by
  refine v_of [some (.ref 0), some (.int kk), some (.int vv), some (.int ww), none, none, none, none, none] (by decide) (Nat.le_of_ble_eq_true rfl) (Nat.le_of_ble_eq_true rfl) rfl ?_
  have hB := hv.2.1
  have hn6 := hB.1
  have h15 := pr15 hn6
  have he := ve_now (p := p) hB hf
  refine v_iload_n (pc := 0) dX11_befriends_0 rfl rfl ?_
  refine v_if_lt (pc := 1) (tgt := 19) dX11_befriends_1 (by decide) (fun c1 => ?_) (fun c1 => ?_)
  · have e1 : x_nat kk 7 = none := x_nat_n (fun z => (x_n7.mpr z).1 c1)
    refine v_iconst (pc := 19) (v := -1) dX11_befriends_19 (by decide) ?_
    exact v_iret (pc := 20) dX11_befriends_20 rfl rfl (Nat.le_of_ble_eq_true rfl) (Nat.le_of_ble_eq_true rfl) ⟨by first | (simp only [s_befr, e1]; done) | (simp only [s_befr, e1, e2]; done) | (simp only [s_befr, e1, e2, e3]; done) | (simp only [s_befr, e1, e2, e3]; rw [if_pos (by omega)]), K, I, J, R, rfl, NB_rf hL⟩
  · refine v_iload_n (pc := 4) dX11_befriends_4 rfl rfl ?_
    refine v_bipush (pc := 5) (v := nI 6) dX11_befriends_5 (by decide) ?_
    refine v_icmp_gt (pc := 7) (tgt := 19) dX11_befriends_7 (by decide) (fun c7 => ?_) (fun c7 => ?_)
    · have e1 : x_nat kk 7 = none := x_nat_n (fun z => absurd (x_n7.mpr z).2 (Int32.not_le.mpr c7))
      refine v_iconst (pc := 19) (v := -1) dX11_befriends_19 (by decide) ?_
      exact v_iret (pc := 20) dX11_befriends_20 rfl rfl (Nat.le_of_ble_eq_true rfl) (Nat.le_of_ble_eq_true rfl) ⟨by first | (simp only [s_befr, e1]; done) | (simp only [s_befr, e1, e2]; done) | (simp only [s_befr, e1, e2, e3]; done) | (simp only [s_befr, e1, e2, e3]; rw [if_pos (by omega)]), K, I, J, R, rfl, NB_rf hL⟩
    · obtain ⟨k, hk, rfl, e1⟩ := x_nat_i (x_n7.mp ⟨c1, Int32.not_lt.mp c7⟩) (by decide)
      refine v_iload_n (pc := 10) dX11_befriends_10 rfl rfl ?_
      refine v_if_lt (pc := 11) (tgt := 19) dX11_befriends_11 (by decide) (fun c11 => ?_) (fun c11 => ?_)
      · have e2 := x_n2 (Or.inl c11)
        refine v_iconst (pc := 19) (v := -1) dX11_befriends_19 (by decide) ?_
        exact v_iret (pc := 20) dX11_befriends_20 rfl rfl (Nat.le_of_ble_eq_true rfl) (Nat.le_of_ble_eq_true rfl) ⟨by first | (simp only [s_befr, e1]; done) | (simp only [s_befr, e1, e2]; done) | (simp only [s_befr, e1, e2, e3]; done) | (simp only [s_befr, e1, e2, e3]; rw [if_pos (by omega)]), K, I, J, R, rfl, NB_rf hL⟩
      · refine v_iload_n (pc := 14) dX11_befriends_14 rfl rfl ?_
        refine v_iconst (pc := 15) (v := nI 1) dX11_befriends_15 (by decide) ?_
        refine v_icmp_le (pc := 16) (tgt := 21) dX11_befriends_16 (by decide) (fun c16 => ?_) (fun c16 => ?_)
        · have hw2 := x_hw c11 c16
          have e2 : ∃ w, x_nat ww 2 = some w := by rcases hw2 with rfl | rfl <;> exact ⟨_, rfl⟩
          obtain ⟨w2, e2⟩ := e2
          refine v_iload_n (pc := 21) dX11_befriends_21 rfl rfl ?_
          refine v_if_lt (pc := 22) (tgt := 31) dX11_befriends_22 (by decide) (fun c22 => ?_) (fun c22 => ?_)
          · have e3 : x_nat vv 10 = none := x_nat_n (fun z => (x_n10.mpr z).1 c22)
            refine v_bipush (pc := 31) (v := -2) dX11_befriends_31 (by decide) ?_
            exact v_iret (pc := 33) dX11_befriends_33 rfl rfl (Nat.le_of_ble_eq_true rfl) (Nat.le_of_ble_eq_true rfl) ⟨by first | (simp only [s_befr, e1]; done) | (simp only [s_befr, e1, e2]; done) | (simp only [s_befr, e1, e2, e3]; done) | (simp only [s_befr, e1, e2, e3]; rw [if_pos (by omega)]), K, I, J, R, rfl, NB_rf hL⟩
          · refine v_iload_n (pc := 25) dX11_befriends_25 rfl rfl ?_
            refine v_bipush (pc := 26) (v := nI 9) dX11_befriends_26 (by decide) ?_
            refine v_icmp_le (pc := 28) (tgt := 34) dX11_befriends_28 (by decide) (fun c28 => ?_) (fun c28 => ?_)
            · obtain ⟨v, hv9, rfl, e3⟩ := x_nat_i (x_n10.mp ⟨c22, c28⟩) (by decide)
              refine v_aload_n (pc := 34) dX11_befriends_34 rfl rfl ?_
              refine v_getH (pc := 35) fg_X11_12_11 dX11_befriends_35 (li_0 hL) (lr_0_0 hL) ?_
              refine v_getV (pc := 38) fg_X11_56_9 dX11_befriends_38 (li_1 hL) hv.1.1 ?_
              refine v_istore (pc := 41) dX11_befriends_41 (by decide) rfl ?_
              refine v_iload (pc := 43) dX11_befriends_43 rfl ?_
              refine v_bipush (pc := 45) (v := nI 6) dX11_befriends_45 (by decide) ?_
              refine v_icmp_ltN (pc := 47) (tgt := 53) ⟨by omega, by omega⟩ dX11_befriends_47 (by decide) (fun c47 => ?_) (fun c47 => ?_)
              · refine v_aload_n (pc := 53) dX11_befriends_53 rfl rfl ?_
                refine v_getH (pc := 54) fg_X11_21_11 dX11_befriends_54 (li_0 hL) (lr_0_2 hL) ?_
                refine v_aload_n (pc := 57) dX11_befriends_57 rfl rfl ?_
                refine v_getH (pc := 58) fg_X11_12_11 dX11_befriends_58 (li_0 hL) (lr_0_0 hL) ?_
                refine v_cv (pc := 61) (v_rV (c_X9_become G l hL (Or.inr (Or.inr rfl)) (Or.inl rfl) (by decide) hA) rfl kV_X11_177 (v_rcO (li_21 hL) rfl (by decide)) ⟨Nat.le_of_ble_eq_true rfl, Nat.le_of_ble_eq_true rfl⟩ ⟨Nat.le_of_ble_eq_true rfl, Nat.le_of_ble_eq_true rfl⟩ dX11_befriends_61 (Nat.le_of_ble_eq_true rfl)) (fun M61 h61 => ?_)
                subst h61
                have hBE := BE_of (I := I) (R := R) (h := 21) (g := 1) (Or.inr (Or.inr rfl)) (Or.inl rfl) (by decide)
                have hLb := Lay_be (g := 1) hL (Or.inr (Or.inr rfl))
                have hvb := CV_BE hv hBE (Or.inr (Or.inr rfl))
                obtain ⟨jb, jb2⟩ := cR_BE hBE
                generalize beA I 21 1 = I1 at hBE hvb jb ⊢
                generalize beR R 21 1 = R1 at hBE hvb jb2 hLb ⊢
                have hL := hLb
                refine v_aload_n (pc := 64) dX11_befriends_64 rfl rfl ?_
                refine v_getH (pc := 65) fg_X11_21_11 dX11_befriends_65 (li_0 hL) (lr_0_2 hL) ?_
                refine v_iload_n (pc := 68) dX11_befriends_68 rfl rfl ?_
                refine v_iload (pc := 69) dX11_befriends_69 rfl ?_
                refine v_iload_n (pc := 71) dX11_befriends_71 rfl rfl ?_
                refine v_cr (pc := 72) (v_rS (c_X11_newPerson G l (k := k) (i := b_n b) (w := v) (by omega) hK.2) rfl kS_X11_60 ⟨Nat.le_of_ble_eq_true rfl, Nat.le_of_ble_eq_true rfl⟩ ⟨Nat.le_of_ble_eq_true rfl, Nat.le_of_ble_eq_true rfl⟩ dX11_befriends_72 (Nat.le_of_ble_eq_true rfl)) (fun x72 M72 h72 => ?_)
                obtain ⟨rfl, rfl⟩ := h72
                have hv72 : CV (v_k K (p_ci k) 0) (w_p3 (v_z I1 K.1 0) K.1 k (b_n b) v) (v_z R1 K.1 none) 21 b hm p := CV_up hvb (Or.inr (Or.inr rfl)) hK.1 UPK_k (fun a z l => p3_o (by omega)) (fun a z l => v_z_h (by omega))
                have hL72 : Lay (v_k K (p_ci k) 0) (v_z R1 K.1 none) := Lay_up hLb UPK_k (fun a z l => v_z_h (by omega))
                refine v_cv (pc := 75) (v_rV (c_X9_join G l hL72 (Or.inr (Or.inr rfl)) (a := K.1) (ci := p_ci k) (n := b_n b) (hm := hm) (hv72.1.1) (by omega) hv72.1.2.1 v_is_new (p_cst k)) rfl kV_X11_64 (v_rcO (li_21 hL72) rfl (by decide)) ⟨Nat.le_of_ble_eq_true rfl, Nat.le_of_ble_eq_true rfl⟩ ⟨Nat.le_of_ble_eq_true rfl, Nat.le_of_ble_eq_true rfl⟩ dX11_befriends_75 (Nat.le_of_ble_eq_true rfl)) (fun M75 h75 => ?_)
                obtain ⟨K5, I5, J5, R5, em, hv5, hnb⟩ := BFm (J := J) (k := k) (v := v) hLb hvb jb jb2 hK.1 hf (show b_n b < 6 by omega) (by omega) (by omega) hz
                have h75b := h75.trans em
                subst h75b
                have hL5 := hnb.1
                have hL := hL5
                have hBj := VB_jn hB (k := k) (v := v) (q := 0) (show b_n b < 6 by omega) (by omega) (by omega) (Nat.two_pow_pos _)
                refine v_iconst (pc := 78) (v := nI 0) dX11_befriends_78 (by decide) ?_
                refine v_istore (pc := 79) dX11_befriends_79 (by decide) rfl ?_
                refine v_aload_n (pc := 81) dX11_befriends_81 rfl rfl ?_
                refine v_getH (pc := 82) fg_X11_21_11 dX11_befriends_82 (li_0 hL) (lr_0_2 hL) ?_
                refine v_ci (pc := 85) (v_rV (c_X9_howManyAmiss G l hL5 (Or.inr (Or.inr rfl)) hv5) rfl kV_X11_168 (v_rcO (li_21 hL) rfl (by decide)) ⟨Nat.le_of_ble_eq_true rfl, Nat.le_of_ble_eq_true rfl⟩ ⟨Nat.le_of_ble_eq_true rfl, Nat.le_of_ble_eq_true rfl⟩ dX11_befriends_85 (Nat.le_of_ble_eq_true rfl)) (fun x85 M85 h85 => ?_)
                obtain ⟨rfl, I6, rfl, f6⟩ := h85
                have hv6 := CV_F hv5 (Or.inr (Or.inr rfl)) f6
                have hnb6 := NB_R hnb (cR_F2 f6)
                rw [ve_many (ve_now hBj (HF_jn hf (by omega)))]
                refine v_istore (pc := 88) dX11_befriends_88 (by decide) rfl ?_
                refine v_iconst (pc := 90) (v := nI 1) dX11_befriends_90 (by decide) ?_
                refine v_istore (pc := 91) dX11_befriends_91 (by decide) rfl ?_
                have h32 : 2 ^ b_n b ≤ 32 := Nat.le_trans (Nat.pow_le_pow_right (by decide) (show b_n b ≤ 5 by omega)) (by decide)
                have hp0 : 0 < 2 ^ b_n b := Nat.two_pow_pos _
                have key : ∀ i, i ≤ 2 ^ b_n b → 1 ≤ i → ∀ (Ii : Nat → Nat → Int32) (z8 : Option Value) (q : Nat), q < 2 ^ b_n b → NB K I J R K5 Ii J5 R5 → CV K5 Ii R5 21 (b_jn b k v q) (hm ||| 2 ^ b_n b) p → v_V G l yX11_befriends cX11_befriends 9 (some .int) rm_X11_befriends (v_Qi G (fun (x : Int32) (M' : v_MM) => x = s_befr b p (nI k) (nI v) ww ∧ ∃ K' I' J' R', M' = (K', I', J', R') ∧ NB K I J R K' I' J' R')) 1 3 93 [some (.ref 0), some (.int (nI k)), some (.int (nI v)), some (.int ww), some (.int (nI (b_n b))), some (.int (nI ((w_fst (w_bq b p k v) (some 0, 99) i).1.getD 0))), some (.int (nI (w_fst (w_bq b p k v) (some 0, 99) i).2)), some (.int (nI i)), z8] [] (K5, Ii, J5, R5) := by
                  refine v_down (2 ^ b_n b) (fun i hi ih => ?_)
                  intro hi1 Ii z8 q hq hI hvi
                  refine v_iload (pc := 93) dX11_befriends_93 rfl ?_
                  refine v_iconst (pc := 95) (v := nI 1) dX11_befriends_95 (by decide) ?_
                  refine v_iload (pc := 96) dX11_befriends_96 rfl ?_
                  refine v_ishl (pc := 98) dX11_befriends_98 ?_
                  refine v_top (v_shl1 _ (by omega)) ?_
                  refine v_icmp_geN (pc := 99) (tgt := 166) ⟨by omega, by omega⟩ dX11_befriends_99 (by decide) (fun c99 => ?_) (fun c99 => ?_)
                  · have e : i = 2 ^ b_n b := by omega
                    subst e
                    have hs := w_fst_s (w_bq b p k v) (some 0, 99) rfl (2 ^ b_n b)
                    have e5 : s_befr b p (nI k) (nI v) ww = s_best (w_fst (w_bq b p k v) (some 0, 99) (2 ^ b_n b)) ww := by simp only [s_befr, e1, e2, e3]; exact if_neg (by omega)
                    rw [e5]
                    generalize w_fst (w_bq b p k v) (some 0, 99) (2 ^ b_n b) = z at hs ⊢
                    obtain ⟨o, z⟩ := z
                    obtain ⟨k2, rfl⟩ := Option.isSome_iff_exists.mp hs
                    rcases hw2 with rfl | rfl
                    · refine v_iload_n (pc := 166) dX11_befriends_166 rfl rfl ?_
                      refine v_if_neN (pc := 167) (tgt := 175) (by omega) dX11_befriends_167 (by decide) (fun c167 => ?_) (fun c167 => ?_)
                      · refine v_iload (pc := 175) dX11_befriends_175 rfl ?_
                        exact v_iret (pc := 177) dX11_befriends_177 rfl rfl (Nat.le_of_ble_eq_true rfl) (Nat.le_of_ble_eq_true rfl) ⟨by first | omega | rfl, K5, Ii, J5, R5, rfl, hI⟩
                      · refine v_iload (pc := 170) dX11_befriends_170 rfl ?_
                        refine v_goto (pc := 172) (tgt := 177) dX11_befriends_172 (by decide) ?_
                        exact v_iret (pc := 177) dX11_befriends_177 rfl rfl (Nat.le_of_ble_eq_true rfl) (Nat.le_of_ble_eq_true rfl) ⟨by first | omega | rfl, K5, Ii, J5, R5, rfl, hI⟩
                    · refine v_iload_n (pc := 166) dX11_befriends_166 rfl rfl ?_
                      refine v_if_neN (pc := 167) (tgt := 175) (by omega) dX11_befriends_167 (by decide) (fun c167 => ?_) (fun c167 => ?_)
                      · refine v_iload (pc := 175) dX11_befriends_175 rfl ?_
                        exact v_iret (pc := 177) dX11_befriends_177 rfl rfl (Nat.le_of_ble_eq_true rfl) (Nat.le_of_ble_eq_true rfl) ⟨by first | omega | rfl, K5, Ii, J5, R5, rfl, hI⟩
                      · refine v_iload (pc := 170) dX11_befriends_170 rfl ?_
                        refine v_goto (pc := 172) (tgt := 177) dX11_befriends_172 (by decide) ?_
                        exact v_iret (pc := 177) dX11_befriends_177 rfl rfl (Nat.le_of_ble_eq_true rfl) (Nat.le_of_ble_eq_true rfl) ⟨by first | omega | rfl, K5, Ii, J5, R5, rfl, hI⟩
                  · refine v_iconst (pc := 102) (v := nI 0) dX11_befriends_102 (by decide) ?_
                    refine v_istore (pc := 103) dX11_befriends_103 (by decide) rfl ?_
                    have inr : ∀ o, o ≤ b_n b → ∀ (Iq : Nat → Nat → Int32) (q : Nat), q < 2 ^ b_n b → (∀ j, j < o → q.testBit j = i.testBit j) → NB K I J R K5 Iq J5 R5 → CV K5 Iq R5 21 (b_jn b k v q) (hm ||| 2 ^ b_n b) p → v_V G l yX11_befriends cX11_befriends 9 (some .int) rm_X11_befriends (v_Qi G (fun (x : Int32) (M' : v_MM) => x = s_befr b p (nI k) (nI v) ww ∧ ∃ K' I' J' R', M' = (K', I', J', R') ∧ NB K I J R K' I' J' R')) 1 3 105 [some (.ref 0), some (.int (nI k)), some (.int (nI v)), some (.int ww), some (.int (nI (b_n b))), some (.int (nI ((w_fst (w_bq b p k v) (some 0, 99) i).1.getD 0))), some (.int (nI (w_fst (w_bq b p k v) (some 0, 99) i).2)), some (.int (nI i)), some (.int (nI o))] [] (K5, Iq, J5, R5) := by
                      refine v_down (b_n b) (fun o ho ih2 => ?_)
                      intro Iq q hq hqi hIq hvq
                      refine v_iload (pc := 105) dX11_befriends_105 rfl ?_
                      refine v_iload (pc := 107) dX11_befriends_107 rfl ?_
                      refine v_icmp_geN (pc := 109) (tgt := 136) ⟨by omega, by omega⟩ dX11_befriends_109 (by decide) (fun c109 => ?_) (fun c109 => ?_)
                      · have eo : o = b_n b := by omega
                        subst eo
                        have eq := w_meq hq (show i < 2 ^ b_n b by omega) hqi
                        subst eq
                        refine v_aload_n (pc := 136) dX11_befriends_136 rfl rfl ?_
                        refine v_getH (pc := 137) fg_X11_21_11 dX11_befriends_137 (li_0 hL) (lr_0_2 hL) ?_
                        refine v_ci (pc := 140) (v_rV (c_X9_howManyAmiss G l hL5 (Or.inr (Or.inr rfl)) hvq) rfl kV_X11_168 (v_rcO (li_21 hL) rfl (by decide)) ⟨Nat.le_of_ble_eq_true rfl, Nat.le_of_ble_eq_true rfl⟩ ⟨Nat.le_of_ble_eq_true rfl, Nat.le_of_ble_eq_true rfl⟩ dX11_befriends_140 (Nat.le_of_ble_eq_true rfl)) (fun x140 M140 h140 => ?_)
                        obtain ⟨rfl, I3, rfl, f3⟩ := h140
                        have hv3 := CV_F hvq (Or.inr (Or.inr rfl)) f3
                        have hBq := hvq.2.1
                        rw [ve_many (ve_now hBq (HF_jn hf (by omega)))]
                        have hmt := w_many_lt hBq 9 p
                        have hlt := w_fst_lt (w_bq b p k v) (some 0, 99) 100 (by decide) q (fun j hj => by have := w_many_lt (VB_jn hB (k := k) (v := v) (by omega) (by omega) (by omega) (show j < 2 ^ b_n b by omega)) 9 p; show w_many _ < 100; omega)
                        have ee : w_fst (w_bq b p k v) (some 0, 99) (q + 1) = if w_many (vw (b_jn b k v q) 9 p) < (w_fst (w_bq b p k v) (some 0, 99) q).2 then (some q, w_many (vw (b_jn b k v q) 9 p)) else (w_fst (w_bq b p k v) (some 0, 99) q) := rfl
                        have goon := fun z => ih (q + 1) (by omega) (by omega) (by omega) I3 z q hq (NB_R hIq (cR_F2 f3)) hv3
                        rw [ee] at goon
                        refine v_istore (pc := 143) dX11_befriends_143 (by decide) rfl ?_
                        refine v_iload (pc := 145) dX11_befriends_145 rfl ?_
                        refine v_iload (pc := 147) dX11_befriends_147 rfl ?_
                        refine v_icmp_geN (pc := 149) (tgt := 160) ⟨by omega, by omega⟩ dX11_befriends_149 (by decide) (fun c149 => ?_) (fun c149 => ?_)
                        · refine v_iincN (pc := 160) (b := 1) dX11_befriends_160 rfl (by decide) (by decide) rfl ?_
                          refine v_goto (pc := 163) (tgt := 93) dX11_befriends_163 (by decide) ?_
                          first
                            | (rw [if_pos (show w_many (vw (b_jn b k v q) 9 p) < (w_fst (w_bq b p k v) (some 0, 99) q).2 by omega)] at goon; exact goon _)
                            | (rw [if_neg (show ¬ w_many (vw (b_jn b k v q) 9 p) < (w_fst (w_bq b p k v) (some 0, 99) q).2 by omega)] at goon; exact goon _)
                        · refine v_iload (pc := 152) dX11_befriends_152 rfl ?_
                          refine v_istore (pc := 154) dX11_befriends_154 (by decide) rfl ?_
                          refine v_iload (pc := 156) dX11_befriends_156 rfl ?_
                          refine v_istore (pc := 158) dX11_befriends_158 (by decide) rfl ?_
                          refine v_iincN (pc := 160) (b := 1) dX11_befriends_160 rfl (by decide) (by decide) rfl ?_
                          refine v_goto (pc := 163) (tgt := 93) dX11_befriends_163 (by decide) ?_
                          first
                            | (rw [if_pos (show w_many (vw (b_jn b k v q) 9 p) < (w_fst (w_bq b p k v) (some 0, 99) q).2 by omega)] at goon; exact goon _)
                            | (rw [if_neg (show ¬ w_many (vw (b_jn b k v q) 9 p) < (w_fst (w_bq b p k v) (some 0, 99) q).2 by omega)] at goon; exact goon _)
                      · refine v_aload_n (pc := 112) dX11_befriends_112 rfl rfl ?_
                        refine v_getH (pc := 113) fg_X11_21_11 dX11_befriends_113 (li_0 hL) (lr_0_2 hL) ?_
                        refine v_iload (pc := 116) dX11_befriends_116 rfl ?_
                        refine v_iload (pc := 118) dX11_befriends_118 rfl ?_
                        refine v_iload (pc := 120) dX11_befriends_120 rfl ?_
                        refine v_iload (pc := 122) dX11_befriends_122 rfl ?_
                        refine v_ci (pc := 124) (v_rS (c_X11_hasBit G l (by omega)) rfl kS_X11_198 ⟨Nat.le_of_ble_eq_true rfl, Nat.le_of_ble_eq_true rfl⟩ ⟨Nat.le_of_ble_eq_true rfl, Nat.le_of_ble_eq_true rfl⟩ dX11_befriends_124 (Nat.le_of_ble_eq_true rfl)) (fun x124 M124 h124 => ?_)
                        obtain ⟨rfl, rfl⟩ := h124
                        refine v_top (show v_p (bt (nI i) o = true) = v_p (i.testBit o = true) by rw [w_bt (by omega)]) ?_
                        refine v_cv (pc := 127) (v_rV (c_X9_tie G l hL5 (Or.inr (Or.inr rfl)) (ar := i.testBit o) (km := b_m (b_jn b k v q)) hvq.1.2.2.2.1 (fun i => hvq.2.1.2.2.2.2.1 i) ⟨by omega, by omega, by omega⟩) rfl kV_X11_105 (v_rcO (li_21 hL) rfl (by decide)) ⟨Nat.le_of_ble_eq_true rfl, Nat.le_of_ble_eq_true rfl⟩ ⟨Nat.le_of_ble_eq_true rfl, Nat.le_of_ble_eq_true rfl⟩ dX11_befriends_127 (Nat.le_of_ble_eq_true rfl)) (fun M127 h127 => ?_)
                        subst h127
                        obtain ⟨t1, t2, t3, t4, t5⟩ := jn_tie hB (k := k) (v := v) (q := q) (i := o) (ar := i.testBit o) (show b_n b < 6 by omega) hq (by omega) (by omega) (by omega)
                        have hcK : cK 21 Iq (v_u (v_u Iq (21 + 2) o (nI (s_tie (i.testBit o) (b_m (b_jn b k v q) o) (b_n b)))) (21 + 2) (b_n b) (nI (s_tie (i.testBit o) (b_m (b_jn b k v q) (b_n b)) o))) (b_jn b k v (s_tie (i.testBit o) q o)) := ⟨fun a z n => by rw [v_u_h n, v_u_h n], fun j hj => by
                          by_cases c2 : j = b_n b
                          · rw [c2, v_u_same, t3]
                          · by_cases c1 : j = o
                            · rw [c1, v_u_k (by omega), v_u_same, t4]
                            · rw [v_u_k c2, v_u_k c1, hvq.1.2.2.2.1 j hj, t5 j c1 c2]⟩
                        have hBq := VB_jn hB (k := k) (v := v) (show b_n b < 6 by omega) (by omega) (by omega) t1
                        have hvq2 := CV_K hvq (Or.inr (Or.inr rfl)) hcK ⟨rfl, rfl, rfl, rfl, rfl⟩ hBq
                        have hIq2 := NB_R hIq (cR_K hcK)
                        refine v_iincN (pc := 130) (b := 1) dX11_befriends_130 rfl (by decide) (by decide) rfl ?_
                        refine v_goto (pc := 133) (tgt := 105) dX11_befriends_133 (by decide) ?_
                        exact ih2 (o + 1) (by omega) (by omega) _ _ t1 (fun j hj => by rw [t2 j (by omega)]; rcases Nat.lt_succ_iff_lt_or_eq.mp hj with z | z; (rw [if_neg (by omega)]; exact hqi j z); (rw [if_pos z, z])) hIq2 hvq2
                    exact inr 0 (Nat.zero_le _) Ii q hq (fun j hj => absurd hj (by omega)) hI hvi
                have e1f : w_fst (w_bq b p k v) (some 0, 99) 1 = (some 0, w_many (vw (b_jn b k v 0) 9 p)) := if_pos (show w_bq b p k v 0 < 99 from Nat.lt_of_le_of_lt (w_many_lt hBj 9 p) (by decide))
                have kk := key 1 (by omega) (Nat.le_refl _) I6 none 0 hp0 hnb6 hv6
                rw [e1f] at kk
                exact kk
              · refine v_bipush (pc := 50) (v := -9) dX11_befriends_50 (by decide) ?_
                exact v_iret (pc := 52) dX11_befriends_52 rfl rfl (Nat.le_of_ble_eq_true rfl) (Nat.le_of_ble_eq_true rfl) ⟨by first | (simp only [s_befr, e1]; done) | (simp only [s_befr, e1, e2]; done) | (simp only [s_befr, e1, e2, e3]; done) | (simp only [s_befr, e1, e2, e3]; rw [if_pos (by omega)]), K, I, J, R, rfl, NB_rf hL⟩
            · have e3 : x_nat vv 10 = none := x_nat_n (fun z => c28 (x_n10.mpr z).2)
              refine v_bipush (pc := 31) (v := -2) dX11_befriends_31 (by decide) ?_
              exact v_iret (pc := 33) dX11_befriends_33 rfl rfl (Nat.le_of_ble_eq_true rfl) (Nat.le_of_ble_eq_true rfl) ⟨by first | (simp only [s_befr, e1]; done) | (simp only [s_befr, e1, e2]; done) | (simp only [s_befr, e1, e2, e3]; done) | (simp only [s_befr, e1, e2, e3]; rw [if_pos (by omega)]), K, I, J, R, rfl, NB_rf hL⟩
        · have e2 := x_n2 (Or.inr c16)
          refine v_iconst (pc := 19) (v := -1) dX11_befriends_19 (by decide) ?_
          exact v_iret (pc := 20) dX11_befriends_20 rfl rfl (Nat.le_of_ble_eq_true rfl) (Nat.le_of_ble_eq_true rfl) ⟨by first | (simp only [s_befr, e1]; done) | (simp only [s_befr, e1, e2]; done) | (simp only [s_befr, e1, e2, e3]; done) | (simp only [s_befr, e1, e2, e3]; rw [if_pos (by omega)]), K, I, J, R, rfl, NB_rf hL⟩
