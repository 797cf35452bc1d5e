/-! THE CLASS: town -/
theorem Lay_13 {K : Nat × v_TY} {R : Nat → Nat → Option Nat} {r : Option Nat} (hL : Lay K R) : Lay K (v_u R 1 3 r) := by
  have h1 : ∀ q ∈ v_layR, ¬ (q.1 = 1 ∧ q.2.1 = 3) := by decide
  exact ⟨hL.1, fun q hq => (v_u_g (h1 q hq)).trans (hL.2 q hq)⟩
theorem Lay_04 {K : Nat × v_TY} {R : Nat → Nat → Option Nat} {r : Option Nat} (hL : Lay K R) : Lay K (v_u R 0 4 r) := by
  have h1 : ∀ q ∈ v_layR, ¬ (q.1 = 0 ∧ q.2.1 = 4) := by decide
  exact ⟨hL.1, fun q hq => (v_u_g (h1 q hq)).trans (hL.2 q hq)⟩
abbrev rm_X11_town : Room := { frames := 30, cells := 6, slots := 239, locals := 1300 }
set_option maxRecDepth 20000 in
theorem c_X11_town (G : v_G) (l : Launch) {K : Nat × v_TY} {I : Nat → Nat → Int32} {J : Nat → Nat → Int64} {R : Nat → Nat → Option Nat} (hL : Lay K R) {t tm : Nat} {T : List Nat} (hnt : R 0 4 = some t) (hT : TH K R t) (hln : I 0 7 = nI T.length) (h100 : T.length ≤ 100) (hB : ∀ (j c : Nat), T[j]? = some c → I 37 j = nI c ∧ c < 128) (hbt : ∀ j, j < 100 → ∃ c, c < 128 ∧ I 37 j = nI c) (htm : I 0 5 = nI tm) (htm6 : tm ≤ 6) (hK : 91 ≤ K.1 ∧ K.1 < 800000) : v_M G l yX11_town cX11_town 2 (some .int) rm_X11_town [.ref 0] (K, I, J, R) (v_Qi G (fun (x : Int32) (M' : v_MM) => ((tm = 6 ∧ x = -4 ∧ M' = (K, I, J, R)) ∨ (tm < 6 ∧ ∃ q, p_cs T 10 0 [] = (q, none) ∧ x = -10 - nI q ∧ ∃ I', M' = (K, v_u I' 0 7 (nI 0), J, R) ∧ kU t I I') ∨ (tm < 6 ∧ ∃ q p, p_cs T 10 0 [] = (q, some p) ∧ x = nI tm ∧ ∃ I', kU t I I' ∧ TC I' t p ∧ M' = (kt5 (v_k K 7 0), v_u (zt (v_k K 7 0) (v_z (v_u I' 0 7 (nI 0)) K.1 0) 0) 0 5 (nI (tm + 1)), zt (v_k K 7 0) (v_z J K.1 0) 0, v_u (rt5 (v_k K 7 0) (v_z (v_u R 1 3 (some t)) K.1 none) K.1) 0 4 (some K.1)))))) := by
  refine v_of [some (.ref 0), none] (by decide) (Nat.le_of_ble_eq_true rfl) (Nat.le_of_ble_eq_true rfl) rfl ?_
  have ht := hT.2.2.2
  refine v_aload_n (pc := 0) dX11_town_0 rfl rfl ?_
  refine v_getV (pc := 1) fg_X11_146_11 dX11_town_1 (li_0 hL) htm ?_
  refine v_bipush (pc := 4) (v := nI 6) dX11_town_4 (by decide) ?_
  refine v_icmp_ltN (pc := 6) (tgt := 12) ⟨by omega, by omega⟩ dX11_town_6 (by decide) (fun c6 => ?_) (fun c6 => ?_)
  · refine v_aload_n (pc := 12) dX11_town_12 rfl rfl ?_
    refine v_getH (pc := 13) fg_X11_27_11 dX11_town_13 (li_0 hL) hnt ?_
    refine v_aload_n (pc := 16) dX11_town_16 rfl rfl ?_
    refine v_getH (pc := 17) fg_X11_31_11 dX11_town_17 (li_0 hL) (lr_0_6 hL) ?_
    refine v_aload_n (pc := 20) dX11_town_20 rfl rfl ?_
    refine v_getV (pc := 21) fg_X11_143_11 dX11_town_21 (li_0 hL) hln ?_
    refine v_ci (pc := 24) (v_rV (c_X7_understands G l hL hT h100 hB hbt) rfl kV_X11_149 (v_rcO hT.1 rfl (by decide)) ⟨Nat.le_of_ble_eq_true rfl, Nat.le_of_ble_eq_true rfl⟩ ⟨Nat.le_of_ble_eq_true rfl, Nat.le_of_ble_eq_true rfl⟩ dX11_town_24 (Nat.le_of_ble_eq_true rfl)) (fun x24 M24 h24 => ?_)
    skip
    obtain ⟨I24, rfl, u24, ⟨e1, rfl, e3⟩ | ⟨p, e1, rfl, e3, e4⟩⟩ := h24
    · refine v_istore_n (pc := 27) dX11_town_27 rfl (by decide) rfl ?_
      refine v_aload_n (pc := 28) dX11_town_28 rfl rfl ?_
      refine v_iconst (pc := 29) (v := nI 0) dX11_town_29 (by decide) ?_
      refine v_putI (pc := 30) pg_X11_143_11 (fun h => by cases h) dX11_town_30 (li_0 hL) rfl rfl ?_
      refine v_iload_n (pc := 33) dX11_town_33 rfl rfl ?_
      refine v_if_neN (pc := 34) (tgt := 48) (by omega) dX11_town_34 (by decide) (fun c34 => ?_) (fun c34 => ?_)
      · exact absurd rfl c34
      · refine v_bipush (pc := 37) (v := -10) dX11_town_37 (by decide) ?_
        refine v_aload_n (pc := 39) dX11_town_39 rfl rfl ?_
        refine v_getH (pc := 40) fg_X11_27_11 dX11_town_40 (li_0 hL) hnt ?_
        refine v_getV (pc := 43) fg_X11_153_7 dX11_town_43 hT.1 ((v_u_h (by omega)).trans e3) ?_
        refine v_isub (pc := 46) dX11_town_46 ?_
        exact v_iret (pc := 47) dX11_town_47 rfl rfl (Nat.le_of_ble_eq_true rfl) (Nat.le_of_ble_eq_true rfl) (Or.inr (Or.inl ⟨by omega, _, Prod.ext rfl e1, rfl, I24, rfl, u24⟩))
    · refine v_istore_n (pc := 27) dX11_town_27 rfl (by decide) rfl ?_
      refine v_aload_n (pc := 28) dX11_town_28 rfl rfl ?_
      refine v_iconst (pc := 29) (v := nI 0) dX11_town_29 (by decide) ?_
      refine v_putI (pc := 30) pg_X11_143_11 (fun h => by cases h) dX11_town_30 (li_0 hL) rfl rfl ?_
      refine v_iload_n (pc := 33) dX11_town_33 rfl rfl ?_
      refine v_if_neN (pc := 34) (tgt := 48) (by omega) dX11_town_34 (by decide) (fun c34 => ?_) (fun c34 => ?_)
      · refine v_aload_n (pc := 48) dX11_town_48 rfl rfl ?_
        refine v_getH (pc := 49) fg_X11_12_11 dX11_town_49 (li_0 hL) (lr_0_0 hL) ?_
        refine v_aload_n (pc := 52) dX11_town_52 rfl rfl ?_
        refine v_getH (pc := 53) fg_X11_27_11 dX11_town_53 (li_0 hL) hnt ?_
        refine v_putH (pc := 56) pg_X11_156_9 (fun h => by cases h) dX11_town_56 (li_1 hL) (fun _ => rfl) rfl ?_
        refine v_aload_n (pc := 59) dX11_town_59 rfl rfl ?_
        refine v_new (pc := 60) nw_X11_24 dX11_town_60 (by omega) (Nat.le_of_ble_eq_true rfl) (Nat.le_of_ble_eq_true rfl) ?_
        have hL2 : Lay (v_k K 7 0) (v_z (v_u R 1 3 (some t)) K.1 none) := Lay_up (Lay_13 hL) UPK_k (fun a z l => v_z_h (by omega))
        have hL := hL2
        refine v_dup (pc := 63) dX11_town_63 rfl ?_
        refine v_cv (pc := 64) (v_rIN (c_X7_init G l (K := v_k K 7 0) (t := K.1) v_is_new (by show K.1 + 1 < 900000; omega)) rfl kIN_X11_26 ⟨Nat.le_of_ble_eq_true rfl, Nat.le_of_ble_eq_true rfl⟩ ⟨Nat.le_of_ble_eq_true rfl, Nat.le_of_ble_eq_true rfl⟩ dX11_town_64 (Nat.le_of_ble_eq_true rfl)) (fun M64 h64 => ?_)
        subst h64
        have hL3 : Lay (kt5 (v_k K 7 0)) (rt5 (v_k K 7 0) (v_z (v_u R 1 3 (some t)) K.1 none) K.1) := Lay_up hL (kt_u _) (fun a z l => rt_o (show a < K.1 + 1 by omega) (by omega))
        have hL := hL3
        refine v_putH (pc := 67) pg_X11_27_11 (fun h => by cases h) dX11_town_67 (li_0 hL) (fun _ => rfl) rfl ?_
        have hL := Lay_04 (r := some K.1) hL
        refine v_aload_n (pc := 70) dX11_town_70 rfl rfl ?_
        refine v_dup (pc := 71) dX11_town_71 rfl ?_
        refine v_getV (pc := 72) fg_X11_146_11 dX11_town_72 (li_0 hL) ((zt_o (show 0 < (v_k K 7 0).1 from Nat.succ_pos _)).trans ((v_z_h (show 0 ≠ K.1 by omega)).trans ((v_u_k (by decide)).trans ((u24 0 5 (Or.inl (by omega))).trans htm)))) ?_
        refine v_iconst (pc := 75) (v := nI 1) dX11_town_75 (by decide) ?_
        refine v_iaddN (pc := 76) dX11_town_76 ?_
        refine v_putI (pc := 77) pg_X11_146_11 (fun h => by cases h) dX11_town_77 (li_0 hL) rfl rfl ?_
        refine v_aload_n (pc := 80) dX11_town_80 rfl rfl ?_
        refine v_getV (pc := 81) fg_X11_146_11 dX11_town_81 (li_0 hL) v_u_same ?_
        refine v_iconst (pc := 84) (v := nI 1) dX11_town_84 (by decide) ?_
        refine v_isubN (pc := 85) (by omega) dX11_town_85 ?_
        exact v_iret (pc := 86) dX11_town_86 rfl rfl (Nat.le_of_ble_eq_true rfl) (Nat.le_of_ble_eq_true rfl) (Or.inr (Or.inr ⟨by omega, _, p, Prod.ext rfl e1, by rw [Nat.add_sub_cancel], I24, u24, e3, rfl⟩))
      · exact absurd c34 (by decide)
  · refine v_bipush (pc := 9) (v := -4) dX11_town_9 (by decide) ?_
    exact v_iret (pc := 11) dX11_town_11 rfl rfl (Nat.le_of_ble_eq_true rfl) (Nat.le_of_ble_eq_true rfl) (Or.inl ⟨by omega, rfl, rfl⟩)
