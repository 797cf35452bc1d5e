/-! THE CLASS: new persons; one who comes -/
theorem pgA : ∀ k, v_pg yX2_init.cls 7 (p_ci k) 0 false .int true
  | 0 => pg_X2_7_2
  | 1 => pg_X2_7_10
  | 2 => pg_X2_7_3
  | 3 => pg_X2_7_1
  | 4 => pg_X2_7_0
  | 5 => pg_X2_7_4
  | n + 6 => pg_X2_7_6
theorem pgB : ∀ k, v_pg yX2_init.cls 13 (p_ci k) 1 false .int true
  | 0 => pg_X2_13_2
  | 1 => pg_X2_13_10
  | 2 => pg_X2_13_3
  | 3 => pg_X2_13_1
  | 4 => pg_X2_13_0
  | 5 => pg_X2_13_4
  | n + 6 => pg_X2_13_6
theorem pgC : ∀ k, v_pg yX2_init.cls 16 (p_ci k) 2 false .int true
  | 0 => pg_X2_16_2
  | 1 => pg_X2_16_10
  | 2 => pg_X2_16_3
  | 3 => pg_X2_16_1
  | 4 => pg_X2_16_0
  | 5 => pg_X2_16_4
  | n + 6 => pg_X2_16_6
def w_p3 (I : Nat → Nat → Int32) (a k i w : Nat) : Nat → Nat → Int32 := v_u (v_u (v_u I a 0 (nI k)) a 1 (nI i)) a 2 (nI w)
abbrev rm_X2_init : Room := { frames := 1, cells := 0, slots := 0, locals := 20 }
set_option maxRecDepth 20000 in
theorem c_X2_init (G : v_G) (l : Launch) {K : Nat × v_TY} {I : Nat → Nat → Int32} {J : Nat → Nat → Int64} {R : Nat → Nat → Option Nat} {a k i w : Nat} (ha : v_is K a (p_ci k) 0) : v_M G l yX2_init cX2_init 4 none rm_X2_init [.ref a, .int (nI k), .int (nI i), .int (nI w)] (K, I, J, R) (v_Qv G (fun (M' : v_MM) => M' = (K, w_p3 I a k i w, J, R))) := by
  refine v_of [some (.ref a), some (.int (nI k)), some (.int (nI i)), some (.int (nI w))] (by decide) (Nat.le_of_ble_eq_true rfl) (Nat.le_of_ble_eq_true rfl) rfl ?_
  refine v_aload_n (pc := 0) dX2_init_0 rfl rfl ?_
  refine v_objInit (pc := 1) kO_X2_1 ko1 ko2 dX2_init_1 (Nat.le_of_ble_eq_true rfl) (Nat.le_of_ble_eq_true rfl) ?_
  refine v_aload_n (pc := 4) dX2_init_4 rfl rfl ?_
  refine v_iload_n (pc := 5) dX2_init_5 rfl rfl ?_
  refine v_putI (pc := 6) (pgA k) (fun _ => rfl) dX2_init_6 ha rfl rfl ?_
  refine v_aload_n (pc := 9) dX2_init_9 rfl rfl ?_
  refine v_iload_n (pc := 10) dX2_init_10 rfl rfl ?_
  refine v_putI (pc := 11) (pgB k) (fun _ => rfl) dX2_init_11 ha rfl rfl ?_
  refine v_aload_n (pc := 14) dX2_init_14 rfl rfl ?_
  refine v_iload_n (pc := 15) dX2_init_15 rfl rfl ?_
  refine v_putI (pc := 16) (pgC k) (fun _ => rfl) dX2_init_16 ha rfl rfl ?_
  exact v_vret (pc := 19) dX2_init_19 rfl (Nat.le_of_ble_eq_true rfl) (Nat.le_of_ble_eq_true rfl) rfl
abbrev rm_X10_init : Room := { frames := 2, cells := 0, slots := 0, locals := 43 }
set_option maxRecDepth 20000 in
theorem c_X10_init (G : v_G) (l : Launch) {K : Nat × v_TY} {I : Nat → Nat → Int32} {J : Nat → Nat → Int64} {R : Nat → Nat → Option Nat} {a k i w : Nat} (ha : v_is K a (p_ci k) 0) : v_M G l yX10_init cX10_init 4 none rm_X10_init [.ref a, .int (nI k), .int (nI i), .int (nI w)] (K, I, J, R) (v_Qv G (fun (M' : v_MM) => M' = (K, w_p3 I a k i w, J, R))) := by
  refine v_of [some (.ref a), some (.int (nI k)), some (.int (nI i)), some (.int (nI w))] (by decide) (Nat.le_of_ble_eq_true rfl) (Nat.le_of_ble_eq_true rfl) rfl ?_
  refine v_aload_n (pc := 0) dX10_init_0 rfl rfl ?_
  refine v_iload_n (pc := 1) dX10_init_1 rfl rfl ?_
  refine v_iload_n (pc := 2) dX10_init_2 rfl rfl ?_
  refine v_iload_n (pc := 3) dX10_init_3 rfl rfl ?_
  refine v_cv (pc := 4) (v_rI (c_X2_init G l ha) rfl kI_X10_1 ⟨Nat.le_of_ble_eq_true rfl, Nat.le_of_ble_eq_true rfl⟩ ⟨Nat.le_of_ble_eq_true rfl, Nat.le_of_ble_eq_true rfl⟩ dX10_init_4 (Nat.le_of_ble_eq_true rfl)) (fun M4 h4 => ?_)
  subst h4
  exact v_vret (pc := 7) dX10_init_7 rfl (Nat.le_of_ble_eq_true rfl) (Nat.le_of_ble_eq_true rfl) rfl
abbrev rm_X3_init : Room := { frames := 2, cells := 0, slots := 0, locals := 43 }
set_option maxRecDepth 20000 in
theorem c_X3_init (G : v_G) (l : Launch) {K : Nat × v_TY} {I : Nat → Nat → Int32} {J : Nat → Nat → Int64} {R : Nat → Nat → Option Nat} {a k i w : Nat} (ha : v_is K a (p_ci k) 0) : v_M G l yX3_init cX3_init 4 none rm_X3_init [.ref a, .int (nI k), .int (nI i), .int (nI w)] (K, I, J, R) (v_Qv G (fun (M' : v_MM) => M' = (K, w_p3 I a k i w, J, R))) := by
  refine v_of [some (.ref a), some (.int (nI k)), some (.int (nI i)), some (.int (nI w))] (by decide) (Nat.le_of_ble_eq_true rfl) (Nat.le_of_ble_eq_true rfl) rfl ?_
  refine v_aload_n (pc := 0) dX3_init_0 rfl rfl ?_
  refine v_iload_n (pc := 1) dX3_init_1 rfl rfl ?_
  refine v_iload_n (pc := 2) dX3_init_2 rfl rfl ?_
  refine v_iload_n (pc := 3) dX3_init_3 rfl rfl ?_
  refine v_cv (pc := 4) (v_rI (c_X2_init G l ha) rfl kI_X3_1 ⟨Nat.le_of_ble_eq_true rfl, Nat.le_of_ble_eq_true rfl⟩ ⟨Nat.le_of_ble_eq_true rfl, Nat.le_of_ble_eq_true rfl⟩ dX3_init_4 (Nat.le_of_ble_eq_true rfl)) (fun M4 h4 => ?_)
  subst h4
  exact v_vret (pc := 7) dX3_init_7 rfl (Nat.le_of_ble_eq_true rfl) (Nat.le_of_ble_eq_true rfl) rfl
abbrev rm_X1_init : Room := { frames := 2, cells := 0, slots := 0, locals := 43 }
set_option maxRecDepth 20000 in
theorem c_X1_init (G : v_G) (l : Launch) {K : Nat × v_TY} {I : Nat → Nat → Int32} {J : Nat → Nat → Int64} {R : Nat → Nat → Option Nat} {a k i w : Nat} (ha : v_is K a (p_ci k) 0) : v_M G l yX1_init cX1_init 4 none rm_X1_init [.ref a, .int (nI k), .int (nI i), .int (nI w)] (K, I, J, R) (v_Qv G (fun (M' : v_MM) => M' = (K, w_p3 I a k i w, J, R))) := by
  refine v_of [some (.ref a), some (.int (nI k)), some (.int (nI i)), some (.int (nI w))] (by decide) (Nat.le_of_ble_eq_true rfl) (Nat.le_of_ble_eq_true rfl) rfl ?_
  refine v_aload_n (pc := 0) dX1_init_0 rfl rfl ?_
  refine v_iload_n (pc := 1) dX1_init_1 rfl rfl ?_
  refine v_iload_n (pc := 2) dX1_init_2 rfl rfl ?_
  refine v_iload_n (pc := 3) dX1_init_3 rfl rfl ?_
  refine v_cv (pc := 4) (v_rI (c_X2_init G l ha) rfl kI_X1_1 ⟨Nat.le_of_ble_eq_true rfl, Nat.le_of_ble_eq_true rfl⟩ ⟨Nat.le_of_ble_eq_true rfl, Nat.le_of_ble_eq_true rfl⟩ dX1_init_4 (Nat.le_of_ble_eq_true rfl)) (fun M4 h4 => ?_)
  subst h4
  exact v_vret (pc := 7) dX1_init_7 rfl (Nat.le_of_ble_eq_true rfl) (Nat.le_of_ble_eq_true rfl) rfl
abbrev rm_X0_init : Room := { frames := 3, cells := 0, slots := 0, locals := 66 }
set_option maxRecDepth 20000 in
theorem c_X0_init (G : v_G) (l : Launch) {K : Nat × v_TY} {I : Nat → Nat → Int32} {J : Nat → Nat → Int64} {R : Nat → Nat → Option Nat} {a k i w : Nat} (ha : v_is K a (p_ci k) 0) : v_M G l yX0_init cX0_init 4 none rm_X0_init [.ref a, .int (nI k), .int (nI i), .int (nI w)] (K, I, J, R) (v_Qv G (fun (M' : v_MM) => M' = (K, w_p3 I a k i w, J, R))) := by
  refine v_of [some (.ref a), some (.int (nI k)), some (.int (nI i)), some (.int (nI w))] (by decide) (Nat.le_of_ble_eq_true rfl) (Nat.le_of_ble_eq_true rfl) rfl ?_
  refine v_aload_n (pc := 0) dX0_init_0 rfl rfl ?_
  refine v_iload_n (pc := 1) dX0_init_1 rfl rfl ?_
  refine v_iload_n (pc := 2) dX0_init_2 rfl rfl ?_
  refine v_iload_n (pc := 3) dX0_init_3 rfl rfl ?_
  refine v_cv (pc := 4) (v_rI (c_X10_init G l ha) rfl kI_X0_1 ⟨Nat.le_of_ble_eq_true rfl, Nat.le_of_ble_eq_true rfl⟩ ⟨Nat.le_of_ble_eq_true rfl, Nat.le_of_ble_eq_true rfl⟩ dX0_init_4 (Nat.le_of_ble_eq_true rfl)) (fun M4 h4 => ?_)
  subst h4
  exact v_vret (pc := 7) dX0_init_7 rfl (Nat.le_of_ble_eq_true rfl) (Nat.le_of_ble_eq_true rfl) rfl
abbrev rm_X4_init : Room := { frames := 3, cells := 0, slots := 0, locals := 66 }
set_option maxRecDepth 20000 in
theorem c_X4_init (G : v_G) (l : Launch) {K : Nat × v_TY} {I : Nat → Nat → Int32} {J : Nat → Nat → Int64} {R : Nat → Nat → Option Nat} {a k i w : Nat} (ha : v_is K a (p_ci k) 0) : v_M G l yX4_init cX4_init 4 none rm_X4_init [.ref a, .int (nI k), .int (nI i), .int (nI w)] (K, I, J, R) (v_Qv G (fun (M' : v_MM) => M' = (K, w_p3 I a k i w, J, R))) := by
  refine v_of [some (.ref a), some (.int (nI k)), some (.int (nI i)), some (.int (nI w))] (by decide) (Nat.le_of_ble_eq_true rfl) (Nat.le_of_ble_eq_true rfl) rfl ?_
  refine v_aload_n (pc := 0) dX4_init_0 rfl rfl ?_
  refine v_iload_n (pc := 1) dX4_init_1 rfl rfl ?_
  refine v_iload_n (pc := 2) dX4_init_2 rfl rfl ?_
  refine v_iload_n (pc := 3) dX4_init_3 rfl rfl ?_
  refine v_cv (pc := 4) (v_rI (c_X3_init G l ha) rfl kI_X4_1 ⟨Nat.le_of_ble_eq_true rfl, Nat.le_of_ble_eq_true rfl⟩ ⟨Nat.le_of_ble_eq_true rfl, Nat.le_of_ble_eq_true rfl⟩ dX4_init_4 (Nat.le_of_ble_eq_true rfl)) (fun M4 h4 => ?_)
  subst h4
  exact v_vret (pc := 7) dX4_init_7 rfl (Nat.le_of_ble_eq_true rfl) (Nat.le_of_ble_eq_true rfl) rfl
abbrev rm_X6_init : Room := { frames := 3, cells := 0, slots := 0, locals := 66 }
set_option maxRecDepth 20000 in
theorem c_X6_init (G : v_G) (l : Launch) {K : Nat × v_TY} {I : Nat → Nat → Int32} {J : Nat → Nat → Int64} {R : Nat → Nat → Option Nat} {a k i w : Nat} (ha : v_is K a (p_ci k) 0) : v_M G l yX6_init cX6_init 4 none rm_X6_init [.ref a, .int (nI k), .int (nI i), .int (nI w)] (K, I, J, R) (v_Qv G (fun (M' : v_MM) => M' = (K, w_p3 I a k i w, J, R))) := by
  refine v_of [some (.ref a), some (.int (nI k)), some (.int (nI i)), some (.int (nI w))] (by decide) (Nat.le_of_ble_eq_true rfl) (Nat.le_of_ble_eq_true rfl) rfl ?_
  refine v_aload_n (pc := 0) dX6_init_0 rfl rfl ?_
  refine v_iload_n (pc := 1) dX6_init_1 rfl rfl ?_
  refine v_iload_n (pc := 2) dX6_init_2 rfl rfl ?_
  refine v_iload_n (pc := 3) dX6_init_3 rfl rfl ?_
  refine v_cv (pc := 4) (v_rI (c_X1_init G l ha) rfl kI_X6_1 ⟨Nat.le_of_ble_eq_true rfl, Nat.le_of_ble_eq_true rfl⟩ ⟨Nat.le_of_ble_eq_true rfl, Nat.le_of_ble_eq_true rfl⟩ dX6_init_4 (Nat.le_of_ble_eq_true rfl)) (fun M4 h4 => ?_)
  subst h4
  exact v_vret (pc := 7) dX6_init_7 rfl (Nat.le_of_ble_eq_true rfl) (Nat.le_of_ble_eq_true rfl) rfl
abbrev rm_X11_newPerson : Room := { frames := 4, cells := 1, slots := 3, locals := 89 }
set_option maxRecDepth 20000 in
theorem c_X11_newPerson (G : v_G) (l : Launch) {K : Nat × v_TY} {I : Nat → Nat → Int32} {J : Nat → Nat → Int64} {R : Nat → Nat → Option Nat} {k i w : Nat} (hk : k < 7) (hK : K.1 < 900000) : v_M G l yX11_newPerson cX11_newPerson 3 (some (.object "OneFriend$Person")) rm_X11_newPerson [.int (nI k), .int (nI i), .int (nI w)] (K, I, J, R) (v_Qr G (fun (r : Option Nat) (M' : v_MM) => r = some K.1 ∧ M' = (v_k K (p_ci k) 0, w_p3 (v_z I K.1 0) K.1 k i w, v_z J K.1 0, v_z R K.1 none))) := by
  refine v_of [some (.int (nI k)), some (.int (nI i)), some (.int (nI w))] (by decide) (Nat.le_of_ble_eq_true rfl) (Nat.le_of_ble_eq_true rfl) rfl ?_
  refine v_iload_n (pc := 0) dX11_newPerson_0 rfl rfl ?_
  rcases (show k = 1 ∨ k = 2 ∨ k = 3 ∨ k = 4 ∨ k = 5 ∨ k = 6 ∨ k = 0 by omega) with rfl | rfl | rfl | rfl | rfl | rfl | rfl
  · refine v_tableIn (pc := 1) (tgt := 40) dX11_newPerson_1 (by decide) (by decide) rfl (by decide) ?_
    refine v_new (pc := 40) nw_X11_304 dX11_newPerson_40 (by omega) (Nat.le_of_ble_eq_true rfl) (Nat.le_of_ble_eq_true rfl) ?_
    refine v_dup (pc := 43) dX11_newPerson_43 rfl ?_
    refine v_iload_n (pc := 44) dX11_newPerson_44 rfl rfl ?_
    refine v_iload_n (pc := 45) dX11_newPerson_45 rfl rfl ?_
    refine v_iload_n (pc := 46) dX11_newPerson_46 rfl rfl ?_
    refine v_cv (pc := 47) (v_rI (c_X10_init G l (k := 1) v_is_new) rfl kI_X11_306 ⟨Nat.le_of_ble_eq_true rfl, Nat.le_of_ble_eq_true rfl⟩ ⟨Nat.le_of_ble_eq_true rfl, Nat.le_of_ble_eq_true rfl⟩ dX11_newPerson_47 (Nat.le_of_ble_eq_true rfl)) (fun M47 h47 => ?_)
    subst h47
    exact v_aretH (pc := 50) dX11_newPerson_50 rfl (Nat.le_of_ble_eq_true rfl) (Nat.le_of_ble_eq_true rfl) ⟨rfl, rfl⟩
  · refine v_tableIn (pc := 1) (tgt := 51) dX11_newPerson_1 (by decide) (by decide) rfl (by decide) ?_
    refine v_new (pc := 51) nw_X11_309 dX11_newPerson_51 (by omega) (Nat.le_of_ble_eq_true rfl) (Nat.le_of_ble_eq_true rfl) ?_
    refine v_dup (pc := 54) dX11_newPerson_54 rfl ?_
    refine v_iload_n (pc := 55) dX11_newPerson_55 rfl rfl ?_
    refine v_iload_n (pc := 56) dX11_newPerson_56 rfl rfl ?_
    refine v_iload_n (pc := 57) dX11_newPerson_57 rfl rfl ?_
    refine v_cv (pc := 58) (v_rI (c_X3_init G l (k := 2) v_is_new) rfl kI_X11_311 ⟨Nat.le_of_ble_eq_true rfl, Nat.le_of_ble_eq_true rfl⟩ ⟨Nat.le_of_ble_eq_true rfl, Nat.le_of_ble_eq_true rfl⟩ dX11_newPerson_58 (Nat.le_of_ble_eq_true rfl)) (fun M58 h58 => ?_)
    subst h58
    exact v_aretH (pc := 61) dX11_newPerson_61 rfl (Nat.le_of_ble_eq_true rfl) (Nat.le_of_ble_eq_true rfl) ⟨rfl, rfl⟩
  · refine v_tableIn (pc := 1) (tgt := 62) dX11_newPerson_1 (by decide) (by decide) rfl (by decide) ?_
    refine v_new (pc := 62) nw_X11_312 dX11_newPerson_62 (by omega) (Nat.le_of_ble_eq_true rfl) (Nat.le_of_ble_eq_true rfl) ?_
    refine v_dup (pc := 65) dX11_newPerson_65 rfl ?_
    refine v_iload_n (pc := 66) dX11_newPerson_66 rfl rfl ?_
    refine v_iload_n (pc := 67) dX11_newPerson_67 rfl rfl ?_
    refine v_iload_n (pc := 68) dX11_newPerson_68 rfl rfl ?_
    refine v_cv (pc := 69) (v_rI (c_X1_init G l (k := 3) v_is_new) rfl kI_X11_314 ⟨Nat.le_of_ble_eq_true rfl, Nat.le_of_ble_eq_true rfl⟩ ⟨Nat.le_of_ble_eq_true rfl, Nat.le_of_ble_eq_true rfl⟩ dX11_newPerson_69 (Nat.le_of_ble_eq_true rfl)) (fun M69 h69 => ?_)
    subst h69
    exact v_aretH (pc := 72) dX11_newPerson_72 rfl (Nat.le_of_ble_eq_true rfl) (Nat.le_of_ble_eq_true rfl) ⟨rfl, rfl⟩
  · refine v_tableIn (pc := 1) (tgt := 73) dX11_newPerson_1 (by decide) (by decide) rfl (by decide) ?_
    refine v_new (pc := 73) nw_X11_315 dX11_newPerson_73 (by omega) (Nat.le_of_ble_eq_true rfl) (Nat.le_of_ble_eq_true rfl) ?_
    refine v_dup (pc := 76) dX11_newPerson_76 rfl ?_
    refine v_iload_n (pc := 77) dX11_newPerson_77 rfl rfl ?_
    refine v_iload_n (pc := 78) dX11_newPerson_78 rfl rfl ?_
    refine v_iload_n (pc := 79) dX11_newPerson_79 rfl rfl ?_
    refine v_cv (pc := 80) (v_rI (c_X0_init G l (k := 4) v_is_new) rfl kI_X11_317 ⟨Nat.le_of_ble_eq_true rfl, Nat.le_of_ble_eq_true rfl⟩ ⟨Nat.le_of_ble_eq_true rfl, Nat.le_of_ble_eq_true rfl⟩ dX11_newPerson_80 (Nat.le_of_ble_eq_true rfl)) (fun M80 h80 => ?_)
    subst h80
    exact v_aretH (pc := 83) dX11_newPerson_83 rfl (Nat.le_of_ble_eq_true rfl) (Nat.le_of_ble_eq_true rfl) ⟨rfl, rfl⟩
  · refine v_tableIn (pc := 1) (tgt := 84) dX11_newPerson_1 (by decide) (by decide) rfl (by decide) ?_
    refine v_new (pc := 84) nw_X11_318 dX11_newPerson_84 (by omega) (Nat.le_of_ble_eq_true rfl) (Nat.le_of_ble_eq_true rfl) ?_
    refine v_dup (pc := 87) dX11_newPerson_87 rfl ?_
    refine v_iload_n (pc := 88) dX11_newPerson_88 rfl rfl ?_
    refine v_iload_n (pc := 89) dX11_newPerson_89 rfl rfl ?_
    refine v_iload_n (pc := 90) dX11_newPerson_90 rfl rfl ?_
    refine v_cv (pc := 91) (v_rI (c_X4_init G l (k := 5) v_is_new) rfl kI_X11_320 ⟨Nat.le_of_ble_eq_true rfl, Nat.le_of_ble_eq_true rfl⟩ ⟨Nat.le_of_ble_eq_true rfl, Nat.le_of_ble_eq_true rfl⟩ dX11_newPerson_91 (Nat.le_of_ble_eq_true rfl)) (fun M91 h91 => ?_)
    subst h91
    exact v_aretH (pc := 94) dX11_newPerson_94 rfl (Nat.le_of_ble_eq_true rfl) (Nat.le_of_ble_eq_true rfl) ⟨rfl, rfl⟩
  · refine v_tableIn (pc := 1) (tgt := 95) dX11_newPerson_1 (by decide) (by decide) rfl (by decide) ?_
    refine v_new (pc := 95) nw_X11_321 dX11_newPerson_95 (by omega) (Nat.le_of_ble_eq_true rfl) (Nat.le_of_ble_eq_true rfl) ?_
    refine v_dup (pc := 98) dX11_newPerson_98 rfl ?_
    refine v_iload_n (pc := 99) dX11_newPerson_99 rfl rfl ?_
    refine v_iload_n (pc := 100) dX11_newPerson_100 rfl rfl ?_
    refine v_iload_n (pc := 101) dX11_newPerson_101 rfl rfl ?_
    refine v_cv (pc := 102) (v_rI (c_X6_init G l (k := 6) v_is_new) rfl kI_X11_323 ⟨Nat.le_of_ble_eq_true rfl, Nat.le_of_ble_eq_true rfl⟩ ⟨Nat.le_of_ble_eq_true rfl, Nat.le_of_ble_eq_true rfl⟩ dX11_newPerson_102 (Nat.le_of_ble_eq_true rfl)) (fun M102 h102 => ?_)
    subst h102
    exact v_aretH (pc := 105) dX11_newPerson_105 rfl (Nat.le_of_ble_eq_true rfl) (Nat.le_of_ble_eq_true rfl) ⟨rfl, rfl⟩
  · refine v_tableOut (pc := 1) (tgt := 106) dX11_newPerson_1 (Or.inl (by decide)) (by decide) ?_
    refine v_new (pc := 106) nw_X11_73 dX11_newPerson_106 (by omega) (Nat.le_of_ble_eq_true rfl) (Nat.le_of_ble_eq_true rfl) ?_
    refine v_dup (pc := 109) dX11_newPerson_109 rfl ?_
    refine v_iload_n (pc := 110) dX11_newPerson_110 rfl rfl ?_
    refine v_iload_n (pc := 111) dX11_newPerson_111 rfl rfl ?_
    refine v_iload_n (pc := 112) dX11_newPerson_112 rfl rfl ?_
    refine v_cv (pc := 113) (v_rI (c_X2_init G l (k := 0) v_is_new) rfl kI_X11_324 ⟨Nat.le_of_ble_eq_true rfl, Nat.le_of_ble_eq_true rfl⟩ ⟨Nat.le_of_ble_eq_true rfl, Nat.le_of_ble_eq_true rfl⟩ dX11_newPerson_113 (Nat.le_of_ble_eq_true rfl)) (fun M113 h113 => ?_)
    subst h113
    exact v_aretH (pc := 116) dX11_newPerson_116 rfl (Nat.le_of_ble_eq_true rfl) (Nat.le_of_ble_eq_true rfl) ⟨rfl, rfl⟩
