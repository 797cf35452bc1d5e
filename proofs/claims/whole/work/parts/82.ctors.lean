/-! THE CLASS: constructors of a tape, a trace, a village -/
abbrev rm_X5_init : Room := { frames := 1, cells := 1, slots := 60, locals := 20 }
set_option maxRecDepth 20000 in
theorem c_X5_init (G : v_G) (l : Launch) {K : Nat × v_TY} {I : Nat → Nat → Int32} {J : Nat → Nat → Int64} {R : Nat → Nat → Option Nat} {t : Nat} (hi : v_is K t 5 0) (hK : K.1 < 900000) : v_M G l yX5_init cX5_init 1 none rm_X5_init [.ref t] (K, I, J, R) (v_Qv G (fun (M' : v_MM) => M' = (v_k K 15 60, v_z (v_u I t 0 (-1)) K.1 0, v_z J K.1 0, v_u (v_z R K.1 none) t 2 (some K.1)))) := by
  refine v_of [some (.ref t)] (by decide) (Nat.le_of_ble_eq_true rfl) (Nat.le_of_ble_eq_true rfl) rfl ?_
  refine v_aload_n (pc := 0) dX5_init_0 rfl rfl ?_
  refine v_objInit (pc := 1) kO_X5_3 ko1 ko2 dX5_init_1 (Nat.le_of_ble_eq_true rfl) (Nat.le_of_ble_eq_true rfl) ?_
  refine v_aload_n (pc := 4) dX5_init_4 rfl rfl ?_
  refine v_iconst (pc := 5) (v := -1) dX5_init_5 (by decide) ?_
  refine v_putI (pc := 6) pg_X5_11_5 (fun h => by cases h) dX5_init_6 hi rfl rfl ?_
  refine v_aload_n (pc := 9) dX5_init_9 rfl rfl ?_
  refine v_bipush (pc := 10) (v := nI 60) dX5_init_10 (by decide) ?_
  refine v_newa_long (pc := 12) ac_long dX5_init_12 (t_nn (by decide)) (nI_clamp (by decide)) (by decide) (by omega) (Nat.le_of_ble_eq_true rfl) (Nat.le_of_ble_eq_true rfl) ?_
  refine v_putH (pc := 14) pg_X5_15_5 (fun _ => rfl) dX5_init_14 (v_is_old hi) (fun _ => rfl) rfl ?_
  exact v_vret (pc := 17) dX5_init_17 rfl (Nat.le_of_ble_eq_true rfl) (Nat.le_of_ble_eq_true rfl) rfl
abbrev rm_X8_init : Room := { frames := 1, cells := 1, slots := 20, locals := 20 }
set_option maxRecDepth 20000 in
theorem c_X8_init (G : v_G) (l : Launch) {K : Nat × v_TY} {I : Nat → Nat → Int32} {J : Nat → Nat → Int64} {R : Nat → Nat → Option Nat} {t : Nat} (hi : v_is K t 8 0) (hK : K.1 < 900000) : v_M G l yX8_init cX8_init 1 none rm_X8_init [.ref t] (K, I, J, R) (v_Qv G (fun (M' : v_MM) => M' = (v_k K 14 20, v_z I K.1 0, v_z J K.1 0, v_u (v_z R K.1 none) t 0 (some K.1)))) := by
  refine v_of [some (.ref t)] (by decide) (Nat.le_of_ble_eq_true rfl) (Nat.le_of_ble_eq_true rfl) rfl ?_
  refine v_aload_n (pc := 0) dX8_init_0 rfl rfl ?_
  refine v_objInit (pc := 1) kO_X8_3 ko1 ko2 dX8_init_1 (Nat.le_of_ble_eq_true rfl) (Nat.le_of_ble_eq_true rfl) ?_
  refine v_aload_n (pc := 4) dX8_init_4 rfl rfl ?_
  refine v_bipush (pc := 5) (v := nI 20) dX8_init_5 (by decide) ?_
  refine v_newa_int (pc := 7) ac_int dX8_init_7 (t_nn (by decide)) (nI_clamp (by decide)) (by decide) (by omega) (Nat.le_of_ble_eq_true rfl) (Nat.le_of_ble_eq_true rfl) ?_
  refine v_putH (pc := 9) pg_X8_9_8 (fun _ => rfl) dX8_init_9 (v_is_old hi) (fun _ => rfl) rfl ?_
  exact v_vret (pc := 12) dX8_init_12 rfl (Nat.le_of_ble_eq_true rfl) (Nat.le_of_ble_eq_true rfl) rfl
