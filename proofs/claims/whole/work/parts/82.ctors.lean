/-! THE CLASS: constructors of a tape, a trace, a village -/
abbrev rm_X5_init : Room := { frames := 1, cells := 1, slots := 60, locals := 20 }
set_option maxRecDepth 20000 in
theorem c_X5_init (G : v_G) (l : Launch) {K : Nat × v_TY} {I : Nat → Nat → Int32} {J : Nat → Nat → Int64} {R : Nat → Nat → Option Nat} {t : Nat} (hi : v_is K t 5 0) (hK : K.1 < 900000) : v_M G l yX5_init cX5_init 1 none rm_X5_init [.ref t] (K, I, J, R) (v_Qv G (fun (M' : v_MM) => M' = (v_k K 15 60, v_z (v_u I t 0 (-1)) K.1 0, v_z J K.1 0, v_u (v_z R K.1 none) t 2 (some K.1)))) := by
  refine v_of [some (.ref t)] (by decide) (Nat.le_of_ble_eq_true rfl) (Nat.le_of_ble_eq_true rfl) rfl ?_
  refine v_aload_n (pc := 0) dX5_init_0 rfl rfl ?_
  refine v_objInit (pc := 1) kO_X5_3 ko1 ko2 dX5_init_1 (Nat.le_of_ble_eq_true rfl) (Nat.le_of_ble_eq_true rfl) ?_
  refine v_aload_n (pc := 4) dX5_init_4 rfl rfl ?_
  refine v_iconst (pc := 5) (v := -1) dX5_init_5 (by decide) ?_
  refine v_putI (pc := 6) pg_X5_11_5 (fun h => by cases h) dX5_init_6 hi rfl rfl ?_
  refine v_aload_n (pc := 9) dX5_init_9 rfl rfl ?_
  refine v_bipush (pc := 10) (v := nI 60) dX5_init_10 (by decide) ?_
  refine v_newa_long (pc := 12) ac_long dX5_init_12 (t_nn (by decide)) (nI_clamp (by decide)) (by decide) (by omega) (Nat.le_of_ble_eq_true rfl) (Nat.le_of_ble_eq_true rfl) ?_
  refine v_putH (pc := 14) pg_X5_15_5 (fun _ => rfl) dX5_init_14 (v_is_old hi) (fun _ => rfl) rfl ?_
  exact v_vret (pc := 17) dX5_init_17 rfl (Nat.le_of_ble_eq_true rfl) (Nat.le_of_ble_eq_true rfl) rfl
abbrev rm_X8_init : Room := { frames := 1, cells := 1, slots := 20, locals := 20 }
set_option maxRecDepth 20000 in
theorem c_X8_init (G : v_G) (l : Launch) {K : Nat × v_TY} {I : Nat → Nat → Int32} {J : Nat → Nat → Int64} {R : Nat → Nat → Option Nat} {t : Nat} (hi : v_is K t 8 0) (hK : K.1 < 900000) : v_M G l yX8_init cX8_init 1 none rm_X8_init [.ref t] (K, I, J, R) (v_Qv G (fun (M' : v_MM) => M' = (v_k K 14 20, v_z I K.1 0, v_z J K.1 0, v_u (v_z R K.1 none) t 0 (some K.1)))) := by
  refine v_of [some (.ref t)] (by decide) (Nat.le_of_ble_eq_true rfl) (Nat.le_of_ble_eq_true rfl) rfl ?_
  refine v_aload_n (pc := 0) dX8_init_0 rfl rfl ?_
  refine v_objInit (pc := 1) kO_X8_3 ko1 ko2 dX8_init_1 (Nat.le_of_ble_eq_true rfl) (Nat.le_of_ble_eq_true rfl) ?_
  refine v_aload_n (pc := 4) dX8_init_4 rfl rfl ?_
  refine v_bipush (pc := 5) (v := nI 20) dX8_init_5 (by decide) ?_
  refine v_newa_int (pc := 7) ac_int dX8_init_7 (t_nn (by decide)) (nI_clamp (by decide)) (by decide) (by omega) (Nat.le_of_ble_eq_true rfl) (Nat.le_of_ble_eq_true rfl) ?_
  refine v_putH (pc := 9) pg_X8_9_8 (fun _ => rfl) dX8_init_9 (v_is_old hi) (fun _ => rfl) rfl ?_
  exact v_vret (pc := 12) dX8_init_12 rfl (Nat.le_of_ble_eq_true rfl) (Nat.le_of_ble_eq_true rfl) rfl
def kv1 (K : Nat × v_TY) : Nat × v_TY := v_k K 17 6
def kv2 (K : Nat × v_TY) : Nat × v_TY := v_k (kv1 K) 14 6
def kv3 (K : Nat × v_TY) : Nat × v_TY := v_k (kv2 K) 14 24
def kv4 (K : Nat × v_TY) : Nat × v_TY := v_k (kv3 K) 14 6
def kv5 (K : Nat × v_TY) : Nat × v_TY := v_k (kv4 K) 14 6
def kv6 (K : Nat × v_TY) : Nat × v_TY := v_k (kv5 K) 14 6
def kv7 (K : Nat × v_TY) : Nat × v_TY := v_k (kv6 K) 14 12
def kv8 (K : Nat × v_TY) : Nat × v_TY := v_k (kv7 K) 14 12
def kv9 (K : Nat × v_TY) : Nat × v_TY := v_k (kv8 K) 14 6
def zv {α : Type} (K : Nat × v_TY) (f : Nat → Nat → α) (x : α) : Nat → Nat → α := (v_z (v_z (v_z (v_z (v_z (v_z (v_z (v_z (v_z f K.1 x) (kv1 K).1 x) (kv2 K).1 x) (kv3 K).1 x) (kv4 K).1 x) (kv5 K).1 x) (kv6 K).1 x) (kv7 K).1 x) (kv8 K).1 x)
def rv (K : Nat × v_TY) (R : Nat → Nat → Option Nat) (t : Nat) : Nat → Nat → Option Nat := (v_u (v_z (v_u (v_z (v_u (v_z (v_u (v_z (v_u (v_z (v_u (v_z (v_u (v_z (v_u (v_z (v_u (v_z R K.1 none) t 4 (some K.1)) (kv1 K).1 none) t 5 (some (kv1 K).1)) (kv2 K).1 none) t 6 (some (kv2 K).1)) (kv3 K).1 none) t 7 (some (kv3 K).1)) (kv4 K).1 none) t 9 (some (kv4 K).1)) (kv5 K).1 none) t 10 (some (kv5 K).1)) (kv6 K).1 none) t 12 (some (kv6 K).1)) (kv7 K).1 none) t 13 (some (kv7 K).1)) (kv8 K).1 none) t 14 (some (kv8 K).1))
abbrev rm_X9_init : Room := { frames := 2, cells := 9, slots := 84, locals := 40 }
set_option maxRecDepth 20000 in
theorem c_X9_init (G : v_G) (l : Launch) {K : Nat × v_TY} {I : Nat → Nat → Int32} {J : Nat → Nat → Int64} {R : Nat → Nat → Option Nat} {t : Nat} (hi : v_is K t 9 0) (hK : K.1 < 900000) : v_M G l yX9_init cX9_init 1 none rm_X9_init [.ref t] (K, I, J, R) (v_Qv G (fun (M' : v_MM) => M' = (kv9 K, zv K I 0, zv K J 0, rv K R t))) := by
  refine v_of [some (.ref t)] (by decide) (Nat.le_of_ble_eq_true rfl) (Nat.le_of_ble_eq_true rfl) rfl ?_
  refine v_aload_n (pc := 0) dX9_init_0 rfl rfl ?_
  refine v_objInit (pc := 1) kO_X9_3 ko1 ko2 dX9_init_1 (Nat.le_of_ble_eq_true rfl) (Nat.le_of_ble_eq_true rfl) ?_
  refine v_aload_n (pc := 4) dX9_init_4 rfl rfl ?_
  refine v_bipush (pc := 5) (v := nI 6) dX9_init_5 (by decide) ?_
  refine v_newq (pc := 7) (Or.inl ⟨rfl, rfl⟩) cl_X9_9 aoP dX9_init_7 (t_nn (by decide)) (nI_clamp (by decide)) (by decide) (by omega) (Nat.le_of_ble_eq_true rfl) (Nat.le_of_ble_eq_true rfl) ?_
  refine v_putH (pc := 10) pg_X9_11_9 (fun _ => rfl) dX9_init_10 (v_is_old hi) (fun _ => rfl) rfl ?_
  refine v_aload_n (pc := 13) dX9_init_13 rfl rfl ?_
  refine v_bipush (pc := 14) (v := nI 6) dX9_init_14 (by decide) ?_
  refine v_newa_int (pc := 16) ac_int dX9_init_16 (t_nn (by decide)) (nI_clamp (by decide)) (by decide) (by simp only [v_k]; omega) (Nat.le_of_ble_eq_true rfl) (Nat.le_of_ble_eq_true rfl) ?_
  refine v_putH (pc := 18) pg_X9_17_9 (fun _ => rfl) dX9_init_18 (v_is_old (v_is_old hi)) (fun _ => rfl) rfl ?_
  refine v_aload_n (pc := 21) dX9_init_21 rfl rfl ?_
  refine v_bipush (pc := 22) (v := nI 24) dX9_init_22 (by decide) ?_
  refine v_newa_int (pc := 24) ac_int dX9_init_24 (t_nn (by decide)) (nI_clamp (by decide)) (by decide) (by simp only [v_k]; omega) (Nat.le_of_ble_eq_true rfl) (Nat.le_of_ble_eq_true rfl) ?_
  refine v_putH (pc := 26) pg_X9_21_9 (fun _ => rfl) dX9_init_26 (v_is_old (v_is_old (v_is_old hi))) (fun _ => rfl) rfl ?_
  refine v_aload_n (pc := 29) dX9_init_29 rfl rfl ?_
  refine v_bipush (pc := 30) (v := nI 6) dX9_init_30 (by decide) ?_
  refine v_newa_int (pc := 32) ac_int dX9_init_32 (t_nn (by decide)) (nI_clamp (by decide)) (by decide) (by simp only [v_k]; omega) (Nat.le_of_ble_eq_true rfl) (Nat.le_of_ble_eq_true rfl) ?_
  refine v_putH (pc := 34) pg_X9_24_9 (fun _ => rfl) dX9_init_34 (v_is_old (v_is_old (v_is_old (v_is_old hi)))) (fun _ => rfl) rfl ?_
  refine v_aload_n (pc := 37) dX9_init_37 rfl rfl ?_
  refine v_bipush (pc := 38) (v := nI 6) dX9_init_38 (by decide) ?_
  refine v_newa_int (pc := 40) ac_int dX9_init_40 (t_nn (by decide)) (nI_clamp (by decide)) (by decide) (by simp only [v_k]; omega) (Nat.le_of_ble_eq_true rfl) (Nat.le_of_ble_eq_true rfl) ?_
  refine v_putH (pc := 42) pg_X9_27_9 (fun _ => rfl) dX9_init_42 (v_is_old (v_is_old (v_is_old (v_is_old (v_is_old hi))))) (fun _ => rfl) rfl ?_
  refine v_aload_n (pc := 45) dX9_init_45 rfl rfl ?_
  refine v_bipush (pc := 46) (v := nI 6) dX9_init_46 (by decide) ?_
  refine v_newa_int (pc := 48) ac_int dX9_init_48 (t_nn (by decide)) (nI_clamp (by decide)) (by decide) (by simp only [v_k]; omega) (Nat.le_of_ble_eq_true rfl) (Nat.le_of_ble_eq_true rfl) ?_
  refine v_putH (pc := 50) pg_X9_30_9 (fun _ => rfl) dX9_init_50 (v_is_old (v_is_old (v_is_old (v_is_old (v_is_old (v_is_old hi)))))) (fun _ => rfl) rfl ?_
  refine v_aload_n (pc := 53) dX9_init_53 rfl rfl ?_
  refine v_bipush (pc := 54) (v := nI 12) dX9_init_54 (by decide) ?_
  refine v_newa_int (pc := 56) ac_int dX9_init_56 (t_nn (by decide)) (nI_clamp (by decide)) (by decide) (by simp only [v_k]; omega) (Nat.le_of_ble_eq_true rfl) (Nat.le_of_ble_eq_true rfl) ?_
  refine v_putH (pc := 58) pg_X9_33_9 (fun _ => rfl) dX9_init_58 (v_is_old (v_is_old (v_is_old (v_is_old (v_is_old (v_is_old (v_is_old hi))))))) (fun _ => rfl) rfl ?_
  refine v_aload_n (pc := 61) dX9_init_61 rfl rfl ?_
  refine v_bipush (pc := 62) (v := nI 12) dX9_init_62 (by decide) ?_
  refine v_newa_int (pc := 64) ac_int dX9_init_64 (t_nn (by decide)) (nI_clamp (by decide)) (by decide) (by simp only [v_k]; omega) (Nat.le_of_ble_eq_true rfl) (Nat.le_of_ble_eq_true rfl) ?_
  refine v_putH (pc := 66) pg_X9_36_9 (fun _ => rfl) dX9_init_66 (v_is_old (v_is_old (v_is_old (v_is_old (v_is_old (v_is_old (v_is_old (v_is_old hi)))))))) (fun _ => rfl) rfl ?_
  refine v_aload_n (pc := 69) dX9_init_69 rfl rfl ?_
  refine v_ldcS (pc := 70) (i := 5) (tx := "abfdey") (List.mem_of_getElem? (i := 7) rfl) dX9_init_70 ?_
  refine v_ci (pc := 72) (v_rV (c_J0_length_8abf5 G l (i := 5) (by decide)) rfl kV_X9_43 (v_rcT (i := 5) (by decide)) ⟨Nat.le_of_ble_eq_true rfl, Nat.le_of_ble_eq_true rfl⟩ ⟨Nat.le_of_ble_eq_true rfl, Nat.le_of_ble_eq_true rfl⟩ dX9_init_72 (Nat.le_of_ble_eq_true rfl)) (fun x72 M72 h72 => ?_)
  obtain ⟨rfl, rfl⟩ := h72
  refine v_newa_int (pc := 75) ac_int dX9_init_75 (t_nn (by decide)) (nI_clamp (by decide)) (by decide) (by simp only [v_k]; omega) (Nat.le_of_ble_eq_true rfl) (Nat.le_of_ble_eq_true rfl) ?_
  refine v_putH (pc := 77) pg_X9_49_9 (fun _ => rfl) dX9_init_77 (v_is_old (v_is_old (v_is_old (v_is_old (v_is_old (v_is_old (v_is_old (v_is_old (v_is_old hi))))))))) (fun _ => rfl) rfl ?_
  exact v_vret (pc := 80) dX9_init_80 rfl (Nat.le_of_ble_eq_true rfl) (Nat.le_of_ble_eq_true rfl) rfl
