/-! THE CLASS: a new town -/
def kt1 (K : Nat × v_TY) : Nat × v_TY := v_k K 13 100
def kt2 (K : Nat × v_TY) : Nat × v_TY := v_k (kt1 K) 14 10
def kt3 (K : Nat × v_TY) : Nat × v_TY := v_k (kt2 K) 14 10
def kt4 (K : Nat × v_TY) : Nat × v_TY := v_k (kt3 K) 14 10
def kt5 (K : Nat × v_TY) : Nat × v_TY := v_k (kt4 K) 14 100
def zt {α : Type} (K : Nat × v_TY) (f : Nat → Nat → α) (x : α) : Nat → Nat → α := v_z (v_z (v_z (v_z (v_z f K.1 x) (kt1 K).1 x) (kt2 K).1 x) (kt3 K).1 x) (kt4 K).1 x
def rt5 (K : Nat × v_TY) (R : Nat → Nat → Option Nat) (t : Nat) : Nat → Nat → Option Nat :=
  v_u (v_z (v_u (v_z (v_u (v_z (v_u (v_z (v_u (v_z R K.1 none) t 1 (some K.1)) (kt1 K).1 none) t 4 (some (kt1 K).1)) (kt2 K).1 none) t 5 (some (kt2 K).1)) (kt3 K).1 none) t 6 (some (kt3 K).1)) (kt4 K).1 none) t 7 (some (kt4 K).1)
theorem kt_n (K : Nat × v_TY) : (kt1 K).1 = K.1 + 1 ∧ (kt2 K).1 = K.1 + 2 ∧ (kt3 K).1 = K.1 + 3 ∧ (kt4 K).1 = K.1 + 4 ∧ (kt5 K).1 = K.1 + 5 := ⟨rfl, rfl, rfl, rfl, rfl⟩
theorem kt_u (K : Nat × v_TY) : UPK K (kt5 K) := ⟨by rw [(kt_n K).2.2.2.2]; omega, fun _ _ _ h => v_is_old (v_is_old (v_is_old (v_is_old (v_is_old h))))⟩
theorem zt_o {α : Type} {K : Nat × v_TY} {f : Nat → Nat → α} {x : α} {a z : Nat} (h : a < K.1) : zt K f x a z = f a z := by
  obtain ⟨e1, e2, e3, e4, -⟩ := kt_n K
  unfold zt
  rw [v_z_h (by omega), v_z_h (by omega), v_z_h (by omega), v_z_h (by omega), v_z_h (by omega)]
theorem rt_o {K : Nat × v_TY} {R : Nat → Nat → Option Nat} {t a z : Nat} (h : a < K.1) (n : a ≠ t) : rt5 K R t a z = R a z := by
  obtain ⟨e1, e2, e3, e4, -⟩ := kt_n K
  unfold rt5
  rw [v_u_h n, v_z_h (by omega), v_u_h n, v_z_h (by omega), v_u_h n, v_z_h (by omega), v_u_h n, v_z_h (by omega), v_u_h n, v_z_h (by omega)]
theorem TI_th {K : Nat × v_TY} {R : Nat → Nat → Option Nat} {t : Nat} (hi : v_is K t 7 0) (hk : K.1 = t + 1) (ht : t = 31 ∨ 91 ≤ t) : TH (kt5 K) (rt5 K R t) t := by
  obtain ⟨e1, e2, e3, e4, -⟩ := kt_n K
  have a1 : v_is (kt5 K) K.1 13 100 := v_is_old (v_is_old (v_is_old (v_is_old v_is_new)))
  have a2 : v_is (kt5 K) (kt1 K).1 14 10 := v_is_old (v_is_old (v_is_old v_is_new))
  have a3 : v_is (kt5 K) (kt2 K).1 14 10 := v_is_old (v_is_old v_is_new)
  have a4 : v_is (kt5 K) (kt3 K).1 14 10 := v_is_old v_is_new
  have a5 : v_is (kt5 K) (kt4 K).1 14 100 := v_is_new
  rw [hk] at a1
  rw [e1, hk] at a2
  rw [e2, hk] at a3
  rw [e3, hk] at a4
  rw [e4, hk] at a5
  refine ⟨(kt_u K).2 _ _ _ hi, ⟨a1, a2, a3, a4, a5⟩, ⟨?_, ?_, ?_, ?_, ?_⟩, ht⟩
  · unfold rt5; rw [v_u_k (by decide), v_z_h (by omega), v_u_k (by decide), v_z_h (by omega), v_u_k (by decide), v_z_h (by omega), v_u_k (by decide), v_z_h (by omega), v_u_same, hk]
  · unfold rt5; rw [v_u_k (by decide), v_z_h (by omega), v_u_k (by decide), v_z_h (by omega), v_u_k (by decide), v_z_h (by omega), v_u_same, e1, hk]
  · unfold rt5; rw [v_u_k (by decide), v_z_h (by omega), v_u_k (by decide), v_z_h (by omega), v_u_same, e2, hk]
  · unfold rt5; rw [v_u_k (by decide), v_z_h (by omega), v_u_same, e3, hk]
  · unfold rt5; rw [v_u_same, e4, hk]
abbrev rm_X7_init : Room := { frames := 1, cells := 5, slots := 230, locals := 20 }
set_option maxRecDepth 20000 in
theorem c_X7_init (G : v_G) (l : Launch) {K : Nat × v_TY} {I : Nat → Nat → Int32} {J : Nat → Nat → Int64} {R : Nat → Nat → Option Nat} {t : Nat} (hi : v_is K t 7 0) (hK : K.1 < 900000) : v_M G l yX7_init cX7_init 1 none rm_X7_init [.ref t] (K, I, J, R) (v_Qv G (fun (M' : v_MM) => M' = (kt5 K, zt K I 0, zt K J 0, rt5 K R t))) := by
  refine v_of [some (.ref t)] (by decide) (Nat.le_of_ble_eq_true rfl) (Nat.le_of_ble_eq_true rfl) rfl ?_
  refine v_aload_n (pc := 0) dX7_init_0 rfl rfl ?_
  refine v_objInit (pc := 1) kO_X7_3 ko1 ko2 dX7_init_1 (Nat.le_of_ble_eq_true rfl) (Nat.le_of_ble_eq_true rfl) ?_
  refine v_aload_n (pc := 4) dX7_init_4 rfl rfl ?_
  refine v_bipush (pc := 5) (v := nI 100) dX7_init_5 (by decide) ?_
  refine v_newa_byte (pc := 7) ac_byte dX7_init_7 (t_nn (by decide)) (nI_clamp (by decide)) (by decide) (by have e := kt_n K; simp only [kt1, kt2, kt3, kt4, kt5] at e; omega) (Nat.le_of_ble_eq_true rfl) (Nat.le_of_ble_eq_true rfl) ?_
  refine v_putH (pc := 9) pg_X7_9_7 (fun _ => rfl) dX7_init_9 (v_is_old hi) (fun _ => rfl) rfl ?_
  refine v_aload_n (pc := 12) dX7_init_12 rfl rfl ?_
  refine v_bipush (pc := 13) (v := nI 10) dX7_init_13 (by decide) ?_
  refine v_newa_int (pc := 15) ac_int dX7_init_15 (t_nn (by decide)) (nI_clamp (by decide)) (by decide) (by have e := kt_n K; simp only [kt1, kt2, kt3, kt4, kt5] at e; omega) (Nat.le_of_ble_eq_true rfl) (Nat.le_of_ble_eq_true rfl) ?_
  refine v_putH (pc := 17) pg_X7_15_7 (fun _ => rfl) dX7_init_17 (v_is_old (v_is_old hi)) (fun _ => rfl) rfl ?_
  refine v_aload_n (pc := 20) dX7_init_20 rfl rfl ?_
  refine v_bipush (pc := 21) (v := nI 10) dX7_init_21 (by decide) ?_
  refine v_newa_int (pc := 23) ac_int dX7_init_23 (t_nn (by decide)) (nI_clamp (by decide)) (by decide) (by have e := kt_n K; simp only [kt1, kt2, kt3, kt4, kt5] at e; omega) (Nat.le_of_ble_eq_true rfl) (Nat.le_of_ble_eq_true rfl) ?_
  refine v_putH (pc := 25) pg_X7_19_7 (fun _ => rfl) dX7_init_25 (v_is_old (v_is_old (v_is_old hi))) (fun _ => rfl) rfl ?_
  refine v_aload_n (pc := 28) dX7_init_28 rfl rfl ?_
  refine v_bipush (pc := 29) (v := nI 10) dX7_init_29 (by decide) ?_
  refine v_newa_int (pc := 31) ac_int dX7_init_31 (t_nn (by decide)) (nI_clamp (by decide)) (by decide) (by have e := kt_n K; simp only [kt1, kt2, kt3, kt4, kt5] at e; omega) (Nat.le_of_ble_eq_true rfl) (Nat.le_of_ble_eq_true rfl) ?_
  refine v_putH (pc := 33) pg_X7_22_7 (fun _ => rfl) dX7_init_33 (v_is_old (v_is_old (v_is_old (v_is_old hi)))) (fun _ => rfl) rfl ?_
  refine v_aload_n (pc := 36) dX7_init_36 rfl rfl ?_
  refine v_bipush (pc := 37) (v := nI 100) dX7_init_37 (by decide) ?_
  refine v_newa_int (pc := 39) ac_int dX7_init_39 (t_nn (by decide)) (nI_clamp (by decide)) (by decide) (by have e := kt_n K; simp only [kt1, kt2, kt3, kt4, kt5] at e; omega) (Nat.le_of_ble_eq_true rfl) (Nat.le_of_ble_eq_true rfl) ?_
  refine v_putH (pc := 41) pg_X7_25_7 (fun _ => rfl) dX7_init_41 (v_is_old (v_is_old (v_is_old (v_is_old (v_is_old hi))))) (fun _ => rfl) rfl ?_
  exact v_vret (pc := 44) dX7_init_44 rfl (Nat.le_of_ble_eq_true rfl) (Nat.le_of_ble_eq_true rfl) rfl
